theorem kw_444 : .fieldLink R_Mo 50 "PaxosCommitModel" "ballot" "[I" ∈ WS := List.mem_filter.mpr ⟨List.mem_append_right _ (List.mem_of_getElem? (i := 928) (by decide +kernel)), by decide +kernel⟩
theorem kw_445 : .fieldLink R_Mo 53 "PaxosCommitModel" "proposed" "[Z" ∈ WS := List.mem_filter.mpr ⟨List.mem_append_right _ (List.mem_of_getElem? (i := 929) (by decide +kernel)), by decide +kernel⟩
theorem kw_446 : .code y_Mo_proposal b_Mo_proposal 7 (some .int) ∈ WS := List.mem_filter.mpr ⟨List.mem_append_right _ (List.mem_of_getElem? (i := 1081) (by decide +kernel)), by decide +kernel⟩
theorem kw_447 : .methodLink R_Mo 130 y_Mo_proposal ∈ WS := List.mem_filter.mpr ⟨List.mem_append_right _ (List.mem_of_getElem? (i := 1078) (by decide +kernel)), by decide +kernel⟩
theorem kw_448 : .instanceMethod y_Mo_proposal ∈ WS := List.mem_filter.mpr ⟨List.mem_append_right _ (List.mem_of_getElem? (i := 1080) (by decide +kernel)), by decide +kernel⟩
theorem kw_449 : .selects R_Mo y_Mo_proposal y_Mo_proposal ∈ WS := List.mem_filter.mpr ⟨List.mem_append_left _ (List.mem_of_getElem? (i := 35) (by decide +kernel)), by decide +kernel⟩
theorem hd_Mo_proposal : y_Mo_proposal.cls ≠ "java/lang/invoke/MethodHandle" ∧ y_Mo_proposal.cls ≠ "java/lang/invoke/VarHandle" ∧ (parseMethodDescriptor y_Mo_proposal.desc).map (fun d => d.parameters.length) = some 2 := by decide +kernel
set_option maxHeartbeats 4000000 in
set_option maxRecDepth 100000 in
theorem c_M_reply (l : Launch) (G : GT) (hG : GOK G) (d : DD) (ld t a : Nat) (hld : ld < 2) (ht : t < 8) (ha : a < 3) (b : Int32) (hN : MN d) (fn : d 600 1 = nI (gn G)) : Met l y_Mo_reply (.code y_Mo_reply b_Mo_reply 9 none :: WS) { frames := 2, cells := 0, slots := 0, locals := 54 } (cPre G [.ref (gad G (600)), .int (nI ld), .int (nI t), .int (nI a), .int (b), .int (780)] d) (cQv G (fun u9 => u9 = m_rep d (gn G) (8 * ld + t) a t b)) 0 0 (gAb G) := by
  refine c_start (own := R_Mo) (by decide +kernel) rfl (Nat.le_of_ble_eq_true rfl) ?_
  intro p e zs zm below meth zc ls C hW hl
  obtain ⟨hx, hb, hr, hml, hown, hts, hlk, hE, hbs⟩ := C
  have hK := hE.1
  have hn3 := hG.1
  have hl : lv_has ls 9 [(0, .ref (gad G (600))), (1, .int (nI ld)), (2, .int (nI t)), (3, .int (nI a)), (4, .int (b)), (5, .int (780))] := hl
  refine lv_bipush (v := 8) hx hb d_Mo_reply_0 (by decide) ?_
  refine lv_iload_n hx hb d_Mo_reply_2 rfl (lv_at hl 1 rfl) ?_
  refine lv_imul hx hb d_Mo_reply_3 ?_
  refine e_top (v := nI (8 * ld)) (pk_mul (8) (ld)) ?_
  refine lv_iload_n hx hb d_Mo_reply_4 rfl (lv_at hl 2 rfl) ?_
  refine lv_iadd hx hb d_Mo_reply_5 ?_
  refine e_top (v := nI (8 * ld + t)) (nI_add (8 * ld) (t)) ?_
  refine lv_istore (lv' := [(6, .int (nI (8 * ld + t))), (0, .ref (gad G (600))), (1, .int (nI ld)), (2, .int (nI t)), (3, .int (nI a)), (4, .int (b)), (5, .int (780))]) hx hb d_Mo_reply_6 hl (by decide) rfl (fun ls hl => ?_)
  refine lv_aload_n hx hb d_Mo_reply_8 rfl (lv_at hl 1 rfl) ?_
  refine e_get (v := .ref (gad G (616))) hx hb hts hown hK hW (F_Mo G hG) i_Mo rfl 16 (by decide) (hts _ kw_444) (fun _ h => h) rfl d_Mo_reply_9 ?_
  refine lv_iload hx hb d_Mo_reply_12 (lv_at hl 0 rfl) ?_
  refine e_iald hx hb hK hW (F_Mballot G hG) (j := 8 * ld + t) (by omega) (x := d (616) (8 * ld + t)) (rfl) rfl d_Mo_reply_14 ?_
  refine lv_iload hx hb d_Mo_reply_15 (lv_at hl 5 rfl) ?_
  refine lv_icmp_ne (tgt := 30) hx hb d_Mo_reply_17 (by decide) (fun c_1 => ?_) (fun c_1 => ?_)
  · skip
    exact e_vret hx hb hr hlk hW (by unfold m_rep; rw [if_neg c_1]) (Nat.zero_le _) (Nat.zero_le _) d_Mo_reply_30
  · skip
    refine lv_aload_n hx hb d_Mo_reply_20 rfl (lv_at hl 1 rfl) ?_
    refine e_get (v := .ref (gad G (617))) hx hb hts hown hK hW (F_Mo G hG) i_Mo rfl 17 (by decide) (hts _ kw_445) (fun _ h => h) rfl d_Mo_reply_21 ?_
    refine lv_iload hx hb d_Mo_reply_24 (lv_at hl 0 rfl) ?_
    refine e_zald hx hb hK hW (F_Mproposed G hG) (j := 8 * ld + t) (by omega) (x := d (617) (8 * ld + t)) (rfl) rfl d_Mo_reply_26 ?_
    refine lv_if_eq (tgt := 31) hx hb d_Mo_reply_27 (by decide) (fun c_2 => ?_) (fun c_2 => ?_)
    · skip
      refine lv_aload_n hx hb d_Mo_reply_31 rfl (lv_at hl 1 rfl) ?_
      refine e_get (v := .ref (gad G (619))) hx hb hts hown hK hW (F_Mo G hG) i_Mo rfl 19 (by decide) (hts _ kw_416) (fun _ h => h) rfl d_Mo_reply_32 ?_
      refine lv_iconst (v := 3) hx hb d_Mo_reply_35 (by decide) ?_
      refine lv_iload hx hb d_Mo_reply_36 (lv_at hl 0 rfl) ?_
      refine lv_imul hx hb d_Mo_reply_38 ?_
      refine e_top (v := nI (3 * (8 * ld + t))) (pk_mul (3) (8 * ld + t)) ?_
      refine lv_iload_n hx hb d_Mo_reply_39 rfl (lv_at hl 4 rfl) ?_
      refine lv_iadd hx hb d_Mo_reply_40 ?_
      refine e_top (v := nI (3 * (8 * ld + t) + a)) (nI_add (3 * (8 * ld + t)) (a)) ?_
      refine lv_iconst (v := 1) hx hb d_Mo_reply_41 (by decide) ?_
      refine e_zast hx hb hK hW (F_Mreplied G hG) (j := 3 * (8 * ld + t) + a) (by omega) rfl (by decide) d_Mo_reply_42 (fun H locs hW => ?_)
      refine lv_iconst (v := 0) hx hb d_Mo_reply_43 (by decide) ?_
      refine lv_istore (lv' := [(7, .int (0)), (6, .int (nI (8 * ld + t))), (0, .ref (gad G (600))), (1, .int (nI ld)), (2, .int (nI t)), (3, .int (nI a)), (4, .int (b)), (5, .int (780))]) hx hb d_Mo_reply_44 hl (by decide) rfl (fun ls hl => ?_)
      refine lv_iconst (v := 0) hx hb d_Mo_reply_46 (by decide) ?_
      refine lv_istore (lv' := [(8, .int (0)), (7, .int (0)), (6, .int (nI (8 * ld + t))), (0, .ref (gad G (600))), (1, .int (nI ld)), (2, .int (nI t)), (3, .int (nI a)), (4, .int (b)), (5, .int (780))]) hx hb d_Mo_reply_47 hl (by decide) rfl (fun ls hl => ?_)
      have L_49 : ∀ (N s : Nat), s ≤ 3 → 3 + 1 ≤ s + N → ∀ (H : Heap) (locs : List Loc) (ls : Array Slot), WD G zs.heap (lpMK (up2 d 619 (3 * (8 * ld + t) + a) 1) (8 * ld + t) a s) H locs → lv_has ls 9 [(8, .int (nI s)), (7, .int (mnF (up2 d 619 (3 * (8 * ld + t) + a) 1) (8 * ld + t) a s)), (6, .int (nI (8 * ld + t))), (0, .ref (gad G (600))), (1, .int (nI ld)), (2, .int (nI t)), (3, .int (nI a)), (4, .int (b)), (5, .int (780))] → (lpMK (up2 d 619 (3 * (8 * ld + t) + a) 1) (8 * ld + t) a s 600 1 = nI (gn G)) → (MN (lpMK (up2 d 619 (3 * (8 * ld + t) + a) 1) (8 * ld + t) a s)) → W p l e { frames := 2, cells := 0, slots := 0, locals := 54 } zs zm [.ref (gad G (600)), .int (nI ld), .int (nI t), .int (nI a), .int (b), .int (780)].toArray below meth zc H locs 0 0 (MQ below (cQv G (fun u9 => u9 = m_rep d (gn G) (8 * ld + t) a t b)) [.ref (gad G (600)), .int (nI ld), .int (nI t), .int (nI a), .int (b), .int (780)].toArray zs 0 0 (gAb G)) (F0 zm 49 ls []) := by
        intro N
        induction N with
        | zero => intro s h1 h2; exact absurd h2 (by omega)
        | succ N ih_s =>
          intro s hi_s hN_s H locs ls hW hl fn1 hM_s
          refine lv_iload hx hb d_Mo_reply_49 (lv_at hl 0 rfl) ?_
          refine lv_iconst (v := 3) hx hb d_Mo_reply_51 (by decide) ?_
          refine lv_icmp_ge (tgt := 146) hx hb d_Mo_reply_52 (by decide) (fun c_3 => ?_) (fun c_3 => ?_)
          · skip
            have e_s : 3 = s := (lp_out rfl (by omega) hi_s c_3).symm
            subst e_s
            refine lv_iload hx hb d_Mo_reply_146 (lv_at hl 1 rfl) ?_
            refine lv_aload_n hx hb d_Mo_reply_148 rfl (lv_at hl 3 rfl) ?_
            refine e_ci (e_runV hx hb hml hown hts hE hbs hW (F_Mo G hG) rfl (c_M_most l G hG (lpMK (up2 d 619 (3 * (8 * ld + t) + a) 1) (8 * ld + t) a 3) ) kw_420 kw_421 kw_422 kw_412 kw_419 rfl rfl hd_Mo_most ⟨Nat.le_of_ble_eq_true rfl, Nat.le_of_ble_eq_true rfl⟩ (As := []) (rest := [.int (mnF (up2 d 619 (3 * (8 * ld + t) + a) 1) (8 * ld + t) a 3)]) rfl hl.1 rfl (Nat.le_of_ble_eq_true rfl) d_Mo_reply_149 ⟨Nat.le_of_ble_eq_true rfl, Nat.le_of_ble_eq_true rfl⟩) hW (fun r d' H locs hp hW => ?_)
            obtain ⟨hp1, hp2⟩ := hp
            have hp1 := hp1.symm; subst hp1
            have hp2 := hp2.symm; subst hp2
            refine lv_icmp_ge (tgt := 156) hx hb d_Mo_reply_152 (by decide) (fun c_4 => ?_) (fun c_4 => ?_)
            · skip
              refine lv_aload_n hx hb d_Mo_reply_156 rfl (lv_at hl 3 rfl) ?_
              refine e_get (v := .ref (gad G (617))) hx hb hts hown hK hW (F_Mo G hG) i_Mo rfl 17 (by decide) (hts _ kw_445) (fun _ h => h) rfl d_Mo_reply_157 ?_
              refine lv_iload hx hb d_Mo_reply_160 (lv_at hl 2 rfl) ?_
              refine lv_iconst (v := 1) hx hb d_Mo_reply_162 (by decide) ?_
              refine e_zast hx hb hK hW (F_Mproposed G hG) (j := 8 * ld + t) (by omega) rfl (by decide) d_Mo_reply_163 (fun H locs hW => ?_)
              refine lv_iconst (v := 0) hx hb d_Mo_reply_164 (by decide) ?_
              refine lv_istore (lv' := [(8, .int (0)), (7, .int (mnF (up2 d 619 (3 * (8 * ld + t) + a) 1) (8 * ld + t) a 3)), (6, .int (nI (8 * ld + t))), (0, .ref (gad G (600))), (1, .int (nI ld)), (2, .int (nI t)), (3, .int (nI a)), (4, .int (b)), (5, .int (780))]) hx hb d_Mo_reply_165 hl (by decide) rfl (fun ls hl => ?_)
              have L_167 : ∀ (N s : Nat), s ≤ 3 → 3 + 1 ≤ s + N → ∀ (H : Heap) (locs : List Loc) (ls : Array Slot), WD G zs.heap (lpMW (up2 (lpMK (up2 d 619 (3 * (8 * ld + t) + a) 1) (8 * ld + t) a 3) 617 (8 * ld + t) 1) (gn G) (8 * ld + t) t b s) H locs → lv_has ls 9 [(8, .int (nI s)), (7, .int (mnF (up2 d 619 (3 * (8 * ld + t) + a) 1) (8 * ld + t) a 3)), (6, .int (nI (8 * ld + t))), (0, .ref (gad G (600))), (1, .int (nI ld)), (2, .int (nI t)), (3, .int (nI a)), (4, .int (b)), (5, .int (780))] → (MN (lpMW (up2 (lpMK (up2 d 619 (3 * (8 * ld + t) + a) 1) (8 * ld + t) a 3) 617 (8 * ld + t) 1) (gn G) (8 * ld + t) t b s)) → ((lpMW (up2 (lpMK (up2 d 619 (3 * (8 * ld + t) + a) 1) (8 * ld + t) a 3) 617 (8 * ld + t) 1) (gn G) (8 * ld + t) t b s) (600) (1) = nI (gn G)) → W p l e { frames := 2, cells := 0, slots := 0, locals := 54 } zs zm [.ref (gad G (600)), .int (nI ld), .int (nI t), .int (nI a), .int (b), .int (780)].toArray below meth zc H locs 0 0 (MQ below (cQv G (fun u9 => u9 = m_rep d (gn G) (8 * ld + t) a t b)) [.ref (gad G (600)), .int (nI ld), .int (nI t), .int (nI a), .int (b), .int (780)].toArray zs 0 0 (gAb G)) (F0 zm 167 ls []) := by
                intro N
                induction N with
                | zero => intro s h1 h2; exact absurd h2 (by omega)
                | succ N ih_s =>
                  intro s hi_s hN_s H locs ls hW hl hM_s f0_s
                  refine lv_iload hx hb d_Mo_reply_167 (lv_at hl 0 rfl) ?_
                  refine lv_iconst (v := 3) hx hb d_Mo_reply_169 (by decide) ?_
                  refine lv_icmp_ge (tgt := 206) hx hb d_Mo_reply_170 (by decide) (fun c_5 => ?_) (fun c_5 => ?_)
                  · skip
                    have e_s : 3 = s := (lp_out rfl (by omega) hi_s c_5).symm
                    subst e_s
                    exact e_vret hx hb hr hlk hW (by unfold m_rep; rw [if_pos c_1, if_pos c_2, if_pos c_4]) (Nat.zero_le _) (Nat.zero_le _) d_Mo_reply_206
                  · skip
                    have lt_s : s < 3 := lp_in rfl (by omega) hi_s c_5
                    refine lv_aload_n hx hb d_Mo_reply_173 rfl (lv_at hl 3 rfl) ?_
                    refine lv_iload_n hx hb d_Mo_reply_174 rfl (lv_at hl 5 rfl) ?_
                    refine lv_iload hx hb d_Mo_reply_175 (lv_at hl 0 rfl) ?_
                    refine e_ci (e_runV hx hb hml hown hts hE hbs hW (F_Mo G hG) rfl (c_M_member l G hG (lpMW (up2 (lpMK (up2 d 619 (3 * (8 * ld + t) + a) 1) (8 * ld + t) a 3) 617 (8 * ld + t) 1) (gn G) (8 * ld + t) t b s) t s ht) kw_438 kw_439 kw_440 kw_412 kw_437 rfl rfl hd_Mo_member ⟨Nat.le_of_ble_eq_true rfl, Nat.le_of_ble_eq_true rfl⟩ (As := [.int (nI t), .int (nI s)]) (rest := []) rfl hl.1 rfl (Nat.le_of_ble_eq_true rfl) d_Mo_reply_177 ⟨Nat.le_of_ble_eq_true rfl, Nat.le_of_ble_eq_true rfl⟩) hW (fun r d' H locs hp hW => ?_)
                    obtain ⟨hp1, hp2⟩ := hp
                    have hp1 := hp1.symm; subst hp1
                    have hp2 := hp2.symm; subst hp2
                    refine lv_if_eq (tgt := 200) hx hb d_Mo_reply_180 (by decide) (fun c_6 => ?_) (fun c_6 => ?_)
                    · skip
                      refine lv_iinc (v := nI (s + 1)) (lv' := [(8, .int (nI (s + 1))), (7, .int (mnF (up2 d 619 (3 * (8 * ld + t) + a) 1) (8 * ld + t) a 3)), (6, .int (nI (8 * ld + t))), (0, .ref (gad G (600))), (1, .int (nI ld)), (2, .int (nI t)), (3, .int (nI a)), (4, .int (b)), (5, .int (780))]) hx hb d_Mo_reply_200 hl (k := 0) rfl (nI_1 (s)) (by decide) rfl (fun ls hl => ?_)
                      refine lv_goto (tgt := 167) hx hb d_Mo_reply_203 (by decide) ?_
                      exact ih_s (s + 1) (by omega) (by omega) _ _ _ (by rw [show lpMW (up2 (lpMK (up2 d 619 (3 * (8 * ld + t) + a) 1) (8 * ld + t) a 3) 617 (8 * ld + t) 1) (gn G) (8 * ld + t) t b (s + 1) = (lpMW (up2 (lpMK (up2 d 619 (3 * (8 * ld + t) + a) 1) (8 * ld + t) a 3) 617 (8 * ld + t) 1) (gn G) (8 * ld + t) t b s) from if_pos c_6]; exact hW) (lv_sub hl [0, 1, 2, 3, 4, 5, 6, 7, 8] rfl) (by rw [show lpMW (up2 (lpMK (up2 d 619 (3 * (8 * ld + t) + a) 1) (8 * ld + t) a 3) 617 (8 * ld + t) 1) (gn G) (8 * ld + t) t b (s + 1) = (lpMW (up2 (lpMK (up2 d 619 (3 * (8 * ld + t) + a) 1) (8 * ld + t) a 3) 617 (8 * ld + t) 1) (gn G) (8 * ld + t) t b s) from if_pos c_6]; exact (show MN (lpMW (up2 (lpMK (up2 d 619 (3 * (8 * ld + t) + a) 1) (8 * ld + t) a 3) 617 (8 * ld + t) 1) (gn G) (8 * ld + t) t b s) from hM_s)) (by rw [show lpMW (up2 (lpMK (up2 d 619 (3 * (8 * ld + t) + a) 1) (8 * ld + t) a 3) 617 (8 * ld + t) 1) (gn G) (8 * ld + t) t b (s + 1) = (lpMW (up2 (lpMK (up2 d 619 (3 * (8 * ld + t) + a) 1) (8 * ld + t) a 3) 617 (8 * ld + t) 1) (gn G) (8 * ld + t) t b s) from if_pos c_6]; exact (show (lpMW (up2 (lpMK (up2 d 619 (3 * (8 * ld + t) + a) 1) (8 * ld + t) a 3) 617 (8 * ld + t) 1) (gn G) (8 * ld + t) t b s) (600) (1) = nI (gn G) from (f0_s)))
                    · skip
                      refine lv_aload_n hx hb d_Mo_reply_183 rfl (lv_at hl 3 rfl) ?_
                      refine lv_iload_n hx hb d_Mo_reply_184 rfl (lv_at hl 5 rfl) ?_
                      refine lv_iload hx hb d_Mo_reply_185 (lv_at hl 0 rfl) ?_
                      refine lv_iload hx hb d_Mo_reply_187 (lv_at hl 7 rfl) ?_
                      refine lv_aload_n hx hb d_Mo_reply_189 rfl (lv_at hl 3 rfl) ?_
                      refine lv_iload hx hb d_Mo_reply_190 (lv_at hl 2 rfl) ?_
                      refine lv_iload hx hb d_Mo_reply_192 (lv_at hl 0 rfl) ?_
                      refine e_ci (e_runV hx hb hml hown hts hE hbs hW (F_Mo G hG) rfl (c_M_proposal l G hG (lpMW (up2 (lpMK (up2 d 619 (3 * (8 * ld + t) + a) 1) (8 * ld + t) a 3) 617 (8 * ld + t) 1) (gn G) (8 * ld + t) t b s) (8 * ld + t) s (by omega) (by omega)) kw_447 kw_448 kw_449 kw_412 kw_446 rfl rfl hd_Mo_proposal ⟨Nat.le_of_ble_eq_true rfl, Nat.le_of_ble_eq_true rfl⟩ (As := [.int (nI (8 * ld + t)), .int (nI s)]) (rest := [.int (b), .int (nI s), .int (nI t), .ref (gad G (600))]) rfl hl.1 rfl (Nat.le_of_ble_eq_true rfl) d_Mo_reply_194 ⟨Nat.le_of_ble_eq_true rfl, Nat.le_of_ble_eq_true rfl⟩) hW (fun r d' H locs hp hW => ?_)
                      obtain ⟨hp1, hp2⟩ := hp
                      have hp1 := hp1.symm; subst hp1
                      have hp2 := hp2.symm; subst hp2
                      refine e_cv (e_runV hx hb hml hown hts hE hbs hW (F_Mo G hG) rfl (c_M_vote l G hG (lpMW (up2 (lpMK (up2 d 619 (3 * (8 * ld + t) + a) 1) (8 * ld + t) a 3) 617 (8 * ld + t) 1) (gn G) (8 * ld + t) t b s) (nI t) (nI s) (b) (prV (lpMW (up2 (lpMK (up2 d 619 (3 * (8 * ld + t) + a) 1) (8 * ld + t) a 3) 617 (8 * ld + t) 1) (gn G) (8 * ld + t) t b s) (8 * ld + t) s 3) hM_s (f0_s)) kw_434 kw_435 kw_436 kw_412 kw_433 rfl rfl hd_Mo_vote ⟨Nat.le_of_ble_eq_true rfl, Nat.le_of_ble_eq_true rfl⟩ (As := [.int (nI t), .int (nI s), .int (b), .int (prV (lpMW (up2 (lpMK (up2 d 619 (3 * (8 * ld + t) + a) 1) (8 * ld + t) a 3) 617 (8 * ld + t) 1) (gn G) (8 * ld + t) t b s) (8 * ld + t) s 3)]) (rest := []) rfl hl.1 rfl (Nat.le_of_ble_eq_true rfl) d_Mo_reply_197 ⟨Nat.le_of_ble_eq_true rfl, Nat.le_of_ble_eq_true rfl⟩) hW (fun d' H locs hp hW => ?_)
                      have hp := hp.symm; subst hp
                      refine lv_iinc (v := nI (s + 1)) (lv' := [(8, .int (nI (s + 1))), (7, .int (mnF (up2 d 619 (3 * (8 * ld + t) + a) 1) (8 * ld + t) a 3)), (6, .int (nI (8 * ld + t))), (0, .ref (gad G (600))), (1, .int (nI ld)), (2, .int (nI t)), (3, .int (nI a)), (4, .int (b)), (5, .int (780))]) hx hb d_Mo_reply_200 hl (k := 0) rfl (nI_1 (s)) (by decide) rfl (fun ls hl => ?_)
                      refine lv_goto (tgt := 167) hx hb d_Mo_reply_203 (by decide) ?_
                      exact ih_s (s + 1) (by omega) (by omega) _ _ _ (by rw [show lpMW (up2 (lpMK (up2 d 619 (3 * (8 * ld + t) + a) 1) (8 * ld + t) a 3) 617 (8 * ld + t) 1) (gn G) (8 * ld + t) t b (s + 1) = (lpMV (lpMW (up2 (lpMK (up2 d 619 (3 * (8 * ld + t) + a) 1) (8 * ld + t) a 3) 617 (8 * ld + t) 1) (gn G) (8 * ld + t) t b s) (nI t) (nI s) (b) (prV (lpMW (up2 (lpMK (up2 d 619 (3 * (8 * ld + t) + a) 1) (8 * ld + t) a 3) 617 (8 * ld + t) 1) (gn G) (8 * ld + t) t b s) (8 * ld + t) s 3) (gn G)) from if_neg c_6]; exact hW) (lv_sub hl [0, 1, 2, 3, 4, 5, 6, 7, 8] rfl) (by rw [show lpMW (up2 (lpMK (up2 d 619 (3 * (8 * ld + t) + a) 1) (8 * ld + t) a 3) 617 (8 * ld + t) 1) (gn G) (8 * ld + t) t b (s + 1) = (lpMV (lpMW (up2 (lpMK (up2 d 619 (3 * (8 * ld + t) + a) 1) (8 * ld + t) a 3) 617 (8 * ld + t) 1) (gn G) (8 * ld + t) t b s) (nI t) (nI s) (b) (prV (lpMW (up2 (lpMK (up2 d 619 (3 * (8 * ld + t) + a) 1) (8 * ld + t) a 3) 617 (8 * ld + t) 1) (gn G) (8 * ld + t) t b s) (8 * ld + t) s 3) (gn G)) from if_neg c_6]; exact (show MN (lpMV (lpMW (up2 (lpMK (up2 d 619 (3 * (8 * ld + t) + a) 1) (8 * ld + t) a 3) 617 (8 * ld + t) 1) (gn G) (8 * ld + t) t b s) (nI t) (nI s) (b) (prV (lpMW (up2 (lpMK (up2 d 619 (3 * (8 * ld + t) + a) 1) (8 * ld + t) a 3) 617 (8 * ld + t) 1) (gn G) (8 * ld + t) t b s) (8 * ld + t) s 3) (gn G)) from ((lpMV_ok hM_s _).1))) (by rw [show lpMW (up2 (lpMK (up2 d 619 (3 * (8 * ld + t) + a) 1) (8 * ld + t) a 3) 617 (8 * ld + t) 1) (gn G) (8 * ld + t) t b (s + 1) = (lpMV (lpMW (up2 (lpMK (up2 d 619 (3 * (8 * ld + t) + a) 1) (8 * ld + t) a 3) 617 (8 * ld + t) 1) (gn G) (8 * ld + t) t b s) (nI t) (nI s) (b) (prV (lpMW (up2 (lpMK (up2 d 619 (3 * (8 * ld + t) + a) 1) (8 * ld + t) a 3) 617 (8 * ld + t) 1) (gn G) (8 * ld + t) t b s) (8 * ld + t) s 3) (gn G)) from if_neg c_6]; exact (show (lpMV (lpMW (up2 (lpMK (up2 d 619 (3 * (8 * ld + t) + a) 1) (8 * ld + t) a 3) 617 (8 * ld + t) 1) (gn G) (8 * ld + t) t b s) (nI t) (nI s) (b) (prV (lpMW (up2 (lpMK (up2 d 619 (3 * (8 * ld + t) + a) 1) (8 * ld + t) a 3) 617 (8 * ld + t) 1) (gn G) (8 * ld + t) t b s) (8 * ld + t) s 3) (gn G)) (600) (1) = nI (gn G) from ((((lpMV_ok hM_s _).2.2 _ (by decide) (by decide)).trans (f0_s)))))
              exact L_167 (3 + 1) 0 (by omega) (by omega) _ _ _ hW (lv_sub hl [0, 1, 2, 3, 4, 5, 6, 7, 8] rfl) (show MN (up2 (lpMK (up2 d 619 (3 * (8 * ld + t) + a) 1) (8 * ld + t) a 3) (617) (8 * ld + t) (1)) from (MN_keep hM_s (up2_nc (by omega)))) (show (up2 (lpMK (up2 d 619 (3 * (8 * ld + t) + a) 1) (8 * ld + t) a 3) (617) (8 * ld + t) (1)) (600) (1) = nI (gn G) from ((up2_nc (by omega)).trans (fn1)))
            · skip
              exact e_vret hx hb hr hlk hW (by unfold m_rep; rw [if_pos c_1, if_pos c_2, if_neg c_4]) (Nat.zero_le _) (Nat.zero_le _) d_Mo_reply_155
          · skip
            have lt_s : s < 3 := lp_in rfl (by omega) hi_s c_3
            refine lv_aload_n hx hb d_Mo_reply_55 rfl (lv_at hl 3 rfl) ?_
            refine e_get (v := .ref (gad G (620))) hx hb hts hown hK hW (F_Mo G hG) i_Mo rfl 20 (by decide) (hts _ kw_417) (fun _ h => h) rfl d_Mo_reply_56 ?_
            refine lv_bipush (v := 9) hx hb d_Mo_reply_59 (by decide) ?_
            refine lv_iload hx hb d_Mo_reply_61 (lv_at hl 2 rfl) ?_
            refine lv_imul hx hb d_Mo_reply_63 ?_
            refine e_top (v := nI (9 * (8 * ld + t))) (pk_mul (9) (8 * ld + t)) ?_
            refine lv_iconst (v := 3) hx hb d_Mo_reply_64 (by decide) ?_
            refine lv_iload_n hx hb d_Mo_reply_65 rfl (lv_at hl 6 rfl) ?_
            refine lv_imul hx hb d_Mo_reply_66 ?_
            refine e_top (v := nI (3 * a)) (pk_mul (3) (a)) ?_
            refine lv_iadd hx hb d_Mo_reply_67 ?_
            refine e_top (v := nI (9 * (8 * ld + t) + 3 * a)) (nI_add (9 * (8 * ld + t)) (3 * a)) ?_
            refine lv_iload hx hb d_Mo_reply_68 (lv_at hl 0 rfl) ?_
            refine lv_iadd hx hb d_Mo_reply_70 ?_
            refine e_top (v := nI (9 * (8 * ld + t) + 3 * a + s)) (nI_add (9 * (8 * ld + t) + 3 * a) (s)) ?_
            refine lv_aload_n hx hb d_Mo_reply_71 rfl (lv_at hl 3 rfl) ?_
            refine e_get (v := .ref (gad G (624))) hx hb hts hown hK hW (F_Mo G hG) i_Mo rfl 24 (by decide) (hts _ kw_407) (fun _ h => h) rfl d_Mo_reply_72 ?_
            refine lv_iload hx hb d_Mo_reply_75 (lv_at hl 8 rfl) ?_
            refine lv_bipush (v := 7) hx hb d_Mo_reply_77 (by decide) ?_
            refine lv_iadd hx hb d_Mo_reply_79 ?_
            refine e_top (v := nI (780 + 7)) (nI_add (780) (7)) ?_
            refine lv_iload hx hb d_Mo_reply_80 (lv_at hl 0 rfl) ?_
            refine lv_iadd hx hb d_Mo_reply_82 ?_
            refine e_top (v := nI (780 + 7 + s)) (nI_add (780 + 7) (s)) ?_
            refine e_iald hx hb hK hW (F_Mnet G hG) (j := 780 + 7 + s) (by omega) (x := (lpMK (up2 d 619 (3 * (8 * ld + t) + a) 1) (8 * ld + t) a s) (624) (780 + 7 + s)) (rfl) rfl d_Mo_reply_83 ?_
            refine e_iast hx hb hK hW (F_MreplyBallot G hG) (j := 9 * (8 * ld + t) + 3 * a + s) (by omega) rfl d_Mo_reply_84 (fun H locs hW => ?_)
            refine lv_aload_n hx hb d_Mo_reply_85 rfl (lv_at hl 3 rfl) ?_
            refine e_get (v := .ref (gad G (621))) hx hb hts hown hK hW (F_Mo G hG) i_Mo rfl 21 (by decide) (hts _ kw_418) (fun _ h => h) rfl d_Mo_reply_86 ?_
            refine lv_bipush (v := 9) hx hb d_Mo_reply_89 (by decide) ?_
            refine lv_iload hx hb d_Mo_reply_91 (lv_at hl 2 rfl) ?_
            refine lv_imul hx hb d_Mo_reply_93 ?_
            refine e_top (v := nI (9 * (8 * ld + t))) (pk_mul (9) (8 * ld + t)) ?_
            refine lv_iconst (v := 3) hx hb d_Mo_reply_94 (by decide) ?_
            refine lv_iload_n hx hb d_Mo_reply_95 rfl (lv_at hl 6 rfl) ?_
            refine lv_imul hx hb d_Mo_reply_96 ?_
            refine e_top (v := nI (3 * a)) (pk_mul (3) (a)) ?_
            refine lv_iadd hx hb d_Mo_reply_97 ?_
            refine e_top (v := nI (9 * (8 * ld + t) + 3 * a)) (nI_add (9 * (8 * ld + t)) (3 * a)) ?_
            refine lv_iload hx hb d_Mo_reply_98 (lv_at hl 0 rfl) ?_
            refine lv_iadd hx hb d_Mo_reply_100 ?_
            refine e_top (v := nI (9 * (8 * ld + t) + 3 * a + s)) (nI_add (9 * (8 * ld + t) + 3 * a) (s)) ?_
            refine lv_aload_n hx hb d_Mo_reply_101 rfl (lv_at hl 3 rfl) ?_
            refine e_get (v := .ref (gad G (624))) hx hb hts hown hK hW (F_Mo G hG) i_Mo rfl 24 (by decide) (hts _ kw_407) (fun _ h => h) rfl d_Mo_reply_102 ?_
            refine lv_iload hx hb d_Mo_reply_105 (lv_at hl 8 rfl) ?_
            refine lv_bipush (v := 10) hx hb d_Mo_reply_107 (by decide) ?_
            refine lv_iadd hx hb d_Mo_reply_109 ?_
            refine e_top (v := nI (780 + 10)) (nI_add (780) (10)) ?_
            refine lv_iload hx hb d_Mo_reply_110 (lv_at hl 0 rfl) ?_
            refine lv_iadd hx hb d_Mo_reply_112 ?_
            refine e_top (v := nI (780 + 10 + s)) (nI_add (780 + 10) (s)) ?_
            refine e_iald hx hb hK hW (F_Mnet G hG) (j := 780 + 10 + s) (by omega) (x := (lpMK (up2 d 619 (3 * (8 * ld + t) + a) 1) (8 * ld + t) a s) (624) (780 + 10 + s)) ((up2_nc (by omega)).trans (rfl)) rfl d_Mo_reply_113 ?_
            refine e_iast hx hb hK hW (F_MreplyVote G hG) (j := 9 * (8 * ld + t) + 3 * a + s) (by omega) rfl d_Mo_reply_114 (fun H locs hW => ?_)
            refine lv_iload hx hb d_Mo_reply_115 (lv_at hl 1 rfl) ?_
            refine lv_aload_n hx hb d_Mo_reply_117 rfl (lv_at hl 3 rfl) ?_
            refine e_get (v := .ref (gad G (619))) hx hb hts hown hK hW (F_Mo G hG) i_Mo rfl 19 (by decide) (hts _ kw_416) (fun _ h => h) rfl d_Mo_reply_118 ?_
            refine lv_iconst (v := 3) hx hb d_Mo_reply_121 (by decide) ?_
            refine lv_iload hx hb d_Mo_reply_122 (lv_at hl 2 rfl) ?_
            refine lv_imul hx hb d_Mo_reply_124 ?_
            refine e_top (v := nI (3 * (8 * ld + t))) (pk_mul (3) (8 * ld + t)) ?_
            refine lv_iload hx hb d_Mo_reply_125 (lv_at hl 0 rfl) ?_
            refine lv_iadd hx hb d_Mo_reply_127 ?_
            refine e_top (v := nI (3 * (8 * ld + t) + s)) (nI_add (3 * (8 * ld + t)) (s)) ?_
            refine e_zald hx hb hK hW (F_Mreplied G hG) (j := 3 * (8 * ld + t) + s) (by omega) (x := (lpMK (up2 d 619 (3 * (8 * ld + t) + a) 1) (8 * ld + t) a s) (619) (3 * (8 * ld + t) + s)) ((up2_nc (by omega)).trans ((up2_nc (by omega)).trans (rfl))) rfl d_Mo_reply_128 ?_
            refine lv_if_eq (tgt := 136) hx hb d_Mo_reply_129 (by decide) (fun c_7 => ?_) (fun c_7 => ?_)
            · skip
              refine lv_iconst (v := 0) hx hb d_Mo_reply_136 (by decide) ?_
              refine lv_iadd hx hb d_Mo_reply_137 ?_
              refine lv_istore (lv' := [(7, .int ((mnF (up2 d 619 (3 * (8 * ld + t) + a) 1) (8 * ld + t) a s) + (0))), (8, .int (nI s)), (6, .int (nI (8 * ld + t))), (0, .ref (gad G (600))), (1, .int (nI ld)), (2, .int (nI t)), (3, .int (nI a)), (4, .int (b)), (5, .int (780))]) hx hb d_Mo_reply_138 hl (by decide) rfl (fun ls hl => ?_)
              refine lv_iinc (v := nI (s + 1)) (lv' := [(8, .int (nI (s + 1))), (7, .int ((mnF (up2 d 619 (3 * (8 * ld + t) + a) 1) (8 * ld + t) a s) + (0))), (6, .int (nI (8 * ld + t))), (0, .ref (gad G (600))), (1, .int (nI ld)), (2, .int (nI t)), (3, .int (nI a)), (4, .int (b)), (5, .int (780))]) hx hb d_Mo_reply_140 hl (k := 1) rfl (nI_1 (s)) (by decide) rfl (fun ls hl => ?_)
              refine lv_goto (tgt := 49) hx hb d_Mo_reply_143 (by decide) ?_
              exact ih_s (s + 1) (by omega) (by omega) _ _ _ (by rw [show lpMK (up2 d 619 (3 * (8 * ld + t) + a) 1) (8 * ld + t) a (s + 1) = (up2 (up2 (lpMK (up2 d 619 (3 * (8 * ld + t) + a) 1) (8 * ld + t) a s) (620) (9 * (8 * ld + t) + 3 * a + s) ((lpMK (up2 d 619 (3 * (8 * ld + t) + a) 1) (8 * ld + t) a s) (624) (780 + 7 + s))) (621) (9 * (8 * ld + t) + 3 * a + s) ((lpMK (up2 d 619 (3 * (8 * ld + t) + a) 1) (8 * ld + t) a s) (624) (780 + 10 + s))) from rfl]; exact hW) (by rw [show mnF (up2 d 619 (3 * (8 * ld + t) + a) 1) (8 * ld + t) a (s + 1) = (mnF (up2 d 619 (3 * (8 * ld + t) + a) 1) (8 * ld + t) a s) + (0) from congrArg (mnF (up2 d 619 (3 * (8 * ld + t) + a) 1) (8 * ld + t) a s + ·) (if_pos c_7)]; exact lv_sub hl [0, 1, 2, 3, 4, 5, 6, 7, 8] rfl) fn1 (by rw [show lpMK (up2 d 619 (3 * (8 * ld + t) + a) 1) (8 * ld + t) a (s + 1) = (up2 (up2 (lpMK (up2 d 619 (3 * (8 * ld + t) + a) 1) (8 * ld + t) a s) (620) (9 * (8 * ld + t) + 3 * a + s) ((lpMK (up2 d 619 (3 * (8 * ld + t) + a) 1) (8 * ld + t) a s) (624) (780 + 7 + s))) (621) (9 * (8 * ld + t) + 3 * a + s) ((lpMK (up2 d 619 (3 * (8 * ld + t) + a) 1) (8 * ld + t) a s) (624) (780 + 10 + s))) from rfl]; exact (show MN (up2 (up2 (lpMK (up2 d 619 (3 * (8 * ld + t) + a) 1) (8 * ld + t) a s) (620) (9 * (8 * ld + t) + 3 * a + s) ((lpMK (up2 d 619 (3 * (8 * ld + t) + a) 1) (8 * ld + t) a s) (624) (780 + 7 + s))) (621) (9 * (8 * ld + t) + 3 * a + s) ((lpMK (up2 d 619 (3 * (8 * ld + t) + a) 1) (8 * ld + t) a s) (624) (780 + 10 + s))) from (MN_keep hM_s ((up2_nc (by omega)).trans (up2_nc (by omega))))))
            · skip
              refine lv_iconst (v := 1) hx hb d_Mo_reply_132 (by decide) ?_
              refine lv_goto (tgt := 137) hx hb d_Mo_reply_133 (by decide) ?_
              refine lv_iadd hx hb d_Mo_reply_137 ?_
              refine lv_istore (lv' := [(7, .int ((mnF (up2 d 619 (3 * (8 * ld + t) + a) 1) (8 * ld + t) a s) + (1))), (8, .int (nI s)), (6, .int (nI (8 * ld + t))), (0, .ref (gad G (600))), (1, .int (nI ld)), (2, .int (nI t)), (3, .int (nI a)), (4, .int (b)), (5, .int (780))]) hx hb d_Mo_reply_138 hl (by decide) rfl (fun ls hl => ?_)
              refine lv_iinc (v := nI (s + 1)) (lv' := [(8, .int (nI (s + 1))), (7, .int ((mnF (up2 d 619 (3 * (8 * ld + t) + a) 1) (8 * ld + t) a s) + (1))), (6, .int (nI (8 * ld + t))), (0, .ref (gad G (600))), (1, .int (nI ld)), (2, .int (nI t)), (3, .int (nI a)), (4, .int (b)), (5, .int (780))]) hx hb d_Mo_reply_140 hl (k := 1) rfl (nI_1 (s)) (by decide) rfl (fun ls hl => ?_)
              refine lv_goto (tgt := 49) hx hb d_Mo_reply_143 (by decide) ?_
              exact ih_s (s + 1) (by omega) (by omega) _ _ _ (by rw [show lpMK (up2 d 619 (3 * (8 * ld + t) + a) 1) (8 * ld + t) a (s + 1) = (up2 (up2 (lpMK (up2 d 619 (3 * (8 * ld + t) + a) 1) (8 * ld + t) a s) (620) (9 * (8 * ld + t) + 3 * a + s) ((lpMK (up2 d 619 (3 * (8 * ld + t) + a) 1) (8 * ld + t) a s) (624) (780 + 7 + s))) (621) (9 * (8 * ld + t) + 3 * a + s) ((lpMK (up2 d 619 (3 * (8 * ld + t) + a) 1) (8 * ld + t) a s) (624) (780 + 10 + s))) from rfl]; exact hW) (by rw [show mnF (up2 d 619 (3 * (8 * ld + t) + a) 1) (8 * ld + t) a (s + 1) = (mnF (up2 d 619 (3 * (8 * ld + t) + a) 1) (8 * ld + t) a s) + (1) from congrArg (mnF (up2 d 619 (3 * (8 * ld + t) + a) 1) (8 * ld + t) a s + ·) (if_neg c_7)]; exact lv_sub hl [0, 1, 2, 3, 4, 5, 6, 7, 8] rfl) fn1 (by rw [show lpMK (up2 d 619 (3 * (8 * ld + t) + a) 1) (8 * ld + t) a (s + 1) = (up2 (up2 (lpMK (up2 d 619 (3 * (8 * ld + t) + a) 1) (8 * ld + t) a s) (620) (9 * (8 * ld + t) + 3 * a + s) ((lpMK (up2 d 619 (3 * (8 * ld + t) + a) 1) (8 * ld + t) a s) (624) (780 + 7 + s))) (621) (9 * (8 * ld + t) + 3 * a + s) ((lpMK (up2 d 619 (3 * (8 * ld + t) + a) 1) (8 * ld + t) a s) (624) (780 + 10 + s))) from rfl]; exact (show MN (up2 (up2 (lpMK (up2 d 619 (3 * (8 * ld + t) + a) 1) (8 * ld + t) a s) (620) (9 * (8 * ld + t) + 3 * a + s) ((lpMK (up2 d 619 (3 * (8 * ld + t) + a) 1) (8 * ld + t) a s) (624) (780 + 7 + s))) (621) (9 * (8 * ld + t) + 3 * a + s) ((lpMK (up2 d 619 (3 * (8 * ld + t) + a) 1) (8 * ld + t) a s) (624) (780 + 10 + s))) from (MN_keep hM_s ((up2_nc (by omega)).trans (up2_nc (by omega))))))
      exact L_49 (3 + 1) 0 (by omega) (by omega) _ _ _ hW (lv_sub hl [0, 1, 2, 3, 4, 5, 6, 7, 8] rfl) fn (show MN (up2 d (619) (3 * (8 * ld + t) + a) (1)) from (MN_keep hN (up2_nc (by omega))))
    · skip
      exact e_vret hx hb hr hlk hW (by unfold m_rep; rw [if_pos c_1, if_neg c_2]) (Nat.zero_le _) (Nat.zero_le _) d_Mo_reply_30
set_option maxHeartbeats 4000000 in
set_option maxRecDepth 100000 in
theorem c_M_accept (l : Launch) (G : GT) (hG : GOK G) (d : DD) (t s a : Nat) (ht : t < 8) (hs : s < 3) (ha : a < 3) (b v : Int32) (hN : MN d) : Met l y_Mo_accept (.code y_Mo_accept b_Mo_accept 9 none :: WS) { frames := 1, cells := 0, slots := 0, locals := 28 } (cPre G [.ref (gad G (600)), .int (nI t), .int (nI s), .int (nI a), .int (b), .int (v)] d) (cQv G (fun u9 => u9 = m_acc d a t s b v)) 0 0 (gAb G) := by
  refine c_start (own := R_Mo) (by decide +kernel) rfl (Nat.le_of_ble_eq_true rfl) ?_
  intro p e zs zm below meth zc ls C hW hl
  obtain ⟨hx, hb, hr, hml, hown, hts, hlk, hE, hbs⟩ := C
  have hK := hE.1
  have hn3 := hG.1
  have hl : lv_has ls 9 [(0, .ref (gad G (600))), (1, .int (nI t)), (2, .int (nI s)), (3, .int (nI a)), (4, .int (b)), (5, .int (v))] := hl
  refine lv_bipush (v := 24) hx hb d_Mo_accept_0 (by decide) ?_
  refine lv_iload_n hx hb d_Mo_accept_2 rfl (lv_at hl 3 rfl) ?_
  refine lv_imul hx hb d_Mo_accept_3 ?_
  refine e_top (v := nI (24 * a)) (pk_mul (24) (a)) ?_
  refine lv_iconst (v := 3) hx hb d_Mo_accept_4 (by decide) ?_
  refine lv_iload_n hx hb d_Mo_accept_5 rfl (lv_at hl 1 rfl) ?_
  refine lv_imul hx hb d_Mo_accept_6 ?_
  refine e_top (v := nI (3 * t)) (pk_mul (3) (t)) ?_
  refine lv_iadd hx hb d_Mo_accept_7 ?_
  refine e_top (v := nI (24 * a + 3 * t)) (nI_add (24 * a) (3 * t)) ?_
  refine lv_iload_n hx hb d_Mo_accept_8 rfl (lv_at hl 2 rfl) ?_
  refine lv_iadd hx hb d_Mo_accept_9 ?_
  refine e_top (v := nI (24 * a + 3 * t + s)) (nI_add (24 * a + 3 * t) (s)) ?_
  refine lv_istore (lv' := [(6, .int (nI (24 * a + 3 * t + s))), (0, .ref (gad G (600))), (1, .int (nI t)), (2, .int (nI s)), (3, .int (nI a)), (4, .int (b)), (5, .int (v))]) hx hb d_Mo_accept_10 hl (by decide) rfl (fun ls hl => ?_)
  refine lv_aload_n hx hb d_Mo_accept_12 rfl (lv_at hl 1 rfl) ?_
  refine e_get (v := .ref (gad G (613))) hx hb hts hown hK hW (F_Mo G hG) i_Mo rfl 13 (by decide) (hts _ kw_443) (fun _ h => h) rfl d_Mo_accept_13 ?_
  refine lv_iload hx hb d_Mo_accept_16 (lv_at hl 0 rfl) ?_
  refine e_iald hx hb hK hW (F_Mpromised G hG) (j := 24 * a + 3 * t + s) (by omega) (x := d (613) (24 * a + 3 * t + s)) (rfl) rfl d_Mo_accept_18 ?_
  refine lv_iload hx hb d_Mo_accept_19 (lv_at hl 5 rfl) ?_
  refine lv_icmp_le (tgt := 25) hx hb d_Mo_accept_21 (by decide) (fun c_1 => ?_) (fun c_1 => ?_)
  · skip
    refine lv_aload_n hx hb d_Mo_accept_25 rfl (lv_at hl 1 rfl) ?_
    refine e_get (v := .ref (gad G (613))) hx hb hts hown hK hW (F_Mo G hG) i_Mo rfl 13 (by decide) (hts _ kw_443) (fun _ h => h) rfl d_Mo_accept_26 ?_
    refine lv_iload hx hb d_Mo_accept_29 (lv_at hl 0 rfl) ?_
    refine lv_iload hx hb d_Mo_accept_31 (lv_at hl 5 rfl) ?_
    refine e_iast hx hb hK hW (F_Mpromised G hG) (j := 24 * a + 3 * t + s) (by omega) rfl d_Mo_accept_33 (fun H locs hW => ?_)
    refine lv_aload_n hx hb d_Mo_accept_34 rfl (lv_at hl 1 rfl) ?_
    refine e_get (v := .ref (gad G (614))) hx hb hts hown hK hW (F_Mo G hG) i_Mo rfl 14 (by decide) (hts _ kw_442) (fun _ h => h) rfl d_Mo_accept_35 ?_
    refine lv_iload hx hb d_Mo_accept_38 (lv_at hl 0 rfl) ?_
    refine lv_iload hx hb d_Mo_accept_40 (lv_at hl 5 rfl) ?_
    refine e_iast hx hb hK hW (F_MtakenBallot G hG) (j := 24 * a + 3 * t + s) (by omega) rfl d_Mo_accept_42 (fun H locs hW => ?_)
    refine lv_aload_n hx hb d_Mo_accept_43 rfl (lv_at hl 1 rfl) ?_
    refine e_get (v := .ref (gad G (615))) hx hb hts hown hK hW (F_Mo G hG) i_Mo rfl 15 (by decide) (hts _ kw_441) (fun _ h => h) rfl d_Mo_accept_44 ?_
    refine lv_iload hx hb d_Mo_accept_47 (lv_at hl 0 rfl) ?_
    refine lv_iload hx hb d_Mo_accept_49 (lv_at hl 6 rfl) ?_
    refine e_iast hx hb hK hW (F_MtakenVote G hG) (j := 24 * a + 3 * t + s) (by omega) rfl d_Mo_accept_51 (fun H locs hW => ?_)
    refine lv_iconst (v := 0) hx hb d_Mo_accept_52 (by decide) ?_
    refine lv_istore (lv' := [(7, .int (0)), (6, .int (nI (24 * a + 3 * t + s))), (0, .ref (gad G (600))), (1, .int (nI t)), (2, .int (nI s)), (3, .int (nI a)), (4, .int (b)), (5, .int (v))]) hx hb d_Mo_accept_53 hl (by decide) rfl (fun ls hl => ?_)
    have L_55 : ∀ (N j : Nat), j ≤ 2 → 2 + 1 ≤ j + N → ∀ (H : Heap) (locs : List Loc) (ls : Array Slot), WD G zs.heap (lpMT (up2 (up2 (up2 d 613 (24 * a + 3 * t + s) b) 614 (24 * a + 3 * t + s) b) 615 (24 * a + 3 * t + s) v) (nI t) (nI s) (nI a) b v j) H locs → lv_has ls 9 [(7, .int (nI j)), (6, .int (nI (24 * a + 3 * t + s))), (0, .ref (gad G (600))), (1, .int (nI t)), (2, .int (nI s)), (3, .int (nI a)), (4, .int (b)), (5, .int (v))] → (MN (lpMT (up2 (up2 (up2 d 613 (24 * a + 3 * t + s) b) 614 (24 * a + 3 * t + s) b) 615 (24 * a + 3 * t + s) v) (nI t) (nI s) (nI a) b v j)) → W p l e { frames := 1, cells := 0, slots := 0, locals := 28 } zs zm [.ref (gad G (600)), .int (nI t), .int (nI s), .int (nI a), .int (b), .int (v)].toArray below meth zc H locs 0 0 (MQ below (cQv G (fun u9 => u9 = m_acc d a t s b v)) [.ref (gad G (600)), .int (nI t), .int (nI s), .int (nI a), .int (b), .int (v)].toArray zs 0 0 (gAb G)) (F0 zm 55 ls []) := by
      intro N
      induction N with
      | zero => intro j h1 h2; exact absurd h2 (by omega)
      | succ N ih_j =>
        intro j hi_j hN_j H locs ls hW hl hM_j
        refine lv_iload hx hb d_Mo_accept_55 (lv_at hl 0 rfl) ?_
        refine lv_iconst (v := 2) hx hb d_Mo_accept_57 (by decide) ?_
        refine lv_icmp_ge (tgt := 84) hx hb d_Mo_accept_58 (by decide) (fun c_2 => ?_) (fun c_2 => ?_)
        · skip
          have e_j : 2 = j := (lp_out rfl (by omega) hi_j c_2).symm
          subst e_j
          exact e_vret hx hb hr hlk hW (by unfold m_acc; rw [if_pos c_1] <;> rfl) (Nat.zero_le _) (Nat.zero_le _) d_Mo_accept_84
        · skip
          have lt_j : j < 2 := lp_in rfl (by omega) hi_j c_2
          refine lv_aload_n hx hb d_Mo_accept_61 rfl (lv_at hl 2 rfl) ?_
          refine lv_bipush (v := 84) hx hb d_Mo_accept_62 (by decide) ?_
          refine lv_iload_n hx hb d_Mo_accept_64 rfl (lv_at hl 3 rfl) ?_
          refine lv_iload_n hx hb d_Mo_accept_65 rfl (lv_at hl 4 rfl) ?_
          refine lv_iload_n hx hb d_Mo_accept_66 rfl (lv_at hl 5 rfl) ?_
          refine lv_iload hx hb d_Mo_accept_67 (lv_at hl 0 rfl) ?_
          refine lv_iload hx hb d_Mo_accept_69 (lv_at hl 6 rfl) ?_
          refine lv_iload hx hb d_Mo_accept_71 (lv_at hl 7 rfl) ?_
          refine e_ci (e_runV hx hb hml hown hts hE hbs hW (F_Mo G hG) rfl (c_M_send l G hG (lpMT (up2 (up2 (up2 d 613 (24 * a + 3 * t + s) b) 614 (24 * a + 3 * t + s) b) 615 (24 * a + 3 * t + s) v) (nI t) (nI s) (nI a) b v j) (84) (nI t) (nI s) (nI a) (nI j) (b) (v) hM_j) kw_426 kw_427 kw_428 kw_412 kw_425 rfl rfl hd_Mo_send ⟨Nat.le_of_ble_eq_true rfl, Nat.le_of_ble_eq_true rfl⟩ (As := [.int (84), .int (nI t), .int (nI s), .int (nI a), .int (nI j), .int (b), .int (v)]) (rest := []) rfl hl.1 rfl (Nat.le_of_ble_eq_true rfl) d_Mo_accept_73 ⟨Nat.le_of_ble_eq_true rfl, Nat.le_of_ble_eq_true rfl⟩) hW (fun r d' H locs hp hW => ?_)
          obtain ⟨hp1, hp2⟩ := hp
          have hp1 := hp1.symm; subst hp1
          have hp2 := hp2.symm; subst hp2
          refine lv_istore (lv' := [(8, .int (m_sR (lpMT (up2 (up2 (up2 d 613 (24 * a + 3 * t + s) b) 614 (24 * a + 3 * t + s) b) 615 (24 * a + 3 * t + s) v) (nI t) (nI s) (nI a) b v j))), (7, .int (nI j)), (6, .int (nI (24 * a + 3 * t + s))), (0, .ref (gad G (600))), (1, .int (nI t)), (2, .int (nI s)), (3, .int (nI a)), (4, .int (b)), (5, .int (v))]) hx hb d_Mo_accept_76 hl (by decide) rfl (fun ls hl => ?_)
          refine lv_iinc (v := nI (j + 1)) (lv' := [(7, .int (nI (j + 1))), (8, .int (m_sR (lpMT (up2 (up2 (up2 d 613 (24 * a + 3 * t + s) b) 614 (24 * a + 3 * t + s) b) 615 (24 * a + 3 * t + s) v) (nI t) (nI s) (nI a) b v j))), (6, .int (nI (24 * a + 3 * t + s))), (0, .ref (gad G (600))), (1, .int (nI t)), (2, .int (nI s)), (3, .int (nI a)), (4, .int (b)), (5, .int (v))]) hx hb d_Mo_accept_78 hl (k := 1) rfl (nI_1 (j)) (by decide) rfl (fun ls hl => ?_)
          refine lv_goto (tgt := 55) hx hb d_Mo_accept_81 (by decide) ?_
          exact ih_j (j + 1) (by omega) (by omega) _ _ _ (by rw [show lpMT (up2 (up2 (up2 d 613 (24 * a + 3 * t + s) b) 614 (24 * a + 3 * t + s) b) 615 (24 * a + 3 * t + s) v) (nI t) (nI s) (nI a) b v (j + 1) = (m_snd (lpMT (up2 (up2 (up2 d 613 (24 * a + 3 * t + s) b) 614 (24 * a + 3 * t + s) b) 615 (24 * a + 3 * t + s) v) (nI t) (nI s) (nI a) b v j) (84) (nI t) (nI s) (nI a) (nI j) (b) (v)) from rfl]; exact hW) (lv_sub hl [0, 2, 3, 4, 5, 6, 7, 8] rfl) (by rw [show lpMT (up2 (up2 (up2 d 613 (24 * a + 3 * t + s) b) 614 (24 * a + 3 * t + s) b) 615 (24 * a + 3 * t + s) v) (nI t) (nI s) (nI a) b v (j + 1) = (m_snd (lpMT (up2 (up2 (up2 d 613 (24 * a + 3 * t + s) b) 614 (24 * a + 3 * t + s) b) 615 (24 * a + 3 * t + s) v) (nI t) (nI s) (nI a) b v j) (84) (nI t) (nI s) (nI a) (nI j) (b) (v)) from rfl]; exact (show MN (m_snd (lpMT (up2 (up2 (up2 d 613 (24 * a + 3 * t + s) b) 614 (24 * a + 3 * t + s) b) 615 (24 * a + 3 * t + s) v) (nI t) (nI s) (nI a) b v j) (84) (nI t) (nI s) (nI a) (nI j) (b) (v)) from ((MS_snd hM_j).1)))
    exact L_55 (2 + 1) 0 (by omega) (by omega) _ _ _ hW (lv_sub hl [0, 1, 2, 3, 4, 5, 6, 7] rfl) (show MN (up2 (up2 (up2 d (613) (24 * a + 3 * t + s) (b)) (614) (24 * a + 3 * t + s) (b)) (615) (24 * a + 3 * t + s) (v)) from (MN_keep hN ((up2_nc (by omega)).trans ((up2_nc (by omega)).trans (up2_nc (by omega))))))
  · skip
    exact e_vret hx hb hr hlk hW (by unfold m_acc; rw [if_neg c_1] <;> rfl) (Nat.zero_le _) (Nat.zero_le _) d_Mo_accept_24
