theorem kw_429 : .code y_Mo_abort b_Mo_abort 3 none ∈ WS := List.mem_filter.mpr ⟨List.mem_append_right _ (List.mem_of_getElem? (i := 1037) (by decide +kernel)), by decide +kernel⟩
theorem kw_430 : .methodLink R_Mo 119 y_Mo_abort ∈ WS := List.mem_filter.mpr ⟨List.mem_append_right _ (List.mem_of_getElem? (i := 1034) (by decide +kernel)), by decide +kernel⟩
theorem kw_431 : .instanceMethod y_Mo_abort ∈ WS := List.mem_filter.mpr ⟨List.mem_append_right _ (List.mem_of_getElem? (i := 1036) (by decide +kernel)), by decide +kernel⟩
theorem kw_432 : .selects R_Mo y_Mo_abort y_Mo_abort ∈ WS := List.mem_filter.mpr ⟨List.mem_append_left _ (List.mem_of_getElem? (i := 26) (by decide +kernel)), by decide +kernel⟩
theorem kw_433 : .code y_Mo_vote b_Mo_vote 7 none ∈ WS := List.mem_filter.mpr ⟨List.mem_append_right _ (List.mem_of_getElem? (i := 1045) (by decide +kernel)), by decide +kernel⟩
theorem kw_434 : .methodLink R_Mo 122 y_Mo_vote ∈ WS := List.mem_filter.mpr ⟨List.mem_append_right _ (List.mem_of_getElem? (i := 1042) (by decide +kernel)), by decide +kernel⟩
theorem kw_435 : .instanceMethod y_Mo_vote ∈ WS := List.mem_filter.mpr ⟨List.mem_append_right _ (List.mem_of_getElem? (i := 1044) (by decide +kernel)), by decide +kernel⟩
theorem kw_436 : .selects R_Mo y_Mo_vote y_Mo_vote ∈ WS := List.mem_filter.mpr ⟨List.mem_append_left _ (List.mem_of_getElem? (i := 28) (by decide +kernel)), by decide +kernel⟩
theorem kw_437 : .code y_Mo_member b_Mo_member 3 (some .boolean) ∈ WS := List.mem_filter.mpr ⟨List.mem_append_right _ (List.mem_of_getElem? (i := 1025) (by decide +kernel)), by decide +kernel⟩
theorem kw_438 : .methodLink R_Mo 116 y_Mo_member ∈ WS := List.mem_filter.mpr ⟨List.mem_append_right _ (List.mem_of_getElem? (i := 1022) (by decide +kernel)), by decide +kernel⟩
theorem kw_439 : .instanceMethod y_Mo_member ∈ WS := List.mem_filter.mpr ⟨List.mem_append_right _ (List.mem_of_getElem? (i := 1024) (by decide +kernel)), by decide +kernel⟩
theorem kw_440 : .selects R_Mo y_Mo_member y_Mo_member ∈ WS := List.mem_filter.mpr ⟨List.mem_append_left _ (List.mem_of_getElem? (i := 24) (by decide +kernel)), by decide +kernel⟩
theorem kw_441 : .fieldLink R_Mo 47 "PaxosCommitModel" "takenVote" "[I" ∈ WS := List.mem_filter.mpr ⟨List.mem_append_right _ (List.mem_of_getElem? (i := 927) (by decide +kernel)), by decide +kernel⟩
theorem kw_442 : .fieldLink R_Mo 44 "PaxosCommitModel" "takenBallot" "[I" ∈ WS := List.mem_filter.mpr ⟨List.mem_append_right _ (List.mem_of_getElem? (i := 926) (by decide +kernel)), by decide +kernel⟩
theorem kw_443 : .fieldLink R_Mo 41 "PaxosCommitModel" "promised" "[I" ∈ WS := List.mem_filter.mpr ⟨List.mem_append_right _ (List.mem_of_getElem? (i := 925) (by decide +kernel)), by decide +kernel⟩
theorem hd_Mo_abort : y_Mo_abort.cls ≠ "java/lang/invoke/MethodHandle" ∧ y_Mo_abort.cls ≠ "java/lang/invoke/VarHandle" ∧ (parseMethodDescriptor y_Mo_abort.desc).map (fun d => d.parameters.length) = some 2 := by decide +kernel
theorem hd_Mo_vote : y_Mo_vote.cls ≠ "java/lang/invoke/MethodHandle" ∧ y_Mo_vote.cls ≠ "java/lang/invoke/VarHandle" ∧ (parseMethodDescriptor y_Mo_vote.desc).map (fun d => d.parameters.length) = some 4 := by decide +kernel
theorem hd_Mo_member : y_Mo_member.cls ≠ "java/lang/invoke/MethodHandle" ∧ y_Mo_member.cls ≠ "java/lang/invoke/VarHandle" ∧ (parseMethodDescriptor y_Mo_member.desc).map (fun d => d.parameters.length) = some 2 := by decide +kernel
set_option maxHeartbeats 4000000 in
set_option maxRecDepth 100000 in
theorem c_M_prep (l : Launch) (G : GT) (hG : GOK G) (d : DD) (t s : Nat) (ht : t < 8) (hs : s < 3) (hN : MN d) (fn : d 600 1 = nI (gn G)) : Met l y_Mo_prepare (.code y_Mo_prepare b_Mo_prepare 4 none :: WS) { frames := 2, cells := 0, slots := 0, locals := 54 } (cPre G [.ref (gad G (600)), .int (nI t), .int (nI s)] d) (cQv G (fun u9 => u9 = m_prep d (gn G) t s)) 0 0 (gAb G) := by
  refine c_start (own := R_Mo) (by decide +kernel) rfl (Nat.le_of_ble_eq_true rfl) ?_
  intro p e zs zm below meth zc ls C hW hl
  obtain ⟨hx, hb, hr, hml, hown, hts, hlk, hE, hbs⟩ := C
  have hK := hE.1
  have hn3 := hG.1
  have hl : lv_has ls 4 [(0, .ref (gad G (600))), (1, .int (nI t)), (2, .int (nI s))] := hl
  refine lv_aload_n hx hb d_Mo_prepare_0 rfl (lv_at hl 0 rfl) ?_
  refine e_get (v := .ref (gad G (610))) hx hb hts hown hK hW (F_Mo G hG) i_Mo rfl 10 (by decide) (hts _ kw_410) (fun _ h => h) rfl d_Mo_prepare_1 ?_
  refine lv_iconst (v := 3) hx hb d_Mo_prepare_4 (by decide) ?_
  refine lv_iload_n hx hb d_Mo_prepare_5 rfl (lv_at hl 1 rfl) ?_
  refine lv_imul hx hb d_Mo_prepare_6 ?_
  refine e_top (v := nI (3 * t)) (pk_mul (3) (t)) ?_
  refine lv_iload_n hx hb d_Mo_prepare_7 rfl (lv_at hl 2 rfl) ?_
  refine lv_iadd hx hb d_Mo_prepare_8 ?_
  refine e_top (v := nI (3 * t + s)) (nI_add (3 * t) (s)) ?_
  refine e_iald hx hb hK hW (F_Mstate G hG) (j := 3 * t + s) (by omega) (x := d (610) (3 * t + s)) (rfl) rfl d_Mo_prepare_9 ?_
  refine lv_istore_n (lv' := [(3, .int (d (610) (3 * t + s))), (0, .ref (gad G (600))), (1, .int (nI t)), (2, .int (nI s))]) hx hb d_Mo_prepare_10 rfl hl (by decide) rfl (fun ls hl => ?_)
  refine lv_iload_n hx hb d_Mo_prepare_11 rfl (lv_at hl 0 rfl) ?_
  refine lv_iconst (v := 1) hx hb d_Mo_prepare_12 (by decide) ?_
  refine lv_icmp_ne (tgt := 38) hx hb d_Mo_prepare_13 (by decide) (fun c_1 => ?_) (fun c_1 => ?_)
  · skip
    refine lv_iload_n hx hb d_Mo_prepare_38 rfl (lv_at hl 0 rfl) ?_
    refine lv_if_eq (tgt := 47) hx hb d_Mo_prepare_39 (by decide) (fun c_2 => ?_) (fun c_2 => ?_)
    · skip
      refine lv_aload_n hx hb d_Mo_prepare_47 rfl (lv_at hl 1 rfl) ?_
      refine lv_iload_n hx hb d_Mo_prepare_48 rfl (lv_at hl 2 rfl) ?_
      refine lv_iload_n hx hb d_Mo_prepare_49 rfl (lv_at hl 3 rfl) ?_
      refine e_cv (e_runV hx hb hml hown hts hE hbs hW (F_Mo G hG) rfl (c_M_abort l G hG d t s ht hs) kw_430 kw_431 kw_432 kw_412 kw_429 rfl rfl hd_Mo_abort ⟨Nat.le_of_ble_eq_true rfl, Nat.le_of_ble_eq_true rfl⟩ (As := [.int (nI t), .int (nI s)]) (rest := []) rfl hl.1 rfl (Nat.le_of_ble_eq_true rfl) d_Mo_prepare_50 ⟨Nat.le_of_ble_eq_true rfl, Nat.le_of_ble_eq_true rfl⟩) hW (fun d' H locs hp hW => ?_)
      have hp := hp.symm; subst hp
      refine lv_aload_n hx hb d_Mo_prepare_53 rfl (lv_at hl 1 rfl) ?_
      refine lv_iload_n hx hb d_Mo_prepare_54 rfl (lv_at hl 2 rfl) ?_
      refine lv_iload_n hx hb d_Mo_prepare_55 rfl (lv_at hl 3 rfl) ?_
      refine lv_iconst (v := 0) hx hb d_Mo_prepare_56 (by decide) ?_
      refine lv_iconst (v := 0) hx hb d_Mo_prepare_57 (by decide) ?_
      refine e_cv (e_runV hx hb hml hown hts hE hbs hW (F_Mo G hG) rfl (c_M_vote l G hG (m_abort d t s) (nI t) (nI s) (0) (0) (MN_keep hN (congrFun (m_abort_off (by omega) (by omega)) _)) (((congrFun (m_abort_off (by omega) (by omega)) _).trans (fn)))) kw_434 kw_435 kw_436 kw_412 kw_433 rfl rfl hd_Mo_vote ⟨Nat.le_of_ble_eq_true rfl, Nat.le_of_ble_eq_true rfl⟩ (As := [.int (nI t), .int (nI s), .int (0), .int (0)]) (rest := []) rfl hl.1 rfl (Nat.le_of_ble_eq_true rfl) d_Mo_prepare_58 ⟨Nat.le_of_ble_eq_true rfl, Nat.le_of_ble_eq_true rfl⟩) hW (fun d' H locs hp hW => ?_)
      have hp := hp.symm; subst hp
      exact e_vret hx hb hr hlk hW (by unfold m_prep; rw [if_neg c_1, if_pos c_2] <;> rfl) (Nat.zero_le _) (Nat.zero_le _) d_Mo_prepare_61
    · skip
      refine lv_iload_n hx hb d_Mo_prepare_42 rfl (lv_at hl 0 rfl) ?_
      refine lv_iconst (v := 4) hx hb d_Mo_prepare_43 (by decide) ?_
      refine lv_icmp_ne (tgt := 61) hx hb d_Mo_prepare_44 (by decide) (fun c_3 => ?_) (fun c_3 => ?_)
      · skip
        exact e_vret hx hb hr hlk hW (by unfold m_prep; rw [if_neg c_1, if_neg c_2, if_neg c_3] <;> rfl) (Nat.zero_le _) (Nat.zero_le _) d_Mo_prepare_61
      · skip
        refine lv_aload_n hx hb d_Mo_prepare_47 rfl (lv_at hl 1 rfl) ?_
        refine lv_iload_n hx hb d_Mo_prepare_48 rfl (lv_at hl 2 rfl) ?_
        refine lv_iload_n hx hb d_Mo_prepare_49 rfl (lv_at hl 3 rfl) ?_
        refine e_cv (e_runV hx hb hml hown hts hE hbs hW (F_Mo G hG) rfl (c_M_abort l G hG d t s ht hs) kw_430 kw_431 kw_432 kw_412 kw_429 rfl rfl hd_Mo_abort ⟨Nat.le_of_ble_eq_true rfl, Nat.le_of_ble_eq_true rfl⟩ (As := [.int (nI t), .int (nI s)]) (rest := []) rfl hl.1 rfl (Nat.le_of_ble_eq_true rfl) d_Mo_prepare_50 ⟨Nat.le_of_ble_eq_true rfl, Nat.le_of_ble_eq_true rfl⟩) hW (fun d' H locs hp hW => ?_)
        have hp := hp.symm; subst hp
        refine lv_aload_n hx hb d_Mo_prepare_53 rfl (lv_at hl 1 rfl) ?_
        refine lv_iload_n hx hb d_Mo_prepare_54 rfl (lv_at hl 2 rfl) ?_
        refine lv_iload_n hx hb d_Mo_prepare_55 rfl (lv_at hl 3 rfl) ?_
        refine lv_iconst (v := 0) hx hb d_Mo_prepare_56 (by decide) ?_
        refine lv_iconst (v := 0) hx hb d_Mo_prepare_57 (by decide) ?_
        refine e_cv (e_runV hx hb hml hown hts hE hbs hW (F_Mo G hG) rfl (c_M_vote l G hG (m_abort d t s) (nI t) (nI s) (0) (0) (MN_keep hN (congrFun (m_abort_off (by omega) (by omega)) _)) (((congrFun (m_abort_off (by omega) (by omega)) _).trans (fn)))) kw_434 kw_435 kw_436 kw_412 kw_433 rfl rfl hd_Mo_vote ⟨Nat.le_of_ble_eq_true rfl, Nat.le_of_ble_eq_true rfl⟩ (As := [.int (nI t), .int (nI s), .int (0), .int (0)]) (rest := []) rfl hl.1 rfl (Nat.le_of_ble_eq_true rfl) d_Mo_prepare_58 ⟨Nat.le_of_ble_eq_true rfl, Nat.le_of_ble_eq_true rfl⟩) hW (fun d' H locs hp hW => ?_)
        have hp := hp.symm; subst hp
        exact e_vret hx hb hr hlk hW (by unfold m_prep; rw [if_neg c_1, if_neg c_2, if_pos c_3] <;> rfl) (Nat.zero_le _) (Nat.zero_le _) d_Mo_prepare_61
  · skip
    refine lv_aload_n hx hb d_Mo_prepare_16 rfl (lv_at hl 1 rfl) ?_
    refine e_get (v := .ref (gad G (610))) hx hb hts hown hK hW (F_Mo G hG) i_Mo rfl 10 (by decide) (hts _ kw_410) (fun _ h => h) rfl d_Mo_prepare_17 ?_
    refine lv_iconst (v := 3) hx hb d_Mo_prepare_20 (by decide) ?_
    refine lv_iload_n hx hb d_Mo_prepare_21 rfl (lv_at hl 2 rfl) ?_
    refine lv_imul hx hb d_Mo_prepare_22 ?_
    refine e_top (v := nI (3 * t)) (pk_mul (3) (t)) ?_
    refine lv_iload_n hx hb d_Mo_prepare_23 rfl (lv_at hl 3 rfl) ?_
    refine lv_iadd hx hb d_Mo_prepare_24 ?_
    refine e_top (v := nI (3 * t + s)) (nI_add (3 * t) (s)) ?_
    refine lv_iconst (v := 2) hx hb d_Mo_prepare_25 (by decide) ?_
    refine e_iast hx hb hK hW (F_Mstate G hG) (j := 3 * t + s) (by omega) rfl d_Mo_prepare_26 (fun H locs hW => ?_)
    refine lv_aload_n hx hb d_Mo_prepare_27 rfl (lv_at hl 1 rfl) ?_
    refine lv_iload_n hx hb d_Mo_prepare_28 rfl (lv_at hl 2 rfl) ?_
    refine lv_iload_n hx hb d_Mo_prepare_29 rfl (lv_at hl 3 rfl) ?_
    refine lv_iconst (v := 0) hx hb d_Mo_prepare_30 (by decide) ?_
    refine lv_iconst (v := 1) hx hb d_Mo_prepare_31 (by decide) ?_
    refine e_cv (e_runV hx hb hml hown hts hE hbs hW (F_Mo G hG) rfl (c_M_vote l G hG (up2 d (610) (3 * t + s) (2)) (nI t) (nI s) (0) (1) (MN_keep hN (up2_nc (by omega))) ((up2_nc (by omega)).trans (fn))) kw_434 kw_435 kw_436 kw_412 kw_433 rfl rfl hd_Mo_vote ⟨Nat.le_of_ble_eq_true rfl, Nat.le_of_ble_eq_true rfl⟩ (As := [.int (nI t), .int (nI s), .int (0), .int (1)]) (rest := []) rfl hl.1 rfl (Nat.le_of_ble_eq_true rfl) d_Mo_prepare_32 ⟨Nat.le_of_ble_eq_true rfl, Nat.le_of_ble_eq_true rfl⟩) hW (fun d' H locs hp hW => ?_)
    have hp := hp.symm; subst hp
    refine lv_goto (tgt := 61) hx hb d_Mo_prepare_35 (by decide) ?_
    exact e_vret hx hb hr hlk hW (by unfold m_prep; rw [if_pos c_1] <;> rfl) (Nat.zero_le _) (Nat.zero_le _) d_Mo_prepare_61
set_option maxHeartbeats 4000000 in
set_option maxRecDepth 100000 in
theorem c_M_ask (l : Launch) (G : GT) (hG : GOK G) (d : DD) (t a : Nat) (ht : t < 8) (ha : a < 3) (b : Int32) (hN : MN d) : Met l y_Mo_ask (.code y_Mo_ask b_Mo_ask 6 none :: WS) { frames := 1, cells := 0, slots := 0, locals := 28 } (cPre G [.ref (gad G (600)), .int (nI t), .int (nI a), .int (b)] d) (cQv G (fun u9 => u9 = m_ask d a t b)) 0 0 (gAb G) := by
  refine c_start (own := R_Mo) (by decide +kernel) rfl (Nat.le_of_ble_eq_true rfl) ?_
  intro p e zs zm below meth zc ls C hW hl
  obtain ⟨hx, hb, hr, hml, hown, hts, hlk, hE, hbs⟩ := C
  have hK := hE.1
  have hn3 := hG.1
  have hl : lv_has ls 6 [(0, .ref (gad G (600))), (1, .int (nI t)), (2, .int (nI a)), (3, .int (b))] := hl
  refine lv_iconst (v := 0) hx hb d_Mo_ask_0 (by decide) ?_
  refine lv_istore (lv' := [(4, .int (0)), (0, .ref (gad G (600))), (1, .int (nI t)), (2, .int (nI a)), (3, .int (b))]) hx hb d_Mo_ask_1 hl (by decide) rfl (fun ls hl => ?_)
  have L_3 : ∀ (N s : Nat), s ≤ 3 → 3 + 1 ≤ s + N → ∀ (H : Heap) (locs : List Loc) (ls : Array Slot), WD G zs.heap (d) H locs → lv_has ls 6 [(4, .int (nI s)), (0, .ref (gad G (600))), (1, .int (nI t)), (2, .int (nI a)), (3, .int (b))] → (abvM d a t b s = 0) → (MN (d)) → W p l e { frames := 1, cells := 0, slots := 0, locals := 28 } zs zm [.ref (gad G (600)), .int (nI t), .int (nI a), .int (b)].toArray below meth zc H locs 0 0 (MQ below (cQv G (fun u9 => u9 = m_ask d a t b)) [.ref (gad G (600)), .int (nI t), .int (nI a), .int (b)].toArray zs 0 0 (gAb G)) (F0 zm 3 ls []) := by
    intro N
    induction N with
    | zero => intro s h1 h2; exact absurd h2 (by omega)
    | succ N ih_s =>
      intro s hi_s hN_s H locs ls hW hl ha hM_s
      refine lv_iload hx hb d_Mo_ask_3 (lv_at hl 0 rfl) ?_
      refine lv_iconst (v := 3) hx hb d_Mo_ask_5 (by decide) ?_
      refine lv_icmp_ge (tgt := 46) hx hb d_Mo_ask_6 (by decide) (fun c_1 => ?_) (fun c_1 => ?_)
      · skip
        have e_s : 3 = s := (lp_out rfl (by omega) hi_s c_1).symm
        subst e_s
        refine lv_iconst (v := 0) hx hb d_Mo_ask_46 (by decide) ?_
        refine lv_istore (lv' := [(4, .int (0)), (0, .ref (gad G (600))), (1, .int (nI t)), (2, .int (nI a)), (3, .int (b))]) hx hb d_Mo_ask_47 hl (by decide) rfl (fun ls hl => ?_)
        have L_49 : ∀ (N s : Nat), s ≤ 3 → 3 + 1 ≤ s + N → ∀ (H : Heap) (locs : List Loc) (ls : Array Slot), WD G zs.heap (lpMP d a t b s) H locs → lv_has ls 6 [(4, .int (nI s)), (0, .ref (gad G (600))), (1, .int (nI t)), (2, .int (nI a)), (3, .int (b))] → (MN (lpMP d a t b s)) → W p l e { frames := 1, cells := 0, slots := 0, locals := 28 } zs zm [.ref (gad G (600)), .int (nI t), .int (nI a), .int (b)].toArray below meth zc H locs 0 0 (MQ below (cQv G (fun u9 => u9 = m_ask d a t b)) [.ref (gad G (600)), .int (nI t), .int (nI a), .int (b)].toArray zs 0 0 (gAb G)) (F0 zm 49 ls []) := by
          intro N
          induction N with
          | zero => intro s h1 h2; exact absurd h2 (by omega)
          | succ N ih_s =>
            intro s hi_s hN_s H locs ls hW hl hM_s
            refine lv_iload hx hb d_Mo_ask_49 (lv_at hl 0 rfl) ?_
            refine lv_iconst (v := 3) hx hb d_Mo_ask_51 (by decide) ?_
            refine lv_icmp_ge (tgt := 88) hx hb d_Mo_ask_52 (by decide) (fun c_2 => ?_) (fun c_2 => ?_)
            · skip
              have e_s : 3 = s := (lp_out rfl (by omega) hi_s c_2).symm
              subst e_s
              obtain ⟨z, hz, fz⟩ := id hN
              rcases Nat.lt_or_ge z 60 with hz9 | hz9
              · skip
                refine lv_aload_n hx hb d_Mo_ask_88 rfl (lv_at hl 1 rfl) ?_
                refine lv_bipush (v := 82) hx hb d_Mo_ask_89 (by decide) ?_
                refine lv_iload_n hx hb d_Mo_ask_91 rfl (lv_at hl 2 rfl) ?_
                refine lv_iconst (v := -1) hx hb d_Mo_ask_92 (by decide) ?_
                refine lv_iload_n hx hb d_Mo_ask_93 rfl (lv_at hl 3 rfl) ?_
                refine lv_iload_n hx hb d_Mo_ask_94 rfl (lv_at hl 4 rfl) ?_
                refine lv_iconst (v := 2) hx hb d_Mo_ask_95 (by decide) ?_
                refine lv_irem hx hb d_Mo_ask_96 (by decide) ?_
                refine lv_iload_n hx hb d_Mo_ask_97 rfl (lv_at hl 4 rfl) ?_
                refine lv_iconst (v := -1) hx hb d_Mo_ask_98 (by decide) ?_
                refine e_ci (e_runV hx hb hml hown hts hE hbs hW (F_Mo G hG) rfl (c_M_send l G hG (lpMP d a t b 3) (82) (nI t) (-1) (nI a) ((b) - (b) / (2) * (2)) (b) (-1) hM_s) kw_426 kw_427 kw_428 kw_412 kw_425 rfl rfl hd_Mo_send ⟨Nat.le_of_ble_eq_true rfl, Nat.le_of_ble_eq_true rfl⟩ (As := [.int (82), .int (nI t), .int (-1), .int (nI a), .int ((b) - (b) / (2) * (2)), .int (b), .int (-1)]) (rest := []) rfl hl.1 rfl (Nat.le_of_ble_eq_true rfl) d_Mo_ask_99 ⟨Nat.le_of_ble_eq_true rfl, Nat.le_of_ble_eq_true rfl⟩) hW (fun r d' H locs hp hW => ?_)
                obtain ⟨hp1, hp2⟩ := hp
                have hp1 := hp1.symm; subst hp1
                have hp2 := hp2.symm; subst hp2
                refine e_top (v := 1) (by unfold m_sR; rw [show (lpMP d a t b 3) 600 25 = nI z from ((congrFun (lpMP_off (by omega) _) _).trans fz), if_neg (m_n60 hz9)]) ?_
                rw [show m_snd (lpMP d a t b 3) (82) (nI t) (-1) (nI a) ((b) - (b) / (2) * (2)) (b) (-1) = m_put (lpMP d a t b 3) z (82) (nI t) (-1) (nI a) ((b) - (b) / (2) * (2)) (b) (-1) from m_snd_lt hz9 ((congrFun (lpMP_off (by omega) _) _).trans fz)] at hW
                refine lv_if_ne (tgt := 106) hx hb d_Mo_ask_102 (by decide) (fun c_3 => ?_) (fun c_3 => ?_)
                · skip
                  refine lv_iconst (v := 0) hx hb d_Mo_ask_106 (by decide) ?_
                  refine lv_istore (lv' := [(4, .int (0)), (0, .ref (gad G (600))), (1, .int (nI t)), (2, .int (nI a)), (3, .int (b))]) hx hb d_Mo_ask_107 hl (by decide) rfl (fun ls hl => ?_)
                  have L_109 : ∀ (N s : Nat), s ≤ 3 → 3 + 1 ≤ s + N → ∀ (H : Heap) (locs : List Loc) (ls : Array Slot), WD G zs.heap (lpMR (m_put (lpMP d a t b 3) z (82) (nI t) (-1) (nI a) ((b) - (b) / (2) * (2)) (b) (-1)) a t (z + 1) s) H locs → lv_has ls 6 [(4, .int (nI s)), (0, .ref (gad G (600))), (1, .int (nI t)), (2, .int (nI a)), (3, .int (b))] → ((lpMR (m_put (lpMP d a t b 3) z (82) (nI t) (-1) (nI a) ((b) - (b) / (2) * (2)) (b) (-1)) a t (z + 1) s) (600) (25) = nI (z + 1)) → W p l e { frames := 1, cells := 0, slots := 0, locals := 28 } zs zm [.ref (gad G (600)), .int (nI t), .int (nI a), .int (b)].toArray below meth zc H locs 0 0 (MQ below (cQv G (fun u9 => u9 = m_ask d a t b)) [.ref (gad G (600)), .int (nI t), .int (nI a), .int (b)].toArray zs 0 0 (gAb G)) (F0 zm 109 ls []) := by
                    intro N
                    induction N with
                    | zero => intro s h1 h2; exact absurd h2 (by omega)
                    | succ N ih_s =>
                      intro s hi_s hN_s H locs ls hW hl f0_s
                      refine lv_iload hx hb d_Mo_ask_109 (lv_at hl 0 rfl) ?_
                      refine lv_iconst (v := 3) hx hb d_Mo_ask_111 (by decide) ?_
                      refine lv_icmp_ge (tgt := 197) hx hb d_Mo_ask_112 (by decide) (fun c_4 => ?_) (fun c_4 => ?_)
                      · skip
                        have e_s : 3 = s := (lp_out rfl (by omega) hi_s c_4).symm
                        subst e_s
                        exact e_vret hx hb hr hlk hW (by unfold m_ask; rw [if_pos ha]; unfold m_ask2; rw [show lpMP d a t b 3 600 25 = nI z from ((congrFun (lpMP_off (by omega) _) _).trans fz), if_neg (m_n60 hz9), cl_nI (show z < 2147483648 by omega)]) (Nat.zero_le _) (Nat.zero_le _) d_Mo_ask_197
                      · skip
                        have lt_s : s < 3 := lp_in rfl (by omega) hi_s c_4
                        refine lv_bipush (v := 24) hx hb d_Mo_ask_115 (by decide) ?_
                        refine lv_iload_n hx hb d_Mo_ask_117 rfl (lv_at hl 3 rfl) ?_
                        refine lv_imul hx hb d_Mo_ask_118 ?_
                        refine e_top (v := nI (24 * a)) (pk_mul (24) (a)) ?_
                        refine lv_iconst (v := 3) hx hb d_Mo_ask_119 (by decide) ?_
                        refine lv_iload_n hx hb d_Mo_ask_120 rfl (lv_at hl 2 rfl) ?_
                        refine lv_imul hx hb d_Mo_ask_121 ?_
                        refine e_top (v := nI (3 * t)) (pk_mul (3) (t)) ?_
                        refine lv_iadd hx hb d_Mo_ask_122 ?_
                        refine e_top (v := nI (24 * a + 3 * t)) (nI_add (24 * a) (3 * t)) ?_
                        refine lv_iload hx hb d_Mo_ask_123 (lv_at hl 0 rfl) ?_
                        refine lv_iadd hx hb d_Mo_ask_125 ?_
                        refine e_top (v := nI (24 * a + 3 * t + s)) (nI_add (24 * a + 3 * t) (s)) ?_
                        refine lv_istore (lv' := [(5, .int (nI (24 * a + 3 * t + s))), (4, .int (nI s)), (0, .ref (gad G (600))), (1, .int (nI t)), (2, .int (nI a)), (3, .int (b))]) hx hb d_Mo_ask_126 hl (by decide) rfl (fun ls hl => ?_)
                        refine lv_aload_n hx hb d_Mo_ask_128 rfl (lv_at hl 2 rfl) ?_
                        refine e_get (v := .ref (gad G (624))) hx hb hts hown hK hW (F_Mo G hG) i_Mo rfl 24 (by decide) (hts _ kw_407) (fun _ h => h) rfl d_Mo_ask_129 ?_
                        refine lv_bipush (v := 13) hx hb d_Mo_ask_132 (by decide) ?_
                        refine lv_aload_n hx hb d_Mo_ask_134 rfl (lv_at hl 2 rfl) ?_
                        refine e_get (v := .int ((lpMR (m_put (lpMP d a t b 3) z (82) (nI t) (-1) (nI a) ((b) - (b) / (2) * (2)) (b) (-1)) a t (z + 1) s) (600) (25))) hx hb hts hown hK hW (F_Mo G hG) i_Mo rfl 25 (by decide) (hts _ kw_406) (fun _ h => h) rfl d_Mo_ask_135 ?_
                        refine e_top (v := nI (z + 1)) (f0_s) ?_
                        refine lv_imul hx hb d_Mo_ask_138 ?_
                        refine e_top (v := nI (13 * (z + 1))) (pk_mul (13) (z + 1)) ?_
                        refine lv_bipush (v := 6) hx hb d_Mo_ask_139 (by decide) ?_
                        refine lv_isub hx hb d_Mo_ask_141 ?_
                        refine e_top (v := nI (13 * (z + 1) - 6)) (pk_sub (a := 13 * (z + 1)) (b := 6) (by omega)) ?_
                        refine lv_iload hx hb d_Mo_ask_142 (lv_at hl 1 rfl) ?_
                        refine lv_iadd hx hb d_Mo_ask_144 ?_
                        refine e_top (v := nI (13 * (z + 1) - 6 + s)) (nI_add (13 * (z + 1) - 6) (s)) ?_
                        refine lv_aload_n hx hb d_Mo_ask_145 rfl (lv_at hl 2 rfl) ?_
                        refine lv_iload_n hx hb d_Mo_ask_146 rfl (lv_at hl 3 rfl) ?_
                        refine lv_iload hx hb d_Mo_ask_147 (lv_at hl 1 rfl) ?_
                        refine e_ci (e_runV hx hb hml hown hts hE hbs hW (F_Mo G hG) rfl (c_M_member l G hG (lpMR (m_put (lpMP d a t b 3) z (82) (nI t) (-1) (nI a) ((b) - (b) / (2) * (2)) (b) (-1)) a t (z + 1) s) t s ht) kw_438 kw_439 kw_440 kw_412 kw_437 rfl rfl hd_Mo_member ⟨Nat.le_of_ble_eq_true rfl, Nat.le_of_ble_eq_true rfl⟩ (As := [.int (nI t), .int (nI s)]) (rest := [.int (nI (13 * (z + 1) - 6 + s)), .ref (gad G (624))]) rfl hl.1 rfl (Nat.le_of_ble_eq_true rfl) d_Mo_ask_149 ⟨Nat.le_of_ble_eq_true rfl, Nat.le_of_ble_eq_true rfl⟩) hW (fun r d' H locs hp hW => ?_)
                        obtain ⟨hp1, hp2⟩ := hp
                        have hp1 := hp1.symm; subst hp1
                        have hp2 := hp2.symm; subst hp2
                        refine lv_if_eq (tgt := 165) hx hb d_Mo_ask_152 (by decide) (fun c_5 => ?_) (fun c_5 => ?_)
                        · skip
                          refine lv_iconst (v := -1) hx hb d_Mo_ask_165 (by decide) ?_
                          refine e_iast hx hb hK hW (F_Mnet G hG) (j := 13 * (z + 1) - 6 + s) (by omega) rfl d_Mo_ask_166 (fun H locs hW => ?_)
                          refine lv_aload_n hx hb d_Mo_ask_167 rfl (lv_at hl 2 rfl) ?_
                          refine e_get (v := .ref (gad G (624))) hx hb hts hown hK hW (F_Mo G hG) i_Mo rfl 24 (by decide) (hts _ kw_407) (fun _ h => h) rfl d_Mo_ask_168 ?_
                          refine lv_bipush (v := 13) hx hb d_Mo_ask_171 (by decide) ?_
                          refine lv_aload_n hx hb d_Mo_ask_173 rfl (lv_at hl 2 rfl) ?_
                          refine e_get (v := .int ((up2 (lpMR (m_put (lpMP d a t b 3) z (82) (nI t) (-1) (nI a) ((b) - (b) / (2) * (2)) (b) (-1)) a t (z + 1) s) (624) (13 * (z + 1) - 6 + s) (-1)) (600) (25))) hx hb hts hown hK hW (F_Mo G hG) i_Mo rfl 25 (by decide) (hts _ kw_406) (fun _ h => h) rfl d_Mo_ask_174 ?_
                          refine e_top (v := nI (z + 1)) ((up2_nc (by omega)).trans (f0_s)) ?_
                          refine lv_imul hx hb d_Mo_ask_177 ?_
                          refine e_top (v := nI (13 * (z + 1))) (pk_mul (13) (z + 1)) ?_
                          refine lv_iconst (v := 3) hx hb d_Mo_ask_178 (by decide) ?_
                          refine lv_isub hx hb d_Mo_ask_179 ?_
                          refine e_top (v := nI (13 * (z + 1) - 3)) (pk_sub (a := 13 * (z + 1)) (b := 3) (by omega)) ?_
                          refine lv_iload hx hb d_Mo_ask_180 (lv_at hl 1 rfl) ?_
                          refine lv_iadd hx hb d_Mo_ask_182 ?_
                          refine e_top (v := nI (13 * (z + 1) - 3 + s)) (nI_add (13 * (z + 1) - 3) (s)) ?_
                          refine lv_aload_n hx hb d_Mo_ask_183 rfl (lv_at hl 2 rfl) ?_
                          refine e_get (v := .ref (gad G (615))) hx hb hts hown hK hW (F_Mo G hG) i_Mo rfl 15 (by decide) (hts _ kw_441) (fun _ h => h) rfl d_Mo_ask_184 ?_
                          refine lv_iload hx hb d_Mo_ask_187 (lv_at hl 0 rfl) ?_
                          refine e_iald hx hb hK hW (F_MtakenVote G hG) (j := 24 * a + 3 * t + s) (by omega) (x := (lpMR (m_put (lpMP d a t b 3) z (82) (nI t) (-1) (nI a) ((b) - (b) / (2) * (2)) (b) (-1)) a t (z + 1) s) (615) (24 * a + 3 * t + s)) ((up2_nc (by omega)).trans (rfl)) rfl d_Mo_ask_189 ?_
                          refine e_iast hx hb hK hW (F_Mnet G hG) (j := 13 * (z + 1) - 3 + s) (by omega) rfl d_Mo_ask_190 (fun H locs hW => ?_)
                          refine lv_iinc (v := nI (s + 1)) (lv' := [(4, .int (nI (s + 1))), (5, .int (nI (24 * a + 3 * t + s))), (0, .ref (gad G (600))), (1, .int (nI t)), (2, .int (nI a)), (3, .int (b))]) hx hb d_Mo_ask_191 hl (k := 1) rfl (nI_1 (s)) (by decide) rfl (fun ls hl => ?_)
                          refine lv_goto (tgt := 109) hx hb d_Mo_ask_194 (by decide) ?_
                          exact ih_s (s + 1) (by omega) (by omega) _ _ _ (by rw [show lpMR (m_put (lpMP d a t b 3) z (82) (nI t) (-1) (nI a) ((b) - (b) / (2) * (2)) (b) (-1)) a t (z + 1) (s + 1) = (up2 (up2 (lpMR (m_put (lpMP d a t b 3) z (82) (nI t) (-1) (nI a) ((b) - (b) / (2) * (2)) (b) (-1)) a t (z + 1) s) (624) (13 * (z + 1) - 6 + s) (-1)) (624) (13 * (z + 1) - 3 + s) ((lpMR (m_put (lpMP d a t b 3) z (82) (nI t) (-1) (nI a) ((b) - (b) / (2) * (2)) (b) (-1)) a t (z + 1) s) (615) (24 * a + 3 * t + s))) from (by rw [lpMR, if_pos c_5])]; exact hW) (lv_sub hl [0, 2, 3, 4, 5] rfl) (by rw [show lpMR (m_put (lpMP d a t b 3) z (82) (nI t) (-1) (nI a) ((b) - (b) / (2) * (2)) (b) (-1)) a t (z + 1) (s + 1) = (up2 (up2 (lpMR (m_put (lpMP d a t b 3) z (82) (nI t) (-1) (nI a) ((b) - (b) / (2) * (2)) (b) (-1)) a t (z + 1) s) (624) (13 * (z + 1) - 6 + s) (-1)) (624) (13 * (z + 1) - 3 + s) ((lpMR (m_put (lpMP d a t b 3) z (82) (nI t) (-1) (nI a) ((b) - (b) / (2) * (2)) (b) (-1)) a t (z + 1) s) (615) (24 * a + 3 * t + s))) from (by rw [lpMR, if_pos c_5])]; exact (show (up2 (up2 (lpMR (m_put (lpMP d a t b 3) z (82) (nI t) (-1) (nI a) ((b) - (b) / (2) * (2)) (b) (-1)) a t (z + 1) s) (624) (13 * (z + 1) - 6 + s) (-1)) (624) (13 * (z + 1) - 3 + s) ((lpMR (m_put (lpMP d a t b 3) z (82) (nI t) (-1) (nI a) ((b) - (b) / (2) * (2)) (b) (-1)) a t (z + 1) s) (615) (24 * a + 3 * t + s))) (600) (25) = nI (z + 1) from ((up2_nc (by omega)).trans ((up2_nc (by omega)).trans (f0_s)))))
                        · skip
                          refine lv_aload_n hx hb d_Mo_ask_155 rfl (lv_at hl 2 rfl) ?_
                          refine e_get (v := .ref (gad G (614))) hx hb hts hown hK hW (F_Mo G hG) i_Mo rfl 14 (by decide) (hts _ kw_442) (fun _ h => h) rfl d_Mo_ask_156 ?_
                          refine lv_iload hx hb d_Mo_ask_159 (lv_at hl 0 rfl) ?_
                          refine e_iald hx hb hK hW (F_MtakenBallot G hG) (j := 24 * a + 3 * t + s) (by omega) (x := (lpMR (m_put (lpMP d a t b 3) z (82) (nI t) (-1) (nI a) ((b) - (b) / (2) * (2)) (b) (-1)) a t (z + 1) s) (614) (24 * a + 3 * t + s)) (rfl) rfl d_Mo_ask_161 ?_
                          refine lv_goto (tgt := 166) hx hb d_Mo_ask_162 (by decide) ?_
                          refine e_iast hx hb hK hW (F_Mnet G hG) (j := 13 * (z + 1) - 6 + s) (by omega) rfl d_Mo_ask_166 (fun H locs hW => ?_)
                          refine lv_aload_n hx hb d_Mo_ask_167 rfl (lv_at hl 2 rfl) ?_
                          refine e_get (v := .ref (gad G (624))) hx hb hts hown hK hW (F_Mo G hG) i_Mo rfl 24 (by decide) (hts _ kw_407) (fun _ h => h) rfl d_Mo_ask_168 ?_
                          refine lv_bipush (v := 13) hx hb d_Mo_ask_171 (by decide) ?_
                          refine lv_aload_n hx hb d_Mo_ask_173 rfl (lv_at hl 2 rfl) ?_
                          refine e_get (v := .int ((up2 (lpMR (m_put (lpMP d a t b 3) z (82) (nI t) (-1) (nI a) ((b) - (b) / (2) * (2)) (b) (-1)) a t (z + 1) s) (624) (13 * (z + 1) - 6 + s) ((lpMR (m_put (lpMP d a t b 3) z (82) (nI t) (-1) (nI a) ((b) - (b) / (2) * (2)) (b) (-1)) a t (z + 1) s) (614) (24 * a + 3 * t + s))) (600) (25))) hx hb hts hown hK hW (F_Mo G hG) i_Mo rfl 25 (by decide) (hts _ kw_406) (fun _ h => h) rfl d_Mo_ask_174 ?_
                          refine e_top (v := nI (z + 1)) ((up2_nc (by omega)).trans (f0_s)) ?_
                          refine lv_imul hx hb d_Mo_ask_177 ?_
                          refine e_top (v := nI (13 * (z + 1))) (pk_mul (13) (z + 1)) ?_
                          refine lv_iconst (v := 3) hx hb d_Mo_ask_178 (by decide) ?_
                          refine lv_isub hx hb d_Mo_ask_179 ?_
                          refine e_top (v := nI (13 * (z + 1) - 3)) (pk_sub (a := 13 * (z + 1)) (b := 3) (by omega)) ?_
                          refine lv_iload hx hb d_Mo_ask_180 (lv_at hl 1 rfl) ?_
                          refine lv_iadd hx hb d_Mo_ask_182 ?_
                          refine e_top (v := nI (13 * (z + 1) - 3 + s)) (nI_add (13 * (z + 1) - 3) (s)) ?_
                          refine lv_aload_n hx hb d_Mo_ask_183 rfl (lv_at hl 2 rfl) ?_
                          refine e_get (v := .ref (gad G (615))) hx hb hts hown hK hW (F_Mo G hG) i_Mo rfl 15 (by decide) (hts _ kw_441) (fun _ h => h) rfl d_Mo_ask_184 ?_
                          refine lv_iload hx hb d_Mo_ask_187 (lv_at hl 0 rfl) ?_
                          refine e_iald hx hb hK hW (F_MtakenVote G hG) (j := 24 * a + 3 * t + s) (by omega) (x := (lpMR (m_put (lpMP d a t b 3) z (82) (nI t) (-1) (nI a) ((b) - (b) / (2) * (2)) (b) (-1)) a t (z + 1) s) (615) (24 * a + 3 * t + s)) ((up2_nc (by omega)).trans (rfl)) rfl d_Mo_ask_189 ?_
                          refine e_iast hx hb hK hW (F_Mnet G hG) (j := 13 * (z + 1) - 3 + s) (by omega) rfl d_Mo_ask_190 (fun H locs hW => ?_)
                          refine lv_iinc (v := nI (s + 1)) (lv' := [(4, .int (nI (s + 1))), (5, .int (nI (24 * a + 3 * t + s))), (0, .ref (gad G (600))), (1, .int (nI t)), (2, .int (nI a)), (3, .int (b))]) hx hb d_Mo_ask_191 hl (k := 1) rfl (nI_1 (s)) (by decide) rfl (fun ls hl => ?_)
                          refine lv_goto (tgt := 109) hx hb d_Mo_ask_194 (by decide) ?_
                          exact ih_s (s + 1) (by omega) (by omega) _ _ _ (by rw [show lpMR (m_put (lpMP d a t b 3) z (82) (nI t) (-1) (nI a) ((b) - (b) / (2) * (2)) (b) (-1)) a t (z + 1) (s + 1) = (up2 (up2 (lpMR (m_put (lpMP d a t b 3) z (82) (nI t) (-1) (nI a) ((b) - (b) / (2) * (2)) (b) (-1)) a t (z + 1) s) (624) (13 * (z + 1) - 6 + s) ((lpMR (m_put (lpMP d a t b 3) z (82) (nI t) (-1) (nI a) ((b) - (b) / (2) * (2)) (b) (-1)) a t (z + 1) s) (614) (24 * a + 3 * t + s))) (624) (13 * (z + 1) - 3 + s) ((lpMR (m_put (lpMP d a t b 3) z (82) (nI t) (-1) (nI a) ((b) - (b) / (2) * (2)) (b) (-1)) a t (z + 1) s) (615) (24 * a + 3 * t + s))) from (by rw [lpMR, if_neg c_5])]; exact hW) (lv_sub hl [0, 2, 3, 4, 5] rfl) (by rw [show lpMR (m_put (lpMP d a t b 3) z (82) (nI t) (-1) (nI a) ((b) - (b) / (2) * (2)) (b) (-1)) a t (z + 1) (s + 1) = (up2 (up2 (lpMR (m_put (lpMP d a t b 3) z (82) (nI t) (-1) (nI a) ((b) - (b) / (2) * (2)) (b) (-1)) a t (z + 1) s) (624) (13 * (z + 1) - 6 + s) ((lpMR (m_put (lpMP d a t b 3) z (82) (nI t) (-1) (nI a) ((b) - (b) / (2) * (2)) (b) (-1)) a t (z + 1) s) (614) (24 * a + 3 * t + s))) (624) (13 * (z + 1) - 3 + s) ((lpMR (m_put (lpMP d a t b 3) z (82) (nI t) (-1) (nI a) ((b) - (b) / (2) * (2)) (b) (-1)) a t (z + 1) s) (615) (24 * a + 3 * t + s))) from (by rw [lpMR, if_neg c_5])]; exact (show (up2 (up2 (lpMR (m_put (lpMP d a t b 3) z (82) (nI t) (-1) (nI a) ((b) - (b) / (2) * (2)) (b) (-1)) a t (z + 1) s) (624) (13 * (z + 1) - 6 + s) ((lpMR (m_put (lpMP d a t b 3) z (82) (nI t) (-1) (nI a) ((b) - (b) / (2) * (2)) (b) (-1)) a t (z + 1) s) (614) (24 * a + 3 * t + s))) (624) (13 * (z + 1) - 3 + s) ((lpMR (m_put (lpMP d a t b 3) z (82) (nI t) (-1) (nI a) ((b) - (b) / (2) * (2)) (b) (-1)) a t (z + 1) s) (615) (24 * a + 3 * t + s))) (600) (25) = nI (z + 1) from ((up2_nc (by omega)).trans ((up2_nc (by omega)).trans (f0_s)))))
                  exact L_109 (3 + 1) 0 (by omega) (by omega) _ _ _ hW (lv_sub hl [0, 1, 2, 3, 4] rfl) (show (m_put (lpMP d a t b 3) z (82) (nI t) (-1) (nI a) ((b) - (b) / (2) * (2)) (b) (-1)) (600) (25) = nI (z + 1) from (m_put_sz))
                · exact absurd c_3 (by decide)
              · skip
                obtain rfl : z = 60 := by omega
                refine lv_aload_n hx hb d_Mo_ask_88 rfl (lv_at hl 1 rfl) ?_
                refine lv_bipush (v := 82) hx hb d_Mo_ask_89 (by decide) ?_
                refine lv_iload_n hx hb d_Mo_ask_91 rfl (lv_at hl 2 rfl) ?_
                refine lv_iconst (v := -1) hx hb d_Mo_ask_92 (by decide) ?_
                refine lv_iload_n hx hb d_Mo_ask_93 rfl (lv_at hl 3 rfl) ?_
                refine lv_iload_n hx hb d_Mo_ask_94 rfl (lv_at hl 4 rfl) ?_
                refine lv_iconst (v := 2) hx hb d_Mo_ask_95 (by decide) ?_
                refine lv_irem hx hb d_Mo_ask_96 (by decide) ?_
                refine lv_iload_n hx hb d_Mo_ask_97 rfl (lv_at hl 4 rfl) ?_
                refine lv_iconst (v := -1) hx hb d_Mo_ask_98 (by decide) ?_
                refine e_ci (e_runV hx hb hml hown hts hE hbs hW (F_Mo G hG) rfl (c_M_send l G hG (lpMP d a t b 3) (82) (nI t) (-1) (nI a) ((b) - (b) / (2) * (2)) (b) (-1) hM_s) kw_426 kw_427 kw_428 kw_412 kw_425 rfl rfl hd_Mo_send ⟨Nat.le_of_ble_eq_true rfl, Nat.le_of_ble_eq_true rfl⟩ (As := [.int (82), .int (nI t), .int (-1), .int (nI a), .int ((b) - (b) / (2) * (2)), .int (b), .int (-1)]) (rest := []) rfl hl.1 rfl (Nat.le_of_ble_eq_true rfl) d_Mo_ask_99 ⟨Nat.le_of_ble_eq_true rfl, Nat.le_of_ble_eq_true rfl⟩) hW (fun r d' H locs hp hW => ?_)
                obtain ⟨hp1, hp2⟩ := hp
                have hp1 := hp1.symm; subst hp1
                have hp2 := hp2.symm; subst hp2
                refine e_top (v := 0) (by unfold m_sR; rw [show (lpMP d a t b 3) 600 25 = nI 60 from ((congrFun (lpMP_off (by omega) _) _).trans fz), if_pos (show nI 60 = 60 from rfl)]) ?_
                refine lv_if_ne (tgt := 106) hx hb d_Mo_ask_102 (by decide) (fun c_6 => ?_) (fun c_6 => ?_)
                · exact absurd c_6 (by decide)
                · skip
                  exact e_vret hx hb hr hlk hW (by unfold m_ask; rw [if_pos ha]; unfold m_ask2; rw [show lpMP d a t b 3 600 25 = nI 60 from ((congrFun (lpMP_off (by omega) _) _).trans fz), if_pos (show nI 60 = 60 from rfl)]; exact m_snd_full ((congrFun (lpMP_off (by omega) _) _).trans fz)) (Nat.zero_le _) (Nat.zero_le _) d_Mo_ask_105
            · skip
              have lt_s : s < 3 := lp_in rfl (by omega) hi_s c_2
              refine lv_aload_n hx hb d_Mo_ask_55 rfl (lv_at hl 1 rfl) ?_
              refine lv_iload_n hx hb d_Mo_ask_56 rfl (lv_at hl 2 rfl) ?_
              refine lv_iload hx hb d_Mo_ask_57 (lv_at hl 0 rfl) ?_
              refine e_ci (e_runV hx hb hml hown hts hE hbs hW (F_Mo G hG) rfl (c_M_member l G hG (lpMP d a t b s) t s ht) kw_438 kw_439 kw_440 kw_412 kw_437 rfl rfl hd_Mo_member ⟨Nat.le_of_ble_eq_true rfl, Nat.le_of_ble_eq_true rfl⟩ (As := [.int (nI t), .int (nI s)]) (rest := []) rfl hl.1 rfl (Nat.le_of_ble_eq_true rfl) d_Mo_ask_59 ⟨Nat.le_of_ble_eq_true rfl, Nat.le_of_ble_eq_true rfl⟩) hW (fun r d' H locs hp hW => ?_)
              obtain ⟨hp1, hp2⟩ := hp
              have hp1 := hp1.symm; subst hp1
              have hp2 := hp2.symm; subst hp2
              refine lv_if_eq (tgt := 82) hx hb d_Mo_ask_62 (by decide) (fun c_7 => ?_) (fun c_7 => ?_)
              · skip
                refine lv_iinc (v := nI (s + 1)) (lv' := [(4, .int (nI (s + 1))), (0, .ref (gad G (600))), (1, .int (nI t)), (2, .int (nI a)), (3, .int (b))]) hx hb d_Mo_ask_82 hl (k := 0) rfl (nI_1 (s)) (by decide) rfl (fun ls hl => ?_)
                refine lv_goto (tgt := 49) hx hb d_Mo_ask_85 (by decide) ?_
                exact ih_s (s + 1) (by omega) (by omega) _ _ _ (by rw [show lpMP d a t b (s + 1) = (lpMP d a t b s) from if_pos c_7]; exact hW) (lv_sub hl [0, 1, 2, 3, 4] rfl) (by rw [show lpMP d a t b (s + 1) = (lpMP d a t b s) from if_pos c_7]; exact (show MN (lpMP d a t b s) from hM_s))
              · skip
                refine lv_aload_n hx hb d_Mo_ask_65 rfl (lv_at hl 1 rfl) ?_
                refine e_get (v := .ref (gad G (613))) hx hb hts hown hK hW (F_Mo G hG) i_Mo rfl 13 (by decide) (hts _ kw_443) (fun _ h => h) rfl d_Mo_ask_66 ?_
                refine lv_bipush (v := 24) hx hb d_Mo_ask_69 (by decide) ?_
                refine lv_iload_n hx hb d_Mo_ask_71 rfl (lv_at hl 3 rfl) ?_
                refine lv_imul hx hb d_Mo_ask_72 ?_
                refine e_top (v := nI (24 * a)) (pk_mul (24) (a)) ?_
                refine lv_iconst (v := 3) hx hb d_Mo_ask_73 (by decide) ?_
                refine lv_iload_n hx hb d_Mo_ask_74 rfl (lv_at hl 2 rfl) ?_
                refine lv_imul hx hb d_Mo_ask_75 ?_
                refine e_top (v := nI (3 * t)) (pk_mul (3) (t)) ?_
                refine lv_iadd hx hb d_Mo_ask_76 ?_
                refine e_top (v := nI (24 * a + 3 * t)) (nI_add (24 * a) (3 * t)) ?_
                refine lv_iload hx hb d_Mo_ask_77 (lv_at hl 0 rfl) ?_
                refine lv_iadd hx hb d_Mo_ask_79 ?_
                refine e_top (v := nI (24 * a + 3 * t + s)) (nI_add (24 * a + 3 * t) (s)) ?_
                refine lv_iload_n hx hb d_Mo_ask_80 rfl (lv_at hl 4 rfl) ?_
                refine e_iast hx hb hK hW (F_Mpromised G hG) (j := 24 * a + 3 * t + s) (by omega) rfl d_Mo_ask_81 (fun H locs hW => ?_)
                refine lv_iinc (v := nI (s + 1)) (lv' := [(4, .int (nI (s + 1))), (0, .ref (gad G (600))), (1, .int (nI t)), (2, .int (nI a)), (3, .int (b))]) hx hb d_Mo_ask_82 hl (k := 0) rfl (nI_1 (s)) (by decide) rfl (fun ls hl => ?_)
                refine lv_goto (tgt := 49) hx hb d_Mo_ask_85 (by decide) ?_
                exact ih_s (s + 1) (by omega) (by omega) _ _ _ (by rw [show lpMP d a t b (s + 1) = (up2 (lpMP d a t b s) (613) (24 * a + 3 * t + s) (b)) from if_neg c_7]; exact hW) (lv_sub hl [0, 1, 2, 3, 4] rfl) (by rw [show lpMP d a t b (s + 1) = (up2 (lpMP d a t b s) (613) (24 * a + 3 * t + s) (b)) from if_neg c_7]; exact (show MN (up2 (lpMP d a t b s) (613) (24 * a + 3 * t + s) (b)) from (MN_keep hM_s (up2_nc (by omega)))))
        exact L_49 (3 + 1) 0 (by omega) (by omega) _ _ _ hW (lv_sub hl [0, 1, 2, 3, 4] rfl) (show MN d from hM_s)
      · skip
        have lt_s : s < 3 := lp_in rfl (by omega) hi_s c_1
        refine lv_aload_n hx hb d_Mo_ask_9 rfl (lv_at hl 1 rfl) ?_
        refine lv_iload_n hx hb d_Mo_ask_10 rfl (lv_at hl 2 rfl) ?_
        refine lv_iload hx hb d_Mo_ask_11 (lv_at hl 0 rfl) ?_
        refine e_ci (e_runV hx hb hml hown hts hE hbs hW (F_Mo G hG) rfl (c_M_member l G hG d t s ht) kw_438 kw_439 kw_440 kw_412 kw_437 rfl rfl hd_Mo_member ⟨Nat.le_of_ble_eq_true rfl, Nat.le_of_ble_eq_true rfl⟩ (As := [.int (nI t), .int (nI s)]) (rest := []) rfl hl.1 rfl (Nat.le_of_ble_eq_true rfl) d_Mo_ask_13 ⟨Nat.le_of_ble_eq_true rfl, Nat.le_of_ble_eq_true rfl⟩) hW (fun r d' H locs hp hW => ?_)
        obtain ⟨hp1, hp2⟩ := hp
        have hp1 := hp1.symm; subst hp1
        have hp2 := hp2.symm; subst hp2
        refine lv_if_eq (tgt := 40) hx hb d_Mo_ask_16 (by decide) (fun c_8 => ?_) (fun c_8 => ?_)
        · skip
          refine lv_iinc (v := nI (s + 1)) (lv' := [(4, .int (nI (s + 1))), (0, .ref (gad G (600))), (1, .int (nI t)), (2, .int (nI a)), (3, .int (b))]) hx hb d_Mo_ask_40 hl (k := 0) rfl (nI_1 (s)) (by decide) rfl (fun ls hl => ?_)
          refine lv_goto (tgt := 3) hx hb d_Mo_ask_43 (by decide) ?_
          exact ih_s (s + 1) (by omega) (by omega) _ _ _ hW (lv_sub hl [0, 1, 2, 3, 4] rfl) (by rw [abvM, if_pos ha, if_pos c_8]) (show MN d from hM_s)
        · skip
          refine lv_aload_n hx hb d_Mo_ask_19 rfl (lv_at hl 1 rfl) ?_
          refine e_get (v := .ref (gad G (613))) hx hb hts hown hK hW (F_Mo G hG) i_Mo rfl 13 (by decide) (hts _ kw_443) (fun _ h => h) rfl d_Mo_ask_20 ?_
          refine lv_bipush (v := 24) hx hb d_Mo_ask_23 (by decide) ?_
          refine lv_iload_n hx hb d_Mo_ask_25 rfl (lv_at hl 3 rfl) ?_
          refine lv_imul hx hb d_Mo_ask_26 ?_
          refine e_top (v := nI (24 * a)) (pk_mul (24) (a)) ?_
          refine lv_iconst (v := 3) hx hb d_Mo_ask_27 (by decide) ?_
          refine lv_iload_n hx hb d_Mo_ask_28 rfl (lv_at hl 2 rfl) ?_
          refine lv_imul hx hb d_Mo_ask_29 ?_
          refine e_top (v := nI (3 * t)) (pk_mul (3) (t)) ?_
          refine lv_iadd hx hb d_Mo_ask_30 ?_
          refine e_top (v := nI (24 * a + 3 * t)) (nI_add (24 * a) (3 * t)) ?_
          refine lv_iload hx hb d_Mo_ask_31 (lv_at hl 0 rfl) ?_
          refine lv_iadd hx hb d_Mo_ask_33 ?_
          refine e_top (v := nI (24 * a + 3 * t + s)) (nI_add (24 * a + 3 * t) (s)) ?_
          refine e_iald hx hb hK hW (F_Mpromised G hG) (j := 24 * a + 3 * t + s) (by omega) (x := d (613) (24 * a + 3 * t + s)) (rfl) rfl d_Mo_ask_34 ?_
          refine lv_iload_n hx hb d_Mo_ask_35 rfl (lv_at hl 4 rfl) ?_
          refine lv_icmp_le (tgt := 40) hx hb d_Mo_ask_36 (by decide) (fun c_9 => ?_) (fun c_9 => ?_)
          · skip
            refine lv_iinc (v := nI (s + 1)) (lv' := [(4, .int (nI (s + 1))), (0, .ref (gad G (600))), (1, .int (nI t)), (2, .int (nI a)), (3, .int (b))]) hx hb d_Mo_ask_40 hl (k := 0) rfl (nI_1 (s)) (by decide) rfl (fun ls hl => ?_)
            refine lv_goto (tgt := 3) hx hb d_Mo_ask_43 (by decide) ?_
            exact ih_s (s + 1) (by omega) (by omega) _ _ _ hW (lv_sub hl [0, 1, 2, 3, 4] rfl) (by rw [abvM, if_pos ha, if_neg c_8, if_pos c_9]) (show MN d from hM_s)
          · skip
            exact e_vret hx hb hr hlk hW (by unfold m_ask; rw [if_neg (abvM_hit ha lt_s c_8 c_9)]) (Nat.zero_le _) (Nat.zero_le _) d_Mo_ask_39
  exact L_3 (3 + 1) 0 (by omega) (by omega) _ _ _ hW (lv_sub hl [0, 1, 2, 3, 4] rfl) rfl (show MN d from hN)
