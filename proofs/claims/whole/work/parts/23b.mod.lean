theorem kw_503 : .code y_Mo_takeOut b_Mo_takeOut 4 none ∈ WS := List.mem_filter.mpr ⟨List.mem_append_right _ (List.mem_of_getElem? (i := 1057) (by decide +kernel)), by decide +kernel⟩
theorem kw_504 : .methodLink R_Mo 158 y_Mo_takeOut ∈ WS := List.mem_filter.mpr ⟨List.mem_append_right _ (List.mem_of_getElem? (i := 1054) (by decide +kernel)), by decide +kernel⟩
theorem kw_505 : .instanceMethod y_Mo_takeOut ∈ WS := List.mem_filter.mpr ⟨List.mem_append_right _ (List.mem_of_getElem? (i := 1056) (by decide +kernel)), by decide +kernel⟩
theorem kw_506 : .selects R_Mo y_Mo_takeOut y_Mo_takeOut ∈ WS := List.mem_filter.mpr ⟨List.mem_append_left _ (List.mem_of_getElem? (i := 29) (by decide +kernel)), by decide +kernel⟩
theorem hd_Mo_takeOut : y_Mo_takeOut.cls ≠ "java/lang/invoke/MethodHandle" ∧ y_Mo_takeOut.cls ≠ "java/lang/invoke/VarHandle" ∧ (parseMethodDescriptor y_Mo_takeOut.desc).map (fun d => d.parameters.length) = some 2 := by decide +kernel
set_option maxHeartbeats 4000000 in
set_option maxRecDepth 100000 in
theorem c_M_request (l : Launch) (G : GT) (hG : GOK G) (d : DD) (x0 : Int32) (hN : MN d) : Met l y_Mo_request (.code y_Mo_request b_Mo_request 4 (some .int) :: WS) { frames := 1, cells := 0, slots := 0, locals := 28 } (cPre G [.ref (gad G (600)), .int (x0)] d) (cQi G (mQ d (mC_request d x0) (onF (m_request d (cl x0) 608 (cl x0)) 4) (m_request d (cl x0)))) 0 0 (gAb G) := by
  refine c_start (own := R_Mo) (by decide +kernel) rfl (Nat.le_of_ble_eq_true rfl) ?_
  intro p e zs zm below meth zc ls C hW hl
  obtain ⟨hx, hb, hr, hml, hown, hts, hlk, hE, hbs⟩ := C
  have hK := hE.1
  have hn3 := hG.1
  have hl : lv_has ls 4 [(0, .ref (gad G (600))), (1, .int (x0))] := hl
  refine lv_aload_n hx hb d_Mo_request_0 rfl (lv_at hl 0 rfl) ?_
  refine lv_iconst (v := 0) hx hb d_Mo_request_1 (by decide) ?_
  refine e_put hx hb hts hown hK hW (F_Mo G hG) i_Mo t_Mo t_Mo_ok n_Mo rfl 0 (by decide) (hts _ kw_403) (fun _ h => h) rfl (by decide +kernel) (fun _ => rfl) (fun _ => rfl) d_Mo_request_2 (fun H locs hW => ?_)
  refine lv_aload_n hx hb d_Mo_request_5 rfl (lv_at hl 0 rfl) ?_
  refine lv_iload_n hx hb d_Mo_request_6 rfl (lv_at hl 1 rfl) ?_
  refine lv_bipush (v := 8) hx hb d_Mo_request_7 (by decide) ?_
  refine e_ci (e_runV hx hb hml hown hts hE hbs hW (F_Mo G hG) rfl (c_M_out l G hG (up2 d (600) (0) (0)) (x0) (8)) kw_491 kw_492 kw_493 kw_412 kw_490 rfl rfl hd_Mo_out ⟨Nat.le_of_ble_eq_true rfl, Nat.le_of_ble_eq_true rfl⟩ (As := [.int (x0), .int (8)]) (rest := []) rfl hl.1 rfl (Nat.le_of_ble_eq_true rfl) d_Mo_request_9 ⟨Nat.le_of_ble_eq_true rfl, Nat.le_of_ble_eq_true rfl⟩) hW (fun r d' H locs hp hW => ?_)
  obtain ⟨hp1, hp2⟩ := hp
  have hp1 := hp1.symm; subst hp1
  have hp2 := hp2.symm; subst hp2
  refine lv_if_eq (tgt := 21) hx hb d_Mo_request_12 (by decide) (fun c_1 => ?_) (fun c_1 => ?_)
  · skip
    obtain ⟨t, ht, et⟩ := out_nat (B := 8) (by omega) c_1
    subst et
    refine lv_iload_n hx hb d_Mo_request_21 rfl (lv_at hl 1 rfl) ?_
    refine lv_aload_n hx hb d_Mo_request_22 rfl (lv_at hl 0 rfl) ?_
    refine e_get (v := .int ((up2 d (600) (0) (0)) (600) (7))) hx hb hts hown hK hW (F_Mo G hG) i_Mo rfl 7 (by decide) (hts _ kw_485) (fun _ h => h) rfl d_Mo_request_23 ?_
    refine e_top (v := d (600) (7)) ((up2_nk (by decide)).trans (rfl)) ?_
    refine lv_icmp_lt (tgt := 35) hx hb d_Mo_request_26 (by decide) (fun c_2 => ?_) (fun c_2 => ?_)
    · skip
      refine lv_aload_n hx hb d_Mo_request_35 rfl (lv_at hl 0 rfl) ?_
      refine e_get (v := .ref (gad G (608))) hx hb hts hown hK hW (F_Mo G hG) i_Mo rfl 8 (by decide) (hts _ kw_405) (fun _ h => h) rfl d_Mo_request_36 ?_
      refine lv_iload_n hx hb d_Mo_request_39 rfl (lv_at hl 1 rfl) ?_
      refine e_iald hx hb hK hW (F_Mmembers G hG) (j := t) ht (x := d (608) (t)) ((up2_nc (by omega)).trans (rfl)) rfl d_Mo_request_40 ?_
      refine lv_if_ne (tgt := 50) hx hb d_Mo_request_41 (by decide) (fun c_3 => ?_) (fun c_3 => ?_)
      · skip
        refine lv_aload_n hx hb d_Mo_request_50 rfl (lv_at hl 0 rfl) ?_
        refine e_get (v := .ref (gad G (609))) hx hb hts hown hK hW (F_Mo G hG) i_Mo rfl 9 (by decide) (hts _ kw_494) (fun _ h => h) rfl d_Mo_request_51 ?_
        refine lv_iload_n hx hb d_Mo_request_54 rfl (lv_at hl 1 rfl) ?_
        refine e_zald hx hb hK hW (F_Mclosed G hG) (j := t) ht (x := d (609) (t)) ((up2_nc (by omega)).trans (rfl)) rfl d_Mo_request_55 ?_
        refine lv_if_eq (tgt := 65) hx hb d_Mo_request_56 (by decide) (fun c_4 => ?_) (fun c_4 => ?_)
        · skip
          refine lv_aload_n hx hb d_Mo_request_65 rfl (lv_at hl 0 rfl) ?_
          refine e_get (v := .ref (gad G (609))) hx hb hts hown hK hW (F_Mo G hG) i_Mo rfl 9 (by decide) (hts _ kw_494) (fun _ h => h) rfl d_Mo_request_66 ?_
          refine lv_iload_n hx hb d_Mo_request_69 rfl (lv_at hl 1 rfl) ?_
          refine lv_iconst (v := 1) hx hb d_Mo_request_70 (by decide) ?_
          refine e_zast hx hb hK hW (F_Mclosed G hG) (j := t) ht rfl (by decide) d_Mo_request_71 (fun H locs hW => ?_)
          refine lv_iconst (v := 0) hx hb d_Mo_request_72 (by decide) ?_
          refine lv_istore_n (lv' := [(2, .int (0)), (0, .ref (gad G (600))), (1, .int (nI t))]) hx hb d_Mo_request_73 rfl hl (by decide) rfl (fun ls hl => ?_)
          have L_74 : ∀ (N s : Nat), s ≤ 3 → 3 + 1 ≤ s + N → ∀ (H : Heap) (locs : List Loc) (ls : Array Slot), WD G zs.heap (lpMRq (up2 (up2 d 600 0 0) 609 t 1) t s) H locs → lv_has ls 4 [(2, .int (nI s)), (0, .ref (gad G (600))), (1, .int (nI t))] → (MN (lpMRq (up2 (up2 d 600 0 0) 609 t 1) t s)) → W p l e { frames := 1, cells := 0, slots := 0, locals := 28 } zs zm [.ref (gad G (600)), .int ((nI t))].toArray below meth zc H locs 0 0 (MQ below (cQi G (mQ d (mC_request d (nI t)) (onF (m_request d (cl (nI t)) 608 (cl (nI t))) 4) (m_request d (cl (nI t))))) [.ref (gad G (600)), .int ((nI t))].toArray zs 0 0 (gAb G)) (F0 zm 74 ls []) := by
            intro N
            induction N with
            | zero => intro s h1 h2; exact absurd h2 (by omega)
            | succ N ih_s =>
              intro s hi_s hN_s H locs ls hW hl hM_s
              refine lv_iload_n hx hb d_Mo_request_74 rfl (lv_at hl 0 rfl) ?_
              refine lv_iconst (v := 3) hx hb d_Mo_request_75 (by decide) ?_
              refine lv_icmp_ge (tgt := 107) hx hb d_Mo_request_76 (by decide) (fun c_5 => ?_) (fun c_5 => ?_)
              · skip
                have e_s : 3 = s := (lp_out rfl (by omega) hi_s c_5).symm
                subst e_s
                refine lv_aload_n hx hb d_Mo_request_107 rfl (lv_at hl 1 rfl) ?_
                refine lv_aload_n hx hb d_Mo_request_108 rfl (lv_at hl 1 rfl) ?_
                refine e_get (v := .ref (gad G (608))) hx hb hts hown hK hW (F_Mo G hG) i_Mo rfl 8 (by decide) (hts _ kw_405) (fun _ h => h) rfl d_Mo_request_109 ?_
                refine lv_iload_n hx hb d_Mo_request_112 rfl (lv_at hl 2 rfl) ?_
                refine e_iald hx hb hK hW (F_Mmembers G hG) (j := t) ht (x := (lpMRq (up2 (up2 d 600 0 0) 609 t 1) t 3) (608) (t)) (rfl) rfl d_Mo_request_113 ?_
                refine e_ci (e_runV hx hb hml hown hts hE hbs hW (F_Mo G hG) rfl (c_M_ones l G hG (lpMRq (up2 (up2 d 600 0 0) 609 t 1) t 3) ((lpMRq (up2 (up2 d 600 0 0) 609 t 1) t 3) (608) (t))) kw_496 kw_497 kw_498 kw_412 kw_495 rfl rfl hd_Mo_ones ⟨Nat.le_of_ble_eq_true rfl, Nat.le_of_ble_eq_true rfl⟩ (As := [.int ((lpMRq (up2 (up2 d 600 0 0) 609 t 1) t 3) (608) (t))]) (rest := []) rfl hl.1 rfl (Nat.le_of_ble_eq_true rfl) d_Mo_request_114 ⟨Nat.le_of_ble_eq_true rfl, Nat.le_of_ble_eq_true rfl⟩) hW (fun r d' H locs hp hW => ?_)
                obtain ⟨hp1, hp2⟩ := hp
                have hp1 := hp1.symm; subst hp1
                have hp2 := hp2.symm; subst hp2
                exact e_iret hx hb hr hlk hW (mq_ok (by unfold mC_request; (try simp only [cl_nI (show t < 2147483648 by omega)]); rw [if_pos c_1, if_pos c_2, if_neg c_3, if_pos c_4]) (by first | (simp only [cl_nI (show t < 2147483648 by omega)]; done) | (simp only [cl_nI (show t < 2147483648 by omega)]; exact rfl; done) | (exact rfl; done)) (by first | (simp only [cl_nI (show t < 2147483648 by omega)]; done) | (simp only [cl_nI (show t < 2147483648 by omega)]; exact rfl; done) | (exact rfl; done))) (Nat.zero_le _) (Nat.zero_le _) d_Mo_request_117
              · skip
                have lt_s : s < 3 := lp_in rfl (by omega) hi_s c_5
                refine lv_aload_n hx hb d_Mo_request_79 rfl (lv_at hl 1 rfl) ?_
                refine lv_iload_n hx hb d_Mo_request_80 rfl (lv_at hl 2 rfl) ?_
                refine lv_iload_n hx hb d_Mo_request_81 rfl (lv_at hl 0 rfl) ?_
                refine e_ci (e_runV hx hb hml hown hts hE hbs hW (F_Mo G hG) rfl (c_M_member l G hG (lpMRq (up2 (up2 d 600 0 0) 609 t 1) t s) t s ht) kw_438 kw_439 kw_440 kw_412 kw_437 rfl rfl hd_Mo_member ⟨Nat.le_of_ble_eq_true rfl, Nat.le_of_ble_eq_true rfl⟩ (As := [.int (nI t), .int (nI s)]) (rest := []) rfl hl.1 rfl (Nat.le_of_ble_eq_true rfl) d_Mo_request_82 ⟨Nat.le_of_ble_eq_true rfl, Nat.le_of_ble_eq_true rfl⟩) hW (fun r d' H locs hp hW => ?_)
                obtain ⟨hp1, hp2⟩ := hp
                have hp1 := hp1.symm; subst hp1
                have hp2 := hp2.symm; subst hp2
                refine lv_if_eq (tgt := 101) hx hb d_Mo_request_85 (by decide) (fun c_6 => ?_) (fun c_6 => ?_)
                · skip
                  refine lv_iinc (v := nI (s + 1)) (lv' := [(2, .int (nI (s + 1))), (0, .ref (gad G (600))), (1, .int (nI t))]) hx hb d_Mo_request_101 hl (k := 0) rfl (nI_1 (s)) (by decide) rfl (fun ls hl => ?_)
                  refine lv_goto (tgt := 74) hx hb d_Mo_request_104 (by decide) ?_
                  exact ih_s (s + 1) (by omega) (by omega) _ _ _ (by rw [show lpMRq (up2 (up2 d 600 0 0) 609 t 1) t (s + 1) = (lpMRq (up2 (up2 d 600 0 0) 609 t 1) t s) from if_pos c_6]; exact hW) (lv_sub hl [0, 1, 2] rfl) (by rw [show lpMRq (up2 (up2 d 600 0 0) 609 t 1) t (s + 1) = (lpMRq (up2 (up2 d 600 0 0) 609 t 1) t s) from if_pos c_6]; exact (show MN (lpMRq (up2 (up2 d 600 0 0) 609 t 1) t s) from hM_s))
                · skip
                  refine lv_aload_n hx hb d_Mo_request_88 rfl (lv_at hl 1 rfl) ?_
                  refine lv_bipush (v := 80) hx hb d_Mo_request_89 (by decide) ?_
                  refine lv_iload_n hx hb d_Mo_request_91 rfl (lv_at hl 2 rfl) ?_
                  refine lv_iload_n hx hb d_Mo_request_92 rfl (lv_at hl 0 rfl) ?_
                  refine lv_iconst (v := -1) hx hb d_Mo_request_93 (by decide) ?_
                  refine lv_iconst (v := -1) hx hb d_Mo_request_94 (by decide) ?_
                  refine lv_iconst (v := -1) hx hb d_Mo_request_95 (by decide) ?_
                  refine lv_iconst (v := -1) hx hb d_Mo_request_96 (by decide) ?_
                  refine e_ci (e_runV hx hb hml hown hts hE hbs hW (F_Mo G hG) rfl (c_M_send l G hG (lpMRq (up2 (up2 d 600 0 0) 609 t 1) t s) (80) (nI t) (nI s) (-1) (-1) (-1) (-1) hM_s) kw_426 kw_427 kw_428 kw_412 kw_425 rfl rfl hd_Mo_send ⟨Nat.le_of_ble_eq_true rfl, Nat.le_of_ble_eq_true rfl⟩ (As := [.int (80), .int (nI t), .int (nI s), .int (-1), .int (-1), .int (-1), .int (-1)]) (rest := []) rfl hl.1 rfl (Nat.le_of_ble_eq_true rfl) d_Mo_request_97 ⟨Nat.le_of_ble_eq_true rfl, Nat.le_of_ble_eq_true rfl⟩) hW (fun r d' H locs hp hW => ?_)
                  obtain ⟨hp1, hp2⟩ := hp
                  have hp1 := hp1.symm; subst hp1
                  have hp2 := hp2.symm; subst hp2
                  refine lv_istore_n (lv' := [(3, .int (m_sR (lpMRq (up2 (up2 d 600 0 0) 609 t 1) t s))), (2, .int (nI s)), (0, .ref (gad G (600))), (1, .int (nI t))]) hx hb d_Mo_request_100 rfl hl (by decide) rfl (fun ls hl => ?_)
                  refine lv_iinc (v := nI (s + 1)) (lv' := [(2, .int (nI (s + 1))), (3, .int (m_sR (lpMRq (up2 (up2 d 600 0 0) 609 t 1) t s))), (0, .ref (gad G (600))), (1, .int (nI t))]) hx hb d_Mo_request_101 hl (k := 1) rfl (nI_1 (s)) (by decide) rfl (fun ls hl => ?_)
                  refine lv_goto (tgt := 74) hx hb d_Mo_request_104 (by decide) ?_
                  exact ih_s (s + 1) (by omega) (by omega) _ _ _ (by rw [show lpMRq (up2 (up2 d 600 0 0) 609 t 1) t (s + 1) = (m_snd (lpMRq (up2 (up2 d 600 0 0) 609 t 1) t s) (80) (nI t) (nI s) (-1) (-1) (-1) (-1)) from if_neg c_6]; exact hW) (lv_sub hl [0, 2, 3] rfl) (by rw [show lpMRq (up2 (up2 d 600 0 0) 609 t 1) t (s + 1) = (m_snd (lpMRq (up2 (up2 d 600 0 0) 609 t 1) t s) (80) (nI t) (nI s) (-1) (-1) (-1) (-1)) from if_neg c_6]; exact (show MN (m_snd (lpMRq (up2 (up2 d 600 0 0) 609 t 1) t s) (80) (nI t) (nI s) (-1) (-1) (-1) (-1)) from ((MS_snd hM_s).1)))
          exact L_74 (3 + 1) 0 (by omega) (by omega) _ _ _ hW (lv_sub hl [0, 1, 2] rfl) (show MN (up2 (up2 d (600) (0) (0)) (609) (t) (1)) from (MN_keep hN ((up2_nc (by omega)).trans (up2_nk (by decide)))))
        · skip
          refine lv_aload_n hx hb d_Mo_request_59 rfl (lv_at hl 0 rfl) ?_
          refine lv_iconst (v := 4) hx hb d_Mo_request_60 (by decide) ?_
          refine e_ci (e_runV hx hb hml hown hts hE hbs hW (F_Mo G hG) rfl (c_M_fail l G hG (up2 d (600) (0) (0)) (4)) kw_487 kw_488 kw_489 kw_412 kw_486 rfl rfl hd_Mo_fail ⟨Nat.le_of_ble_eq_true rfl, Nat.le_of_ble_eq_true rfl⟩ (As := [.int (4)]) (rest := []) rfl hl.1 rfl (Nat.le_of_ble_eq_true rfl) d_Mo_request_61 ⟨Nat.le_of_ble_eq_true rfl, Nat.le_of_ble_eq_true rfl⟩) hW (fun r d' H locs hp hW => ?_)
          obtain ⟨hp1, hp2⟩ := hp
          have hp1 := hp1.symm; subst hp1
          have hp2 := hp2.symm; subst hp2
          exact e_iret hx hb hr hlk hW (mq_no (c := (4)) (by unfold mC_request; (try simp only [cl_nI (show t < 2147483648 by omega)]); rw [if_pos c_1, if_pos c_2, if_neg c_3, if_neg c_4]) (by decide) (by exact rfl)) (Nat.zero_le _) (Nat.zero_le _) d_Mo_request_64
      · skip
        refine lv_aload_n hx hb d_Mo_request_44 rfl (lv_at hl 0 rfl) ?_
        refine lv_iconst (v := 3) hx hb d_Mo_request_45 (by decide) ?_
        refine e_ci (e_runV hx hb hml hown hts hE hbs hW (F_Mo G hG) rfl (c_M_fail l G hG (up2 d (600) (0) (0)) (3)) kw_487 kw_488 kw_489 kw_412 kw_486 rfl rfl hd_Mo_fail ⟨Nat.le_of_ble_eq_true rfl, Nat.le_of_ble_eq_true rfl⟩ (As := [.int (3)]) (rest := []) rfl hl.1 rfl (Nat.le_of_ble_eq_true rfl) d_Mo_request_46 ⟨Nat.le_of_ble_eq_true rfl, Nat.le_of_ble_eq_true rfl⟩) hW (fun r d' H locs hp hW => ?_)
        obtain ⟨hp1, hp2⟩ := hp
        have hp1 := hp1.symm; subst hp1
        have hp2 := hp2.symm; subst hp2
        exact e_iret hx hb hr hlk hW (mq_no (c := (3)) (by unfold mC_request; (try simp only [cl_nI (show t < 2147483648 by omega)]); rw [if_pos c_1, if_pos c_2, if_pos c_3]) (by decide) (by exact rfl)) (Nat.zero_le _) (Nat.zero_le _) d_Mo_request_49
    · skip
      refine lv_aload_n hx hb d_Mo_request_29 rfl (lv_at hl 0 rfl) ?_
      refine lv_iconst (v := 2) hx hb d_Mo_request_30 (by decide) ?_
      refine e_ci (e_runV hx hb hml hown hts hE hbs hW (F_Mo G hG) rfl (c_M_fail l G hG (up2 d (600) (0) (0)) (2)) kw_487 kw_488 kw_489 kw_412 kw_486 rfl rfl hd_Mo_fail ⟨Nat.le_of_ble_eq_true rfl, Nat.le_of_ble_eq_true rfl⟩ (As := [.int (2)]) (rest := []) rfl hl.1 rfl (Nat.le_of_ble_eq_true rfl) d_Mo_request_31 ⟨Nat.le_of_ble_eq_true rfl, Nat.le_of_ble_eq_true rfl⟩) hW (fun r d' H locs hp hW => ?_)
      obtain ⟨hp1, hp2⟩ := hp
      have hp1 := hp1.symm; subst hp1
      have hp2 := hp2.symm; subst hp2
      exact e_iret hx hb hr hlk hW (mq_no (c := (2)) (by unfold mC_request; (try simp only [cl_nI (show t < 2147483648 by omega)]); rw [if_pos c_1, if_neg c_2]) (by decide) (by exact rfl)) (Nat.zero_le _) (Nat.zero_le _) d_Mo_request_34
  · skip
    refine lv_aload_n hx hb d_Mo_request_15 rfl (lv_at hl 0 rfl) ?_
    refine lv_iconst (v := 1) hx hb d_Mo_request_16 (by decide) ?_
    refine e_ci (e_runV hx hb hml hown hts hE hbs hW (F_Mo G hG) rfl (c_M_fail l G hG (up2 d (600) (0) (0)) (1)) kw_487 kw_488 kw_489 kw_412 kw_486 rfl rfl hd_Mo_fail ⟨Nat.le_of_ble_eq_true rfl, Nat.le_of_ble_eq_true rfl⟩ (As := [.int (1)]) (rest := []) rfl hl.1 rfl (Nat.le_of_ble_eq_true rfl) d_Mo_request_17 ⟨Nat.le_of_ble_eq_true rfl, Nat.le_of_ble_eq_true rfl⟩) hW (fun r d' H locs hp hW => ?_)
    obtain ⟨hp1, hp2⟩ := hp
    have hp1 := hp1.symm; subst hp1
    have hp2 := hp2.symm; subst hp2
    exact e_iret hx hb hr hlk hW (mq_no (c := (1)) (by unfold mC_request; rw [if_neg c_1]) (by decide) (by exact rfl)) (Nat.zero_le _) (Nat.zero_le _) d_Mo_request_20
set_option maxHeartbeats 4000000 in
set_option maxRecDepth 100000 in
theorem c_M_refuse (l : Launch) (G : GT) (hG : GOK G) (d : DD) (x0 x1 : Int32) (hN : MN d) (fn : d 600 1 = nI (gn G)) : Met l y_Mo_refuse (.code y_Mo_refuse b_Mo_refuse 3 (some .int) :: WS) { frames := 2, cells := 0, slots := 0, locals := 54 } (cPre G [.ref (gad G (600)), .int (x0), .int (x1)] d) (cQi G (mQ d (mC_refuse d x0 x1) (onF (m_refuse d (gn G) (cl x0) (cl x1) 611 (3 * cl x0 + cl x1)) 4) (m_refuse d (gn G) (cl x0) (cl x1)))) 0 0 (gAb G) := by
  refine c_start (own := R_Mo) (by decide +kernel) rfl (Nat.le_of_ble_eq_true rfl) ?_
  intro p e zs zm below meth zc ls C hW hl
  obtain ⟨hx, hb, hr, hml, hown, hts, hlk, hE, hbs⟩ := C
  have hK := hE.1
  have hn3 := hG.1
  have hl : lv_has ls 3 [(0, .ref (gad G (600))), (1, .int (x0)), (2, .int (x1))] := hl
  refine lv_aload_n hx hb d_Mo_refuse_0 rfl (lv_at hl 0 rfl) ?_
  refine lv_iconst (v := 0) hx hb d_Mo_refuse_1 (by decide) ?_
  refine e_put hx hb hts hown hK hW (F_Mo G hG) i_Mo t_Mo t_Mo_ok n_Mo rfl 0 (by decide) (hts _ kw_403) (fun _ h => h) rfl (by decide +kernel) (fun _ => rfl) (fun _ => rfl) d_Mo_refuse_2 (fun H locs hW => ?_)
  refine lv_aload_n hx hb d_Mo_refuse_5 rfl (lv_at hl 0 rfl) ?_
  refine lv_iload_n hx hb d_Mo_refuse_6 rfl (lv_at hl 1 rfl) ?_
  refine lv_bipush (v := 8) hx hb d_Mo_refuse_7 (by decide) ?_
  refine e_ci (e_runV hx hb hml hown hts hE hbs hW (F_Mo G hG) rfl (c_M_out l G hG (up2 d (600) (0) (0)) (x0) (8)) kw_491 kw_492 kw_493 kw_412 kw_490 rfl rfl hd_Mo_out ⟨Nat.le_of_ble_eq_true rfl, Nat.le_of_ble_eq_true rfl⟩ (As := [.int (x0), .int (8)]) (rest := []) rfl hl.1 rfl (Nat.le_of_ble_eq_true rfl) d_Mo_refuse_9 ⟨Nat.le_of_ble_eq_true rfl, Nat.le_of_ble_eq_true rfl⟩) hW (fun r d' H locs hp hW => ?_)
  obtain ⟨hp1, hp2⟩ := hp
  have hp1 := hp1.symm; subst hp1
  have hp2 := hp2.symm; subst hp2
  refine lv_if_ne (tgt := 24) hx hb d_Mo_refuse_12 (by decide) (fun c_1 => ?_) (fun c_1 => ?_)
  · skip
    refine lv_aload_n hx hb d_Mo_refuse_24 rfl (lv_at hl 0 rfl) ?_
    refine lv_iconst (v := 1) hx hb d_Mo_refuse_25 (by decide) ?_
    refine e_ci (e_runV hx hb hml hown hts hE hbs hW (F_Mo G hG) rfl (c_M_fail l G hG (up2 d (600) (0) (0)) (1)) kw_487 kw_488 kw_489 kw_412 kw_486 rfl rfl hd_Mo_fail ⟨Nat.le_of_ble_eq_true rfl, Nat.le_of_ble_eq_true rfl⟩ (As := [.int (1)]) (rest := []) rfl hl.1 rfl (Nat.le_of_ble_eq_true rfl) d_Mo_refuse_26 ⟨Nat.le_of_ble_eq_true rfl, Nat.le_of_ble_eq_true rfl⟩) hW (fun r d' H locs hp hW => ?_)
    obtain ⟨hp1, hp2⟩ := hp
    have hp1 := hp1.symm; subst hp1
    have hp2 := hp2.symm; subst hp2
    exact e_iret hx hb hr hlk hW (mq_no (c := (1)) (by unfold mC_refuse; rw [if_neg c_1]) (by decide) (by exact rfl)) (Nat.zero_le _) (Nat.zero_le _) d_Mo_refuse_29
  · skip
    obtain ⟨t, ht, et⟩ := out_nat (B := 8) (by omega) c_1
    subst et
    refine lv_aload_n hx hb d_Mo_refuse_15 rfl (lv_at hl 0 rfl) ?_
    refine lv_iload_n hx hb d_Mo_refuse_16 rfl (lv_at hl 2 rfl) ?_
    refine lv_iconst (v := 3) hx hb d_Mo_refuse_17 (by decide) ?_
    refine e_ci (e_runV hx hb hml hown hts hE hbs hW (F_Mo G hG) rfl (c_M_out l G hG (up2 d (600) (0) (0)) (x1) (3)) kw_491 kw_492 kw_493 kw_412 kw_490 rfl rfl hd_Mo_out ⟨Nat.le_of_ble_eq_true rfl, Nat.le_of_ble_eq_true rfl⟩ (As := [.int (x1), .int (3)]) (rest := []) rfl hl.1 rfl (Nat.le_of_ble_eq_true rfl) d_Mo_refuse_18 ⟨Nat.le_of_ble_eq_true rfl, Nat.le_of_ble_eq_true rfl⟩) hW (fun r d' H locs hp hW => ?_)
    obtain ⟨hp1, hp2⟩ := hp
    have hp1 := hp1.symm; subst hp1
    have hp2 := hp2.symm; subst hp2
    refine lv_if_eq (tgt := 30) hx hb d_Mo_refuse_21 (by decide) (fun c_2 => ?_) (fun c_2 => ?_)
    · skip
      obtain ⟨s, hs, et⟩ := out_nat (B := 3) (by omega) c_2
      subst et
      refine lv_iload_n hx hb d_Mo_refuse_30 rfl (lv_at hl 1 rfl) ?_
      refine lv_aload_n hx hb d_Mo_refuse_31 rfl (lv_at hl 0 rfl) ?_
      refine e_get (v := .int ((up2 d (600) (0) (0)) (600) (7))) hx hb hts hown hK hW (F_Mo G hG) i_Mo rfl 7 (by decide) (hts _ kw_485) (fun _ h => h) rfl d_Mo_refuse_32 ?_
      refine e_top (v := d (600) (7)) ((up2_nk (by decide)).trans (rfl)) ?_
      refine lv_icmp_lt (tgt := 44) hx hb d_Mo_refuse_35 (by decide) (fun c_3 => ?_) (fun c_3 => ?_)
      · skip
        refine lv_aload_n hx hb d_Mo_refuse_44 rfl (lv_at hl 0 rfl) ?_
        refine e_get (v := .ref (gad G (602))) hx hb hts hown hK hW (F_Mo G hG) i_Mo rfl 2 (by decide) (hts _ kw_458) (fun _ h => h) rfl d_Mo_refuse_45 ?_
        refine lv_iload_n hx hb d_Mo_refuse_48 rfl (lv_at hl 2 rfl) ?_
        refine e_zald hx hb hK hW (F_MstoreDown G hG) (j := s) hs (x := d (602) (s)) ((up2_nc (by omega)).trans (rfl)) rfl d_Mo_refuse_49 ?_
        refine lv_if_eq (tgt := 59) hx hb d_Mo_refuse_50 (by decide) (fun c_4 => ?_) (fun c_4 => ?_)
        · skip
          refine lv_aload_n hx hb d_Mo_refuse_59 rfl (lv_at hl 0 rfl) ?_
          refine e_get (v := .ref (gad G (610))) hx hb hts hown hK hW (F_Mo G hG) i_Mo rfl 10 (by decide) (hts _ kw_410) (fun _ h => h) rfl d_Mo_refuse_60 ?_
          refine lv_iconst (v := 3) hx hb d_Mo_refuse_63 (by decide) ?_
          refine lv_iload_n hx hb d_Mo_refuse_64 rfl (lv_at hl 1 rfl) ?_
          refine lv_imul hx hb d_Mo_refuse_65 ?_
          refine e_top (v := nI (3 * t)) (pk_mul (3) (t)) ?_
          refine lv_iload_n hx hb d_Mo_refuse_66 rfl (lv_at hl 2 rfl) ?_
          refine lv_iadd hx hb d_Mo_refuse_67 ?_
          refine e_top (v := nI (3 * t + s)) (nI_add (3 * t) (s)) ?_
          refine e_iald hx hb hK hW (F_Mstate G hG) (j := 3 * t + s) (by omega) (x := d (610) (3 * t + s)) ((up2_nc (by omega)).trans (rfl)) rfl d_Mo_refuse_68 ?_
          refine lv_iconst (v := 1) hx hb d_Mo_refuse_69 (by decide) ?_
          refine lv_icmp_eq (tgt := 79) hx hb d_Mo_refuse_70 (by decide) (fun c_5 => ?_) (fun c_5 => ?_)
          · skip
            refine lv_aload_n hx hb d_Mo_refuse_79 rfl (lv_at hl 0 rfl) ?_
            refine lv_iload_n hx hb d_Mo_refuse_80 rfl (lv_at hl 1 rfl) ?_
            refine lv_iload_n hx hb d_Mo_refuse_81 rfl (lv_at hl 2 rfl) ?_
            refine e_cv (e_runV hx hb hml hown hts hE hbs hW (F_Mo G hG) rfl (c_M_abort l G hG (up2 d (600) (0) (0)) t s ht hs) kw_430 kw_431 kw_432 kw_412 kw_429 rfl rfl hd_Mo_abort ⟨Nat.le_of_ble_eq_true rfl, Nat.le_of_ble_eq_true rfl⟩ (As := [.int (nI t), .int (nI s)]) (rest := []) rfl hl.1 rfl (Nat.le_of_ble_eq_true rfl) d_Mo_refuse_82 ⟨Nat.le_of_ble_eq_true rfl, Nat.le_of_ble_eq_true rfl⟩) hW (fun d' H locs hp hW => ?_)
            have hp := hp.symm; subst hp
            refine lv_aload_n hx hb d_Mo_refuse_85 rfl (lv_at hl 0 rfl) ?_
            refine lv_iload_n hx hb d_Mo_refuse_86 rfl (lv_at hl 1 rfl) ?_
            refine lv_iload_n hx hb d_Mo_refuse_87 rfl (lv_at hl 2 rfl) ?_
            refine lv_iconst (v := 0) hx hb d_Mo_refuse_88 (by decide) ?_
            refine lv_iconst (v := 0) hx hb d_Mo_refuse_89 (by decide) ?_
            refine e_cv (e_runV hx hb hml hown hts hE hbs hW (F_Mo G hG) rfl (c_M_vote l G hG (m_abort (up2 d (600) (0) (0)) t s) (nI t) (nI s) (0) (0) (MN_keep (MN_keep hN (up2_nk (by decide))) (congrFun (m_abort_off (by omega) (by omega)) _)) (((congrFun (m_abort_off (by omega) (by omega)) _).trans ((up2_nk (by decide)).trans (fn))))) kw_434 kw_435 kw_436 kw_412 kw_433 rfl rfl hd_Mo_vote ⟨Nat.le_of_ble_eq_true rfl, Nat.le_of_ble_eq_true rfl⟩ (As := [.int (nI t), .int (nI s), .int (0), .int (0)]) (rest := []) rfl hl.1 rfl (Nat.le_of_ble_eq_true rfl) d_Mo_refuse_90 ⟨Nat.le_of_ble_eq_true rfl, Nat.le_of_ble_eq_true rfl⟩) hW (fun d' H locs hp hW => ?_)
            have hp := hp.symm; subst hp
            refine lv_aload_n hx hb d_Mo_refuse_93 rfl (lv_at hl 0 rfl) ?_
            refine lv_aload_n hx hb d_Mo_refuse_94 rfl (lv_at hl 0 rfl) ?_
            refine e_get (v := .ref (gad G (611))) hx hb hts hown hK hW (F_Mo G hG) i_Mo rfl 11 (by decide) (hts _ kw_455) (fun _ h => h) rfl d_Mo_refuse_95 ?_
            refine lv_iconst (v := 3) hx hb d_Mo_refuse_98 (by decide) ?_
            refine lv_iload_n hx hb d_Mo_refuse_99 rfl (lv_at hl 1 rfl) ?_
            refine lv_imul hx hb d_Mo_refuse_100 ?_
            refine e_top (v := nI (3 * t)) (pk_mul (3) (t)) ?_
            refine lv_iload_n hx hb d_Mo_refuse_101 rfl (lv_at hl 2 rfl) ?_
            refine lv_iadd hx hb d_Mo_refuse_102 ?_
            refine e_top (v := nI (3 * t + s)) (nI_add (3 * t) (s)) ?_
            refine e_iald hx hb hK hW (F_Mwrites G hG) (j := 3 * t + s) (by omega) (x := (lpMV (m_abort (up2 d (600) (0) (0)) t s) (nI t) (nI s) (0) (0) (gn G)) (611) (3 * t + s)) (rfl) rfl d_Mo_refuse_103 ?_
            refine e_ci (e_runV hx hb hml hown hts hE hbs hW (F_Mo G hG) rfl (c_M_ones l G hG (lpMV (m_abort (up2 d (600) (0) (0)) t s) (nI t) (nI s) (0) (0) (gn G)) ((lpMV (m_abort (up2 d (600) (0) (0)) t s) (nI t) (nI s) (0) (0) (gn G)) (611) (3 * t + s))) kw_496 kw_497 kw_498 kw_412 kw_495 rfl rfl hd_Mo_ones ⟨Nat.le_of_ble_eq_true rfl, Nat.le_of_ble_eq_true rfl⟩ (As := [.int ((lpMV (m_abort (up2 d (600) (0) (0)) t s) (nI t) (nI s) (0) (0) (gn G)) (611) (3 * t + s))]) (rest := []) rfl hl.1 rfl (Nat.le_of_ble_eq_true rfl) d_Mo_refuse_104 ⟨Nat.le_of_ble_eq_true rfl, Nat.le_of_ble_eq_true rfl⟩) hW (fun r d' H locs hp hW => ?_)
            obtain ⟨hp1, hp2⟩ := hp
            have hp1 := hp1.symm; subst hp1
            have hp2 := hp2.symm; subst hp2
            exact e_iret hx hb hr hlk hW (mq_ok (by unfold mC_refuse; (try simp only [cl_nI (show t < 2147483648 by omega), cl_nI (show s < 2147483648 by omega)]); rw [if_pos c_1, if_pos c_2, if_pos c_3, if_pos c_4, if_pos c_5]) (by first | (simp only [cl_nI (show t < 2147483648 by omega), cl_nI (show s < 2147483648 by omega)]; done) | (simp only [cl_nI (show t < 2147483648 by omega), cl_nI (show s < 2147483648 by omega)]; exact rfl; done) | (exact rfl; done)) (by first | (simp only [cl_nI (show t < 2147483648 by omega), cl_nI (show s < 2147483648 by omega)]; done) | (simp only [cl_nI (show t < 2147483648 by omega), cl_nI (show s < 2147483648 by omega)]; exact rfl; done) | (exact rfl; done))) (Nat.zero_le _) (Nat.zero_le _) d_Mo_refuse_107
          · skip
            refine lv_aload_n hx hb d_Mo_refuse_73 rfl (lv_at hl 0 rfl) ?_
            refine lv_iconst (v := 4) hx hb d_Mo_refuse_74 (by decide) ?_
            refine e_ci (e_runV hx hb hml hown hts hE hbs hW (F_Mo G hG) rfl (c_M_fail l G hG (up2 d (600) (0) (0)) (4)) kw_487 kw_488 kw_489 kw_412 kw_486 rfl rfl hd_Mo_fail ⟨Nat.le_of_ble_eq_true rfl, Nat.le_of_ble_eq_true rfl⟩ (As := [.int (4)]) (rest := []) rfl hl.1 rfl (Nat.le_of_ble_eq_true rfl) d_Mo_refuse_75 ⟨Nat.le_of_ble_eq_true rfl, Nat.le_of_ble_eq_true rfl⟩) hW (fun r d' H locs hp hW => ?_)
            obtain ⟨hp1, hp2⟩ := hp
            have hp1 := hp1.symm; subst hp1
            have hp2 := hp2.symm; subst hp2
            exact e_iret hx hb hr hlk hW (mq_no (c := (4)) (by unfold mC_refuse; (try simp only [cl_nI (show t < 2147483648 by omega), cl_nI (show s < 2147483648 by omega)]); rw [if_pos c_1, if_pos c_2, if_pos c_3, if_pos c_4, if_neg c_5]) (by decide) (by exact rfl)) (Nat.zero_le _) (Nat.zero_le _) d_Mo_refuse_78
        · skip
          refine lv_aload_n hx hb d_Mo_refuse_53 rfl (lv_at hl 0 rfl) ?_
          refine lv_iconst (v := 3) hx hb d_Mo_refuse_54 (by decide) ?_
          refine e_ci (e_runV hx hb hml hown hts hE hbs hW (F_Mo G hG) rfl (c_M_fail l G hG (up2 d (600) (0) (0)) (3)) kw_487 kw_488 kw_489 kw_412 kw_486 rfl rfl hd_Mo_fail ⟨Nat.le_of_ble_eq_true rfl, Nat.le_of_ble_eq_true rfl⟩ (As := [.int (3)]) (rest := []) rfl hl.1 rfl (Nat.le_of_ble_eq_true rfl) d_Mo_refuse_55 ⟨Nat.le_of_ble_eq_true rfl, Nat.le_of_ble_eq_true rfl⟩) hW (fun r d' H locs hp hW => ?_)
          obtain ⟨hp1, hp2⟩ := hp
          have hp1 := hp1.symm; subst hp1
          have hp2 := hp2.symm; subst hp2
          exact e_iret hx hb hr hlk hW (mq_no (c := (3)) (by unfold mC_refuse; (try simp only [cl_nI (show t < 2147483648 by omega), cl_nI (show s < 2147483648 by omega)]); rw [if_pos c_1, if_pos c_2, if_pos c_3, if_neg c_4]) (by decide) (by exact rfl)) (Nat.zero_le _) (Nat.zero_le _) d_Mo_refuse_58
      · skip
        refine lv_aload_n hx hb d_Mo_refuse_38 rfl (lv_at hl 0 rfl) ?_
        refine lv_iconst (v := 2) hx hb d_Mo_refuse_39 (by decide) ?_
        refine e_ci (e_runV hx hb hml hown hts hE hbs hW (F_Mo G hG) rfl (c_M_fail l G hG (up2 d (600) (0) (0)) (2)) kw_487 kw_488 kw_489 kw_412 kw_486 rfl rfl hd_Mo_fail ⟨Nat.le_of_ble_eq_true rfl, Nat.le_of_ble_eq_true rfl⟩ (As := [.int (2)]) (rest := []) rfl hl.1 rfl (Nat.le_of_ble_eq_true rfl) d_Mo_refuse_40 ⟨Nat.le_of_ble_eq_true rfl, Nat.le_of_ble_eq_true rfl⟩) hW (fun r d' H locs hp hW => ?_)
        obtain ⟨hp1, hp2⟩ := hp
        have hp1 := hp1.symm; subst hp1
        have hp2 := hp2.symm; subst hp2
        exact e_iret hx hb hr hlk hW (mq_no (c := (2)) (by unfold mC_refuse; (try simp only [cl_nI (show t < 2147483648 by omega), cl_nI (show s < 2147483648 by omega)]); rw [if_pos c_1, if_pos c_2, if_neg c_3]) (by decide) (by exact rfl)) (Nat.zero_le _) (Nat.zero_le _) d_Mo_refuse_43
    · skip
      refine lv_aload_n hx hb d_Mo_refuse_24 rfl (lv_at hl 0 rfl) ?_
      refine lv_iconst (v := 1) hx hb d_Mo_refuse_25 (by decide) ?_
      refine e_ci (e_runV hx hb hml hown hts hE hbs hW (F_Mo G hG) rfl (c_M_fail l G hG (up2 d (600) (0) (0)) (1)) kw_487 kw_488 kw_489 kw_412 kw_486 rfl rfl hd_Mo_fail ⟨Nat.le_of_ble_eq_true rfl, Nat.le_of_ble_eq_true rfl⟩ (As := [.int (1)]) (rest := []) rfl hl.1 rfl (Nat.le_of_ble_eq_true rfl) d_Mo_refuse_26 ⟨Nat.le_of_ble_eq_true rfl, Nat.le_of_ble_eq_true rfl⟩) hW (fun r d' H locs hp hW => ?_)
      obtain ⟨hp1, hp2⟩ := hp
      have hp1 := hp1.symm; subst hp1
      have hp2 := hp2.symm; subst hp2
      exact e_iret hx hb hr hlk hW (mq_no (c := (1)) (by unfold mC_refuse; (try simp only [cl_nI (show t < 2147483648 by omega)]); rw [if_pos c_1, if_neg c_2]) (by decide) (by exact rfl)) (Nat.zero_le _) (Nat.zero_le _) d_Mo_refuse_29
set_option maxHeartbeats 4000000 in
set_option maxRecDepth 100000 in
theorem c_M_take (l : Launch) (G : GT) (hG : GOK G) (d : DD) (x0 x1 : Int32) (hN : MN d) (fn : d 600 1 = nI (gn G)) : Met l y_Mo_take (.code y_Mo_take b_Mo_take 7 (some .int) :: WS) { frames := 1, cells := 0, slots := 0, locals := 28 } (cPre G [.ref (gad G (600)), .int (x0), .int (x1)] d) (cQi G (mQ d (mC_take d x0 x1) (tkB (d 616 (8 * cl x0 + cl x1)) x0) (m_take d (gn G) (cl x0) (cl x1)))) 0 0 (gAb G) := by
  refine c_start (own := R_Mo) (by decide +kernel) rfl (Nat.le_of_ble_eq_true rfl) ?_
  intro p e zs zm below meth zc ls C hW hl
  obtain ⟨hx, hb, hr, hml, hown, hts, hlk, hE, hbs⟩ := C
  have hK := hE.1
  have hn3 := hG.1
  have hl : lv_has ls 7 [(0, .ref (gad G (600))), (1, .int (x0)), (2, .int (x1))] := hl
  refine lv_aload_n hx hb d_Mo_take_0 rfl (lv_at hl 0 rfl) ?_
  refine lv_iconst (v := 0) hx hb d_Mo_take_1 (by decide) ?_
  refine e_put hx hb hts hown hK hW (F_Mo G hG) i_Mo t_Mo t_Mo_ok n_Mo rfl 0 (by decide) (hts _ kw_403) (fun _ h => h) rfl (by decide +kernel) (fun _ => rfl) (fun _ => rfl) d_Mo_take_2 (fun H locs hW => ?_)
  refine lv_aload_n hx hb d_Mo_take_5 rfl (lv_at hl 0 rfl) ?_
  refine lv_iload_n hx hb d_Mo_take_6 rfl (lv_at hl 1 rfl) ?_
  refine lv_iconst (v := 2) hx hb d_Mo_take_7 (by decide) ?_
  refine e_ci (e_runV hx hb hml hown hts hE hbs hW (F_Mo G hG) rfl (c_M_out l G hG (up2 d (600) (0) (0)) (x0) (2)) kw_491 kw_492 kw_493 kw_412 kw_490 rfl rfl hd_Mo_out ⟨Nat.le_of_ble_eq_true rfl, Nat.le_of_ble_eq_true rfl⟩ (As := [.int (x0), .int (2)]) (rest := []) rfl hl.1 rfl (Nat.le_of_ble_eq_true rfl) d_Mo_take_8 ⟨Nat.le_of_ble_eq_true rfl, Nat.le_of_ble_eq_true rfl⟩) hW (fun r d' H locs hp hW => ?_)
  obtain ⟨hp1, hp2⟩ := hp
  have hp1 := hp1.symm; subst hp1
  have hp2 := hp2.symm; subst hp2
  refine lv_if_ne (tgt := 24) hx hb d_Mo_take_11 (by decide) (fun c_1 => ?_) (fun c_1 => ?_)
  · skip
    refine lv_aload_n hx hb d_Mo_take_24 rfl (lv_at hl 0 rfl) ?_
    refine lv_iconst (v := 1) hx hb d_Mo_take_25 (by decide) ?_
    refine e_ci (e_runV hx hb hml hown hts hE hbs hW (F_Mo G hG) rfl (c_M_fail l G hG (up2 d (600) (0) (0)) (1)) kw_487 kw_488 kw_489 kw_412 kw_486 rfl rfl hd_Mo_fail ⟨Nat.le_of_ble_eq_true rfl, Nat.le_of_ble_eq_true rfl⟩ (As := [.int (1)]) (rest := []) rfl hl.1 rfl (Nat.le_of_ble_eq_true rfl) d_Mo_take_26 ⟨Nat.le_of_ble_eq_true rfl, Nat.le_of_ble_eq_true rfl⟩) hW (fun r d' H locs hp hW => ?_)
    obtain ⟨hp1, hp2⟩ := hp
    have hp1 := hp1.symm; subst hp1
    have hp2 := hp2.symm; subst hp2
    exact e_iret hx hb hr hlk hW (mq_no (c := (1)) (by unfold mC_take; rw [if_neg c_1]) (by decide) (by exact rfl)) (Nat.zero_le _) (Nat.zero_le _) d_Mo_take_29
  · skip
    obtain ⟨ld, hld, et⟩ := out_nat (B := 2) (by omega) c_1
    subst et
    refine lv_aload_n hx hb d_Mo_take_14 rfl (lv_at hl 0 rfl) ?_
    refine lv_iload_n hx hb d_Mo_take_15 rfl (lv_at hl 2 rfl) ?_
    refine lv_bipush (v := 8) hx hb d_Mo_take_16 (by decide) ?_
    refine e_ci (e_runV hx hb hml hown hts hE hbs hW (F_Mo G hG) rfl (c_M_out l G hG (up2 d (600) (0) (0)) (x1) (8)) kw_491 kw_492 kw_493 kw_412 kw_490 rfl rfl hd_Mo_out ⟨Nat.le_of_ble_eq_true rfl, Nat.le_of_ble_eq_true rfl⟩ (As := [.int (x1), .int (8)]) (rest := []) rfl hl.1 rfl (Nat.le_of_ble_eq_true rfl) d_Mo_take_18 ⟨Nat.le_of_ble_eq_true rfl, Nat.le_of_ble_eq_true rfl⟩) hW (fun r d' H locs hp hW => ?_)
    obtain ⟨hp1, hp2⟩ := hp
    have hp1 := hp1.symm; subst hp1
    have hp2 := hp2.symm; subst hp2
    refine lv_if_eq (tgt := 30) hx hb d_Mo_take_21 (by decide) (fun c_2 => ?_) (fun c_2 => ?_)
    · skip
      obtain ⟨t, ht, et⟩ := out_nat (B := 8) (by omega) c_2
      subst et
      refine lv_iload_n hx hb d_Mo_take_30 rfl (lv_at hl 2 rfl) ?_
      refine lv_aload_n hx hb d_Mo_take_31 rfl (lv_at hl 0 rfl) ?_
      refine e_get (v := .int ((up2 d (600) (0) (0)) (600) (7))) hx hb hts hown hK hW (F_Mo G hG) i_Mo rfl 7 (by decide) (hts _ kw_485) (fun _ h => h) rfl d_Mo_take_32 ?_
      refine e_top (v := d (600) (7)) ((up2_nk (by decide)).trans (rfl)) ?_
      refine lv_icmp_lt (tgt := 44) hx hb d_Mo_take_35 (by decide) (fun c_3 => ?_) (fun c_3 => ?_)
      · skip
        refine lv_aload_n hx hb d_Mo_take_44 rfl (lv_at hl 0 rfl) ?_
        refine e_get (v := .ref (gad G (604))) hx hb hts hown hK hW (F_Mo G hG) i_Mo rfl 4 (by decide) (hts _ kw_468) (fun _ h => h) rfl d_Mo_take_45 ?_
        refine lv_iload_n hx hb d_Mo_take_48 rfl (lv_at hl 1 rfl) ?_
        refine e_zald hx hb hK hW (F_MleaderDown G hG) (j := ld) hld (x := d (604) (ld)) ((up2_nc (by omega)).trans (rfl)) rfl d_Mo_take_49 ?_
        refine lv_if_eq (tgt := 59) hx hb d_Mo_take_50 (by decide) (fun c_4 => ?_) (fun c_4 => ?_)
        · skip
          refine lv_aload_n hx hb d_Mo_take_59 rfl (lv_at hl 0 rfl) ?_
          refine e_get (v := .ref (gad G (609))) hx hb hts hown hK hW (F_Mo G hG) i_Mo rfl 9 (by decide) (hts _ kw_494) (fun _ h => h) rfl d_Mo_take_60 ?_
          refine lv_iload_n hx hb d_Mo_take_63 rfl (lv_at hl 2 rfl) ?_
          refine e_zald hx hb hK hW (F_Mclosed G hG) (j := t) ht (x := d (609) (t)) ((up2_nc (by omega)).trans (rfl)) rfl d_Mo_take_64 ?_
          refine lv_if_ne (tgt := 74) hx hb d_Mo_take_65 (by decide) (fun c_5 => ?_) (fun c_5 => ?_)
          · skip
            refine lv_bipush (v := 8) hx hb d_Mo_take_74 (by decide) ?_
            refine lv_iload_n hx hb d_Mo_take_76 rfl (lv_at hl 1 rfl) ?_
            refine lv_imul hx hb d_Mo_take_77 ?_
            refine e_top (v := nI (8 * ld)) (pk_mul (8) (ld)) ?_
            refine lv_iload_n hx hb d_Mo_take_78 rfl (lv_at hl 2 rfl) ?_
            refine lv_iadd hx hb d_Mo_take_79 ?_
            refine e_top (v := nI (8 * ld + t)) (nI_add (8 * ld) (t)) ?_
            refine lv_istore_n (lv' := [(3, .int (nI (8 * ld + t))), (0, .ref (gad G (600))), (1, .int (nI ld)), (2, .int (nI t))]) hx hb d_Mo_take_80 rfl hl (by decide) rfl (fun ls hl => ?_)
            refine lv_aload_n hx hb d_Mo_take_81 rfl (lv_at hl 1 rfl) ?_
            refine e_get (v := .ref (gad G (616))) hx hb hts hown hK hW (F_Mo G hG) i_Mo rfl 16 (by decide) (hts _ kw_444) (fun _ h => h) rfl d_Mo_take_82 ?_
            refine lv_iload_n hx hb d_Mo_take_85 rfl (lv_at hl 0 rfl) ?_
            refine e_iald hx hb hK hW (F_Mballot G hG) (j := 8 * ld + t) (by omega) (x := d (616) (8 * ld + t)) ((up2_nc (by omega)).trans (rfl)) rfl d_Mo_take_86 ?_
            refine lv_iconst (v := 1) hx hb d_Mo_take_87 (by decide) ?_
            refine lv_iadd hx hb d_Mo_take_88 ?_
            refine lv_istore (lv' := [(4, .int ((d (616) (8 * ld + t)) + (1))), (3, .int (nI (8 * ld + t))), (0, .ref (gad G (600))), (1, .int (nI ld)), (2, .int (nI t))]) hx hb d_Mo_take_89 hl (by decide) rfl (fun ls hl => ?_)
            refine lv_iload hx hb d_Mo_take_91 (lv_at hl 0 rfl) ?_
            refine lv_iconst (v := 2) hx hb d_Mo_take_93 (by decide) ?_
            refine lv_irem hx hb d_Mo_take_94 (by decide) ?_
            refine lv_iload_n hx hb d_Mo_take_95 rfl (lv_at hl 3 rfl) ?_
            refine lv_icmp_eq (tgt := 102) hx hb d_Mo_take_96 (by decide) (fun c_6 => ?_) (fun c_6 => ?_)
            · skip
              refine lv_aload_n hx hb d_Mo_take_102 rfl (lv_at hl 2 rfl) ?_
              refine e_get (v := .ref (gad G (616))) hx hb hts hown hK hW (F_Mo G hG) i_Mo rfl 16 (by decide) (hts _ kw_444) (fun _ h => h) rfl d_Mo_take_103 ?_
              refine lv_iload_n hx hb d_Mo_take_106 rfl (lv_at hl 1 rfl) ?_
              refine lv_iload hx hb d_Mo_take_107 (lv_at hl 0 rfl) ?_
              refine e_iast hx hb hK hW (F_Mballot G hG) (j := 8 * ld + t) (by omega) rfl d_Mo_take_109 (fun H locs hW => ?_)
              refine lv_aload_n hx hb d_Mo_take_110 rfl (lv_at hl 2 rfl) ?_
              refine e_get (v := .ref (gad G (617))) hx hb hts hown hK hW (F_Mo G hG) i_Mo rfl 17 (by decide) (hts _ kw_445) (fun _ h => h) rfl d_Mo_take_111 ?_
              refine lv_iload_n hx hb d_Mo_take_114 rfl (lv_at hl 1 rfl) ?_
              refine lv_iconst (v := 0) hx hb d_Mo_take_115 (by decide) ?_
              refine e_zast hx hb hK hW (F_Mproposed G hG) (j := 8 * ld + t) (by omega) rfl (by decide) d_Mo_take_116 (fun H locs hW => ?_)
              refine lv_iconst (v := 0) hx hb d_Mo_take_117 (by decide) ?_
              refine lv_istore (lv' := [(5, .int (0)), (4, .int ((d (616) (8 * ld + t)) + (1))), (3, .int (nI (8 * ld + t))), (0, .ref (gad G (600))), (1, .int (nI ld)), (2, .int (nI t))]) hx hb d_Mo_take_118 hl (by decide) rfl (fun ls hl => ?_)
              have L_120 : ∀ (N a : Nat), a ≤ 3 → 3 + 1 ≤ a + N → ∀ (H : Heap) (locs : List Loc) (ls : Array Slot), WD G zs.heap (lpMD (up2 (up2 (up2 d 600 0 0) 616 (8 * ld + t) ((d (616) (8 * ld + t)) + (1))) 617 (8 * ld + t) 0) (8 * ld + t) a) H locs → lv_has ls 7 [(5, .int (nI a)), (4, .int ((d (616) (8 * ld + t)) + (1))), (3, .int (nI (8 * ld + t))), (0, .ref (gad G (600))), (1, .int (nI ld)), (2, .int (nI t))] → (MN (lpMD (up2 (up2 (up2 d 600 0 0) 616 (8 * ld + t) ((d (616) (8 * ld + t)) + (1))) 617 (8 * ld + t) 0) (8 * ld + t) a)) → ((lpMD (up2 (up2 (up2 d 600 0 0) 616 (8 * ld + t) ((d (616) (8 * ld + t)) + (1))) 617 (8 * ld + t) 0) (8 * ld + t) a) (600) (1) = nI (gn G)) → W p l e { frames := 1, cells := 0, slots := 0, locals := 28 } zs zm [.ref (gad G (600)), .int ((nI ld)), .int ((nI t))].toArray below meth zc H locs 0 0 (MQ below (cQi G (mQ d (mC_take d (nI ld) (nI t)) (tkB (d 616 (8 * cl (nI ld) + cl (nI t))) (nI ld)) (m_take d (gn G) (cl (nI ld)) (cl (nI t))))) [.ref (gad G (600)), .int ((nI ld)), .int ((nI t))].toArray zs 0 0 (gAb G)) (F0 zm 120 ls []) := by
                intro N
                induction N with
                | zero => intro a h1 h2; exact absurd h2 (by omega)
                | succ N ih_a =>
                  intro a hi_a hN_a H locs ls hW hl hM_a f0_a
                  refine lv_iload hx hb d_Mo_take_120 (lv_at hl 0 rfl) ?_
                  refine lv_iconst (v := 3) hx hb d_Mo_take_122 (by decide) ?_
                  refine lv_icmp_ge (tgt := 144) hx hb d_Mo_take_123 (by decide) (fun c_7 => ?_) (fun c_7 => ?_)
                  · skip
                    have e_a : 3 = a := (lp_out rfl (by omega) hi_a c_7).symm
                    subst e_a
                    refine lv_iconst (v := 0) hx hb d_Mo_take_144 (by decide) ?_
                    refine lv_istore (lv' := [(5, .int (0)), (4, .int ((d (616) (8 * ld + t)) + (1))), (3, .int (nI (8 * ld + t))), (0, .ref (gad G (600))), (1, .int (nI ld)), (2, .int (nI t))]) hx hb d_Mo_take_145 hl (by decide) rfl (fun ls hl => ?_)
                    have L_147 : ∀ (N a : Nat), a ≤ gn G → gn G + 1 ≤ a + N → ∀ (H : Heap) (locs : List Loc) (ls : Array Slot), WD G zs.heap (lpMA (lpMD (up2 (up2 (up2 d 600 0 0) 616 (8 * ld + t) ((d (616) (8 * ld + t)) + (1))) 617 (8 * ld + t) 0) (8 * ld + t) 3) (nI t) ((d (616) (8 * ld + t)) + (1)) a) H locs → lv_has ls 7 [(5, .int (nI a)), (4, .int ((d (616) (8 * ld + t)) + (1))), (3, .int (nI (8 * ld + t))), (0, .ref (gad G (600))), (1, .int (nI ld)), (2, .int (nI t))] → (MN (lpMA (lpMD (up2 (up2 (up2 d 600 0 0) 616 (8 * ld + t) ((d (616) (8 * ld + t)) + (1))) 617 (8 * ld + t) 0) (8 * ld + t) 3) (nI t) ((d (616) (8 * ld + t)) + (1)) a)) → ((lpMA (lpMD (up2 (up2 (up2 d 600 0 0) 616 (8 * ld + t) ((d (616) (8 * ld + t)) + (1))) 617 (8 * ld + t) 0) (8 * ld + t) 3) (nI t) ((d (616) (8 * ld + t)) + (1)) a) (600) (1) = nI (gn G)) → W p l e { frames := 1, cells := 0, slots := 0, locals := 28 } zs zm [.ref (gad G (600)), .int ((nI ld)), .int ((nI t))].toArray below meth zc H locs 0 0 (MQ below (cQi G (mQ d (mC_take d (nI ld) (nI t)) (tkB (d 616 (8 * cl (nI ld) + cl (nI t))) (nI ld)) (m_take d (gn G) (cl (nI ld)) (cl (nI t))))) [.ref (gad G (600)), .int ((nI ld)), .int ((nI t))].toArray zs 0 0 (gAb G)) (F0 zm 147 ls []) := by
                      intro N
                      induction N with
                      | zero => intro a h1 h2; exact absurd h2 (by omega)
                      | succ N ih_a =>
                        intro a hi_a hN_a H locs ls hW hl hM_a f0_a
                        refine lv_iload hx hb d_Mo_take_147 (lv_at hl 0 rfl) ?_
                        refine lv_aload_n hx hb d_Mo_take_149 rfl (lv_at hl 3 rfl) ?_
                        refine e_get (v := .int ((lpMA (lpMD (up2 (up2 (up2 d 600 0 0) 616 (8 * ld + t) ((d (616) (8 * ld + t)) + (1))) 617 (8 * ld + t) 0) (8 * ld + t) 3) (nI t) ((d (616) (8 * ld + t)) + (1)) a) (600) (1))) hx hb hts hown hK hW (F_Mo G hG) i_Mo rfl 1 (by decide) (hts _ kw_404) (fun _ h => h) rfl d_Mo_take_150 ?_
                        refine e_top (v := nI (gn G)) (f0_a) ?_
                        refine lv_icmp_ge (tgt := 178) hx hb d_Mo_take_153 (by decide) (fun c_8 => ?_) (fun c_8 => ?_)
                        · skip
                          have e_a : gn G = a := (lp_out rfl (by omega) hi_a c_8).symm
                          subst e_a
                          refine lv_iload hx hb d_Mo_take_178 (lv_at hl 1 rfl) ?_
                          exact e_iret hx hb hr hlk hW (mq_ok (by unfold mC_take; (try simp only [cl_nI (show ld < 2147483648 by omega), cl_nI (show t < 2147483648 by omega)]); rw [if_pos c_1, if_pos c_2, if_pos c_3, if_pos c_4, if_neg c_5]) (by first | (simp only [cl_nI (show ld < 2147483648 by omega), cl_nI (show t < 2147483648 by omega)]; done) | (simp only [cl_nI (show ld < 2147483648 by omega), cl_nI (show t < 2147483648 by omega)]; unfold tkB; rw [if_pos c_6]; done) | (unfold tkB; rw [if_pos c_6]; done)) (by first | (simp only [cl_nI (show ld < 2147483648 by omega), cl_nI (show t < 2147483648 by omega)]; done) | (simp only [cl_nI (show ld < 2147483648 by omega), cl_nI (show t < 2147483648 by omega)]; unfold m_take tkB; rw [if_pos c_6]; done) | (unfold m_take tkB; rw [if_pos c_6]; done))) (Nat.zero_le _) (Nat.zero_le _) d_Mo_take_180
                        · skip
                          have lt_a : a < gn G := lp_in rfl (by omega) hi_a c_8
                          refine lv_aload_n hx hb d_Mo_take_156 rfl (lv_at hl 3 rfl) ?_
                          refine lv_bipush (v := 65) hx hb d_Mo_take_157 (by decide) ?_
                          refine lv_iload_n hx hb d_Mo_take_159 rfl (lv_at hl 5 rfl) ?_
                          refine lv_iconst (v := -1) hx hb d_Mo_take_160 (by decide) ?_
                          refine lv_iload hx hb d_Mo_take_161 (lv_at hl 0 rfl) ?_
                          refine lv_iconst (v := -1) hx hb d_Mo_take_163 (by decide) ?_
                          refine lv_iload hx hb d_Mo_take_164 (lv_at hl 1 rfl) ?_
                          refine lv_iconst (v := -1) hx hb d_Mo_take_166 (by decide) ?_
                          refine e_ci (e_runV hx hb hml hown hts hE hbs hW (F_Mo G hG) rfl (c_M_send l G hG (lpMA (lpMD (up2 (up2 (up2 d 600 0 0) 616 (8 * ld + t) ((d (616) (8 * ld + t)) + (1))) 617 (8 * ld + t) 0) (8 * ld + t) 3) (nI t) ((d (616) (8 * ld + t)) + (1)) a) (65) (nI t) (-1) (nI a) (-1) ((d (616) (8 * ld + t)) + (1)) (-1) hM_a) kw_426 kw_427 kw_428 kw_412 kw_425 rfl rfl hd_Mo_send ⟨Nat.le_of_ble_eq_true rfl, Nat.le_of_ble_eq_true rfl⟩ (As := [.int (65), .int (nI t), .int (-1), .int (nI a), .int (-1), .int ((d (616) (8 * ld + t)) + (1)), .int (-1)]) (rest := []) rfl hl.1 rfl (Nat.le_of_ble_eq_true rfl) d_Mo_take_167 ⟨Nat.le_of_ble_eq_true rfl, Nat.le_of_ble_eq_true rfl⟩) hW (fun r d' H locs hp hW => ?_)
                          obtain ⟨hp1, hp2⟩ := hp
                          have hp1 := hp1.symm; subst hp1
                          have hp2 := hp2.symm; subst hp2
                          refine lv_istore (lv' := [(6, .int (m_sR (lpMA (lpMD (up2 (up2 (up2 d 600 0 0) 616 (8 * ld + t) ((d (616) (8 * ld + t)) + (1))) 617 (8 * ld + t) 0) (8 * ld + t) 3) (nI t) ((d (616) (8 * ld + t)) + (1)) a))), (5, .int (nI a)), (4, .int ((d (616) (8 * ld + t)) + (1))), (3, .int (nI (8 * ld + t))), (0, .ref (gad G (600))), (1, .int (nI ld)), (2, .int (nI t))]) hx hb d_Mo_take_170 hl (by decide) rfl (fun ls hl => ?_)
                          refine lv_iinc (v := nI (a + 1)) (lv' := [(5, .int (nI (a + 1))), (6, .int (m_sR (lpMA (lpMD (up2 (up2 (up2 d 600 0 0) 616 (8 * ld + t) ((d (616) (8 * ld + t)) + (1))) 617 (8 * ld + t) 0) (8 * ld + t) 3) (nI t) ((d (616) (8 * ld + t)) + (1)) a))), (4, .int ((d (616) (8 * ld + t)) + (1))), (3, .int (nI (8 * ld + t))), (0, .ref (gad G (600))), (1, .int (nI ld)), (2, .int (nI t))]) hx hb d_Mo_take_172 hl (k := 1) rfl (nI_1 (a)) (by decide) rfl (fun ls hl => ?_)
                          refine lv_goto (tgt := 147) hx hb d_Mo_take_175 (by decide) ?_
                          exact ih_a (a + 1) (by omega) (by omega) _ _ _ (by rw [show lpMA (lpMD (up2 (up2 (up2 d 600 0 0) 616 (8 * ld + t) ((d (616) (8 * ld + t)) + (1))) 617 (8 * ld + t) 0) (8 * ld + t) 3) (nI t) ((d (616) (8 * ld + t)) + (1)) (a + 1) = (m_snd (lpMA (lpMD (up2 (up2 (up2 d 600 0 0) 616 (8 * ld + t) ((d (616) (8 * ld + t)) + (1))) 617 (8 * ld + t) 0) (8 * ld + t) 3) (nI t) ((d (616) (8 * ld + t)) + (1)) a) (65) (nI t) (-1) (nI a) (-1) ((d (616) (8 * ld + t)) + (1)) (-1)) from rfl]; exact hW) (lv_sub hl [0, 2, 3, 4, 5, 6] rfl) (by rw [show lpMA (lpMD (up2 (up2 (up2 d 600 0 0) 616 (8 * ld + t) ((d (616) (8 * ld + t)) + (1))) 617 (8 * ld + t) 0) (8 * ld + t) 3) (nI t) ((d (616) (8 * ld + t)) + (1)) (a + 1) = (m_snd (lpMA (lpMD (up2 (up2 (up2 d 600 0 0) 616 (8 * ld + t) ((d (616) (8 * ld + t)) + (1))) 617 (8 * ld + t) 0) (8 * ld + t) 3) (nI t) ((d (616) (8 * ld + t)) + (1)) a) (65) (nI t) (-1) (nI a) (-1) ((d (616) (8 * ld + t)) + (1)) (-1)) from rfl]; exact (show MN (m_snd (lpMA (lpMD (up2 (up2 (up2 d 600 0 0) 616 (8 * ld + t) ((d (616) (8 * ld + t)) + (1))) 617 (8 * ld + t) 0) (8 * ld + t) 3) (nI t) ((d (616) (8 * ld + t)) + (1)) a) (65) (nI t) (-1) (nI a) (-1) ((d (616) (8 * ld + t)) + (1)) (-1)) from ((MS_snd hM_a).1))) (by rw [show lpMA (lpMD (up2 (up2 (up2 d 600 0 0) 616 (8 * ld + t) ((d (616) (8 * ld + t)) + (1))) 617 (8 * ld + t) 0) (8 * ld + t) 3) (nI t) ((d (616) (8 * ld + t)) + (1)) (a + 1) = (m_snd (lpMA (lpMD (up2 (up2 (up2 d 600 0 0) 616 (8 * ld + t) ((d (616) (8 * ld + t)) + (1))) 617 (8 * ld + t) 0) (8 * ld + t) 3) (nI t) ((d (616) (8 * ld + t)) + (1)) a) (65) (nI t) (-1) (nI a) (-1) ((d (616) (8 * ld + t)) + (1)) (-1)) from rfl]; exact (show (m_snd (lpMA (lpMD (up2 (up2 (up2 d 600 0 0) 616 (8 * ld + t) ((d (616) (8 * ld + t)) + (1))) 617 (8 * ld + t) 0) (8 * ld + t) 3) (nI t) ((d (616) (8 * ld + t)) + (1)) a) (65) (nI t) (-1) (nI a) (-1) ((d (616) (8 * ld + t)) + (1)) (-1)) (600) (1) = nI (gn G) from ((((MS_snd hM_a).2.2 _ (by decide) (by decide)).trans (f0_a)))))
                    exact L_147 (gn G + 1) 0 (by omega) (by omega) _ _ _ hW (lv_sub hl [0, 1, 2, 3, 4, 5] rfl) (show MN (lpMD (up2 (up2 (up2 d 600 0 0) 616 (8 * ld + t) ((d (616) (8 * ld + t)) + (1))) 617 (8 * ld + t) 0) (8 * ld + t) 3) from hM_a) (show (lpMD (up2 (up2 (up2 d 600 0 0) 616 (8 * ld + t) ((d (616) (8 * ld + t)) + (1))) 617 (8 * ld + t) 0) (8 * ld + t) 3) (600) (1) = nI (gn G) from (f0_a))
                  · skip
                    have lt_a : a < 3 := lp_in rfl (by omega) hi_a c_7
                    refine lv_aload_n hx hb d_Mo_take_126 rfl (lv_at hl 3 rfl) ?_
                    refine e_get (v := .ref (gad G (619))) hx hb hts hown hK hW (F_Mo G hG) i_Mo rfl 19 (by decide) (hts _ kw_416) (fun _ h => h) rfl d_Mo_take_127 ?_
                    refine lv_iconst (v := 3) hx hb d_Mo_take_130 (by decide) ?_
                    refine lv_iload_n hx hb d_Mo_take_131 rfl (lv_at hl 2 rfl) ?_
                    refine lv_imul hx hb d_Mo_take_132 ?_
                    refine e_top (v := nI (3 * (8 * ld + t))) (pk_mul (3) (8 * ld + t)) ?_
                    refine lv_iload hx hb d_Mo_take_133 (lv_at hl 0 rfl) ?_
                    refine lv_iadd hx hb d_Mo_take_135 ?_
                    refine e_top (v := nI (3 * (8 * ld + t) + a)) (nI_add (3 * (8 * ld + t)) (a)) ?_
                    refine lv_iconst (v := 0) hx hb d_Mo_take_136 (by decide) ?_
                    refine e_zast hx hb hK hW (F_Mreplied G hG) (j := 3 * (8 * ld + t) + a) (by omega) rfl (by decide) d_Mo_take_137 (fun H locs hW => ?_)
                    refine lv_iinc (v := nI (a + 1)) (lv' := [(5, .int (nI (a + 1))), (4, .int ((d (616) (8 * ld + t)) + (1))), (3, .int (nI (8 * ld + t))), (0, .ref (gad G (600))), (1, .int (nI ld)), (2, .int (nI t))]) hx hb d_Mo_take_138 hl (k := 0) rfl (nI_1 (a)) (by decide) rfl (fun ls hl => ?_)
                    refine lv_goto (tgt := 120) hx hb d_Mo_take_141 (by decide) ?_
                    exact ih_a (a + 1) (by omega) (by omega) _ _ _ (by rw [show lpMD (up2 (up2 (up2 d 600 0 0) 616 (8 * ld + t) ((d (616) (8 * ld + t)) + (1))) 617 (8 * ld + t) 0) (8 * ld + t) (a + 1) = (up2 (lpMD (up2 (up2 (up2 d 600 0 0) 616 (8 * ld + t) ((d (616) (8 * ld + t)) + (1))) 617 (8 * ld + t) 0) (8 * ld + t) a) (619) (3 * (8 * ld + t) + a) (0)) from rfl]; exact hW) (lv_sub hl [0, 1, 2, 3, 4, 5] rfl) (by rw [show lpMD (up2 (up2 (up2 d 600 0 0) 616 (8 * ld + t) ((d (616) (8 * ld + t)) + (1))) 617 (8 * ld + t) 0) (8 * ld + t) (a + 1) = (up2 (lpMD (up2 (up2 (up2 d 600 0 0) 616 (8 * ld + t) ((d (616) (8 * ld + t)) + (1))) 617 (8 * ld + t) 0) (8 * ld + t) a) (619) (3 * (8 * ld + t) + a) (0)) from rfl]; exact (show MN (up2 (lpMD (up2 (up2 (up2 d 600 0 0) 616 (8 * ld + t) ((d (616) (8 * ld + t)) + (1))) 617 (8 * ld + t) 0) (8 * ld + t) a) (619) (3 * (8 * ld + t) + a) (0)) from (MN_keep hM_a (up2_nc (by omega))))) (by rw [show lpMD (up2 (up2 (up2 d 600 0 0) 616 (8 * ld + t) ((d (616) (8 * ld + t)) + (1))) 617 (8 * ld + t) 0) (8 * ld + t) (a + 1) = (up2 (lpMD (up2 (up2 (up2 d 600 0 0) 616 (8 * ld + t) ((d (616) (8 * ld + t)) + (1))) 617 (8 * ld + t) 0) (8 * ld + t) a) (619) (3 * (8 * ld + t) + a) (0)) from rfl]; exact (show (up2 (lpMD (up2 (up2 (up2 d 600 0 0) 616 (8 * ld + t) ((d (616) (8 * ld + t)) + (1))) 617 (8 * ld + t) 0) (8 * ld + t) a) (619) (3 * (8 * ld + t) + a) (0)) (600) (1) = nI (gn G) from ((up2_nc (by omega)).trans (f0_a))))
              exact L_120 (3 + 1) 0 (by omega) (by omega) _ _ _ hW (lv_sub hl [0, 1, 2, 3, 4, 5] rfl) (show MN (up2 (up2 (up2 d (600) (0) (0)) (616) (8 * ld + t) ((d (616) (8 * ld + t)) + (1))) (617) (8 * ld + t) (0)) from (MN_keep hN ((up2_nc (by omega)).trans ((up2_nc (by omega)).trans (up2_nk (by decide)))))) (show (up2 (up2 (up2 d (600) (0) (0)) (616) (8 * ld + t) ((d (616) (8 * ld + t)) + (1))) (617) (8 * ld + t) (0)) (600) (1) = nI (gn G) from ((up2_nc (by omega)).trans ((up2_nc (by omega)).trans ((up2_nk (by decide)).trans (fn)))))
            · skip
              refine lv_iinc (v := (d (616) (8 * ld + t)) + (1) + 1) (lv' := [(4, .int ((d (616) (8 * ld + t)) + (1) + 1)), (3, .int (nI (8 * ld + t))), (0, .ref (gad G (600))), (1, .int (nI ld)), (2, .int (nI t))]) hx hb d_Mo_take_99 hl (k := 0) rfl rfl (by decide) rfl (fun ls hl => ?_)
              refine lv_aload_n hx hb d_Mo_take_102 rfl (lv_at hl 2 rfl) ?_
              refine e_get (v := .ref (gad G (616))) hx hb hts hown hK hW (F_Mo G hG) i_Mo rfl 16 (by decide) (hts _ kw_444) (fun _ h => h) rfl d_Mo_take_103 ?_
              refine lv_iload_n hx hb d_Mo_take_106 rfl (lv_at hl 1 rfl) ?_
              refine lv_iload hx hb d_Mo_take_107 (lv_at hl 0 rfl) ?_
              refine e_iast hx hb hK hW (F_Mballot G hG) (j := 8 * ld + t) (by omega) rfl d_Mo_take_109 (fun H locs hW => ?_)
              refine lv_aload_n hx hb d_Mo_take_110 rfl (lv_at hl 2 rfl) ?_
              refine e_get (v := .ref (gad G (617))) hx hb hts hown hK hW (F_Mo G hG) i_Mo rfl 17 (by decide) (hts _ kw_445) (fun _ h => h) rfl d_Mo_take_111 ?_
              refine lv_iload_n hx hb d_Mo_take_114 rfl (lv_at hl 1 rfl) ?_
              refine lv_iconst (v := 0) hx hb d_Mo_take_115 (by decide) ?_
              refine e_zast hx hb hK hW (F_Mproposed G hG) (j := 8 * ld + t) (by omega) rfl (by decide) d_Mo_take_116 (fun H locs hW => ?_)
              refine lv_iconst (v := 0) hx hb d_Mo_take_117 (by decide) ?_
              refine lv_istore (lv' := [(5, .int (0)), (4, .int ((d (616) (8 * ld + t)) + (1) + 1)), (3, .int (nI (8 * ld + t))), (0, .ref (gad G (600))), (1, .int (nI ld)), (2, .int (nI t))]) hx hb d_Mo_take_118 hl (by decide) rfl (fun ls hl => ?_)
              have L_120 : ∀ (N a : Nat), a ≤ 3 → 3 + 1 ≤ a + N → ∀ (H : Heap) (locs : List Loc) (ls : Array Slot), WD G zs.heap (lpMD (up2 (up2 (up2 d 600 0 0) 616 (8 * ld + t) ((d (616) (8 * ld + t)) + (1) + 1)) 617 (8 * ld + t) 0) (8 * ld + t) a) H locs → lv_has ls 7 [(5, .int (nI a)), (4, .int ((d (616) (8 * ld + t)) + (1) + 1)), (3, .int (nI (8 * ld + t))), (0, .ref (gad G (600))), (1, .int (nI ld)), (2, .int (nI t))] → (MN (lpMD (up2 (up2 (up2 d 600 0 0) 616 (8 * ld + t) ((d (616) (8 * ld + t)) + (1) + 1)) 617 (8 * ld + t) 0) (8 * ld + t) a)) → ((lpMD (up2 (up2 (up2 d 600 0 0) 616 (8 * ld + t) ((d (616) (8 * ld + t)) + (1) + 1)) 617 (8 * ld + t) 0) (8 * ld + t) a) (600) (1) = nI (gn G)) → W p l e { frames := 1, cells := 0, slots := 0, locals := 28 } zs zm [.ref (gad G (600)), .int ((nI ld)), .int ((nI t))].toArray below meth zc H locs 0 0 (MQ below (cQi G (mQ d (mC_take d (nI ld) (nI t)) (tkB (d 616 (8 * cl (nI ld) + cl (nI t))) (nI ld)) (m_take d (gn G) (cl (nI ld)) (cl (nI t))))) [.ref (gad G (600)), .int ((nI ld)), .int ((nI t))].toArray zs 0 0 (gAb G)) (F0 zm 120 ls []) := by
                intro N
                induction N with
                | zero => intro a h1 h2; exact absurd h2 (by omega)
                | succ N ih_a =>
                  intro a hi_a hN_a H locs ls hW hl hM_a f0_a
                  refine lv_iload hx hb d_Mo_take_120 (lv_at hl 0 rfl) ?_
                  refine lv_iconst (v := 3) hx hb d_Mo_take_122 (by decide) ?_
                  refine lv_icmp_ge (tgt := 144) hx hb d_Mo_take_123 (by decide) (fun c_9 => ?_) (fun c_9 => ?_)
                  · skip
                    have e_a : 3 = a := (lp_out rfl (by omega) hi_a c_9).symm
                    subst e_a
                    refine lv_iconst (v := 0) hx hb d_Mo_take_144 (by decide) ?_
                    refine lv_istore (lv' := [(5, .int (0)), (4, .int ((d (616) (8 * ld + t)) + (1) + 1)), (3, .int (nI (8 * ld + t))), (0, .ref (gad G (600))), (1, .int (nI ld)), (2, .int (nI t))]) hx hb d_Mo_take_145 hl (by decide) rfl (fun ls hl => ?_)
                    have L_147 : ∀ (N a : Nat), a ≤ gn G → gn G + 1 ≤ a + N → ∀ (H : Heap) (locs : List Loc) (ls : Array Slot), WD G zs.heap (lpMA (lpMD (up2 (up2 (up2 d 600 0 0) 616 (8 * ld + t) ((d (616) (8 * ld + t)) + (1) + 1)) 617 (8 * ld + t) 0) (8 * ld + t) 3) (nI t) ((d (616) (8 * ld + t)) + (1) + 1) a) H locs → lv_has ls 7 [(5, .int (nI a)), (4, .int ((d (616) (8 * ld + t)) + (1) + 1)), (3, .int (nI (8 * ld + t))), (0, .ref (gad G (600))), (1, .int (nI ld)), (2, .int (nI t))] → (MN (lpMA (lpMD (up2 (up2 (up2 d 600 0 0) 616 (8 * ld + t) ((d (616) (8 * ld + t)) + (1) + 1)) 617 (8 * ld + t) 0) (8 * ld + t) 3) (nI t) ((d (616) (8 * ld + t)) + (1) + 1) a)) → ((lpMA (lpMD (up2 (up2 (up2 d 600 0 0) 616 (8 * ld + t) ((d (616) (8 * ld + t)) + (1) + 1)) 617 (8 * ld + t) 0) (8 * ld + t) 3) (nI t) ((d (616) (8 * ld + t)) + (1) + 1) a) (600) (1) = nI (gn G)) → W p l e { frames := 1, cells := 0, slots := 0, locals := 28 } zs zm [.ref (gad G (600)), .int ((nI ld)), .int ((nI t))].toArray below meth zc H locs 0 0 (MQ below (cQi G (mQ d (mC_take d (nI ld) (nI t)) (tkB (d 616 (8 * cl (nI ld) + cl (nI t))) (nI ld)) (m_take d (gn G) (cl (nI ld)) (cl (nI t))))) [.ref (gad G (600)), .int ((nI ld)), .int ((nI t))].toArray zs 0 0 (gAb G)) (F0 zm 147 ls []) := by
                      intro N
                      induction N with
                      | zero => intro a h1 h2; exact absurd h2 (by omega)
                      | succ N ih_a =>
                        intro a hi_a hN_a H locs ls hW hl hM_a f0_a
                        refine lv_iload hx hb d_Mo_take_147 (lv_at hl 0 rfl) ?_
                        refine lv_aload_n hx hb d_Mo_take_149 rfl (lv_at hl 3 rfl) ?_
                        refine e_get (v := .int ((lpMA (lpMD (up2 (up2 (up2 d 600 0 0) 616 (8 * ld + t) ((d (616) (8 * ld + t)) + (1) + 1)) 617 (8 * ld + t) 0) (8 * ld + t) 3) (nI t) ((d (616) (8 * ld + t)) + (1) + 1) a) (600) (1))) hx hb hts hown hK hW (F_Mo G hG) i_Mo rfl 1 (by decide) (hts _ kw_404) (fun _ h => h) rfl d_Mo_take_150 ?_
                        refine e_top (v := nI (gn G)) (f0_a) ?_
                        refine lv_icmp_ge (tgt := 178) hx hb d_Mo_take_153 (by decide) (fun c_10 => ?_) (fun c_10 => ?_)
                        · skip
                          have e_a : gn G = a := (lp_out rfl (by omega) hi_a c_10).symm
                          subst e_a
                          refine lv_iload hx hb d_Mo_take_178 (lv_at hl 1 rfl) ?_
                          exact e_iret hx hb hr hlk hW (mq_ok (by unfold mC_take; (try simp only [cl_nI (show ld < 2147483648 by omega), cl_nI (show t < 2147483648 by omega)]); rw [if_pos c_1, if_pos c_2, if_pos c_3, if_pos c_4, if_neg c_5]) (by first | (simp only [cl_nI (show ld < 2147483648 by omega), cl_nI (show t < 2147483648 by omega)]; done) | (simp only [cl_nI (show ld < 2147483648 by omega), cl_nI (show t < 2147483648 by omega)]; unfold tkB; rw [if_neg c_6]; done) | (unfold tkB; rw [if_neg c_6]; done)) (by first | (simp only [cl_nI (show ld < 2147483648 by omega), cl_nI (show t < 2147483648 by omega)]; done) | (simp only [cl_nI (show ld < 2147483648 by omega), cl_nI (show t < 2147483648 by omega)]; unfold m_take tkB; rw [if_neg c_6]; done) | (unfold m_take tkB; rw [if_neg c_6]; done))) (Nat.zero_le _) (Nat.zero_le _) d_Mo_take_180
                        · skip
                          have lt_a : a < gn G := lp_in rfl (by omega) hi_a c_10
                          refine lv_aload_n hx hb d_Mo_take_156 rfl (lv_at hl 3 rfl) ?_
                          refine lv_bipush (v := 65) hx hb d_Mo_take_157 (by decide) ?_
                          refine lv_iload_n hx hb d_Mo_take_159 rfl (lv_at hl 5 rfl) ?_
                          refine lv_iconst (v := -1) hx hb d_Mo_take_160 (by decide) ?_
                          refine lv_iload hx hb d_Mo_take_161 (lv_at hl 0 rfl) ?_
                          refine lv_iconst (v := -1) hx hb d_Mo_take_163 (by decide) ?_
                          refine lv_iload hx hb d_Mo_take_164 (lv_at hl 1 rfl) ?_
                          refine lv_iconst (v := -1) hx hb d_Mo_take_166 (by decide) ?_
                          refine e_ci (e_runV hx hb hml hown hts hE hbs hW (F_Mo G hG) rfl (c_M_send l G hG (lpMA (lpMD (up2 (up2 (up2 d 600 0 0) 616 (8 * ld + t) ((d (616) (8 * ld + t)) + (1) + 1)) 617 (8 * ld + t) 0) (8 * ld + t) 3) (nI t) ((d (616) (8 * ld + t)) + (1) + 1) a) (65) (nI t) (-1) (nI a) (-1) ((d (616) (8 * ld + t)) + (1) + 1) (-1) hM_a) kw_426 kw_427 kw_428 kw_412 kw_425 rfl rfl hd_Mo_send ⟨Nat.le_of_ble_eq_true rfl, Nat.le_of_ble_eq_true rfl⟩ (As := [.int (65), .int (nI t), .int (-1), .int (nI a), .int (-1), .int ((d (616) (8 * ld + t)) + (1) + 1), .int (-1)]) (rest := []) rfl hl.1 rfl (Nat.le_of_ble_eq_true rfl) d_Mo_take_167 ⟨Nat.le_of_ble_eq_true rfl, Nat.le_of_ble_eq_true rfl⟩) hW (fun r d' H locs hp hW => ?_)
                          obtain ⟨hp1, hp2⟩ := hp
                          have hp1 := hp1.symm; subst hp1
                          have hp2 := hp2.symm; subst hp2
                          refine lv_istore (lv' := [(6, .int (m_sR (lpMA (lpMD (up2 (up2 (up2 d 600 0 0) 616 (8 * ld + t) ((d (616) (8 * ld + t)) + (1) + 1)) 617 (8 * ld + t) 0) (8 * ld + t) 3) (nI t) ((d (616) (8 * ld + t)) + (1) + 1) a))), (5, .int (nI a)), (4, .int ((d (616) (8 * ld + t)) + (1) + 1)), (3, .int (nI (8 * ld + t))), (0, .ref (gad G (600))), (1, .int (nI ld)), (2, .int (nI t))]) hx hb d_Mo_take_170 hl (by decide) rfl (fun ls hl => ?_)
                          refine lv_iinc (v := nI (a + 1)) (lv' := [(5, .int (nI (a + 1))), (6, .int (m_sR (lpMA (lpMD (up2 (up2 (up2 d 600 0 0) 616 (8 * ld + t) ((d (616) (8 * ld + t)) + (1) + 1)) 617 (8 * ld + t) 0) (8 * ld + t) 3) (nI t) ((d (616) (8 * ld + t)) + (1) + 1) a))), (4, .int ((d (616) (8 * ld + t)) + (1) + 1)), (3, .int (nI (8 * ld + t))), (0, .ref (gad G (600))), (1, .int (nI ld)), (2, .int (nI t))]) hx hb d_Mo_take_172 hl (k := 1) rfl (nI_1 (a)) (by decide) rfl (fun ls hl => ?_)
                          refine lv_goto (tgt := 147) hx hb d_Mo_take_175 (by decide) ?_
                          exact ih_a (a + 1) (by omega) (by omega) _ _ _ (by rw [show lpMA (lpMD (up2 (up2 (up2 d 600 0 0) 616 (8 * ld + t) ((d (616) (8 * ld + t)) + (1) + 1)) 617 (8 * ld + t) 0) (8 * ld + t) 3) (nI t) ((d (616) (8 * ld + t)) + (1) + 1) (a + 1) = (m_snd (lpMA (lpMD (up2 (up2 (up2 d 600 0 0) 616 (8 * ld + t) ((d (616) (8 * ld + t)) + (1) + 1)) 617 (8 * ld + t) 0) (8 * ld + t) 3) (nI t) ((d (616) (8 * ld + t)) + (1) + 1) a) (65) (nI t) (-1) (nI a) (-1) ((d (616) (8 * ld + t)) + (1) + 1) (-1)) from rfl]; exact hW) (lv_sub hl [0, 2, 3, 4, 5, 6] rfl) (by rw [show lpMA (lpMD (up2 (up2 (up2 d 600 0 0) 616 (8 * ld + t) ((d (616) (8 * ld + t)) + (1) + 1)) 617 (8 * ld + t) 0) (8 * ld + t) 3) (nI t) ((d (616) (8 * ld + t)) + (1) + 1) (a + 1) = (m_snd (lpMA (lpMD (up2 (up2 (up2 d 600 0 0) 616 (8 * ld + t) ((d (616) (8 * ld + t)) + (1) + 1)) 617 (8 * ld + t) 0) (8 * ld + t) 3) (nI t) ((d (616) (8 * ld + t)) + (1) + 1) a) (65) (nI t) (-1) (nI a) (-1) ((d (616) (8 * ld + t)) + (1) + 1) (-1)) from rfl]; exact (show MN (m_snd (lpMA (lpMD (up2 (up2 (up2 d 600 0 0) 616 (8 * ld + t) ((d (616) (8 * ld + t)) + (1) + 1)) 617 (8 * ld + t) 0) (8 * ld + t) 3) (nI t) ((d (616) (8 * ld + t)) + (1) + 1) a) (65) (nI t) (-1) (nI a) (-1) ((d (616) (8 * ld + t)) + (1) + 1) (-1)) from ((MS_snd hM_a).1))) (by rw [show lpMA (lpMD (up2 (up2 (up2 d 600 0 0) 616 (8 * ld + t) ((d (616) (8 * ld + t)) + (1) + 1)) 617 (8 * ld + t) 0) (8 * ld + t) 3) (nI t) ((d (616) (8 * ld + t)) + (1) + 1) (a + 1) = (m_snd (lpMA (lpMD (up2 (up2 (up2 d 600 0 0) 616 (8 * ld + t) ((d (616) (8 * ld + t)) + (1) + 1)) 617 (8 * ld + t) 0) (8 * ld + t) 3) (nI t) ((d (616) (8 * ld + t)) + (1) + 1) a) (65) (nI t) (-1) (nI a) (-1) ((d (616) (8 * ld + t)) + (1) + 1) (-1)) from rfl]; exact (show (m_snd (lpMA (lpMD (up2 (up2 (up2 d 600 0 0) 616 (8 * ld + t) ((d (616) (8 * ld + t)) + (1) + 1)) 617 (8 * ld + t) 0) (8 * ld + t) 3) (nI t) ((d (616) (8 * ld + t)) + (1) + 1) a) (65) (nI t) (-1) (nI a) (-1) ((d (616) (8 * ld + t)) + (1) + 1) (-1)) (600) (1) = nI (gn G) from ((((MS_snd hM_a).2.2 _ (by decide) (by decide)).trans (f0_a)))))
                    exact L_147 (gn G + 1) 0 (by omega) (by omega) _ _ _ hW (lv_sub hl [0, 1, 2, 3, 4, 5] rfl) (show MN (lpMD (up2 (up2 (up2 d 600 0 0) 616 (8 * ld + t) ((d (616) (8 * ld + t)) + (1) + 1)) 617 (8 * ld + t) 0) (8 * ld + t) 3) from hM_a) (show (lpMD (up2 (up2 (up2 d 600 0 0) 616 (8 * ld + t) ((d (616) (8 * ld + t)) + (1) + 1)) 617 (8 * ld + t) 0) (8 * ld + t) 3) (600) (1) = nI (gn G) from (f0_a))
                  · skip
                    have lt_a : a < 3 := lp_in rfl (by omega) hi_a c_9
                    refine lv_aload_n hx hb d_Mo_take_126 rfl (lv_at hl 3 rfl) ?_
                    refine e_get (v := .ref (gad G (619))) hx hb hts hown hK hW (F_Mo G hG) i_Mo rfl 19 (by decide) (hts _ kw_416) (fun _ h => h) rfl d_Mo_take_127 ?_
                    refine lv_iconst (v := 3) hx hb d_Mo_take_130 (by decide) ?_
                    refine lv_iload_n hx hb d_Mo_take_131 rfl (lv_at hl 2 rfl) ?_
                    refine lv_imul hx hb d_Mo_take_132 ?_
                    refine e_top (v := nI (3 * (8 * ld + t))) (pk_mul (3) (8 * ld + t)) ?_
                    refine lv_iload hx hb d_Mo_take_133 (lv_at hl 0 rfl) ?_
                    refine lv_iadd hx hb d_Mo_take_135 ?_
                    refine e_top (v := nI (3 * (8 * ld + t) + a)) (nI_add (3 * (8 * ld + t)) (a)) ?_
                    refine lv_iconst (v := 0) hx hb d_Mo_take_136 (by decide) ?_
                    refine e_zast hx hb hK hW (F_Mreplied G hG) (j := 3 * (8 * ld + t) + a) (by omega) rfl (by decide) d_Mo_take_137 (fun H locs hW => ?_)
                    refine lv_iinc (v := nI (a + 1)) (lv' := [(5, .int (nI (a + 1))), (4, .int ((d (616) (8 * ld + t)) + (1) + 1)), (3, .int (nI (8 * ld + t))), (0, .ref (gad G (600))), (1, .int (nI ld)), (2, .int (nI t))]) hx hb d_Mo_take_138 hl (k := 0) rfl (nI_1 (a)) (by decide) rfl (fun ls hl => ?_)
                    refine lv_goto (tgt := 120) hx hb d_Mo_take_141 (by decide) ?_
                    exact ih_a (a + 1) (by omega) (by omega) _ _ _ (by rw [show lpMD (up2 (up2 (up2 d 600 0 0) 616 (8 * ld + t) ((d (616) (8 * ld + t)) + (1) + 1)) 617 (8 * ld + t) 0) (8 * ld + t) (a + 1) = (up2 (lpMD (up2 (up2 (up2 d 600 0 0) 616 (8 * ld + t) ((d (616) (8 * ld + t)) + (1) + 1)) 617 (8 * ld + t) 0) (8 * ld + t) a) (619) (3 * (8 * ld + t) + a) (0)) from rfl]; exact hW) (lv_sub hl [0, 1, 2, 3, 4, 5] rfl) (by rw [show lpMD (up2 (up2 (up2 d 600 0 0) 616 (8 * ld + t) ((d (616) (8 * ld + t)) + (1) + 1)) 617 (8 * ld + t) 0) (8 * ld + t) (a + 1) = (up2 (lpMD (up2 (up2 (up2 d 600 0 0) 616 (8 * ld + t) ((d (616) (8 * ld + t)) + (1) + 1)) 617 (8 * ld + t) 0) (8 * ld + t) a) (619) (3 * (8 * ld + t) + a) (0)) from rfl]; exact (show MN (up2 (lpMD (up2 (up2 (up2 d 600 0 0) 616 (8 * ld + t) ((d (616) (8 * ld + t)) + (1) + 1)) 617 (8 * ld + t) 0) (8 * ld + t) a) (619) (3 * (8 * ld + t) + a) (0)) from (MN_keep hM_a (up2_nc (by omega))))) (by rw [show lpMD (up2 (up2 (up2 d 600 0 0) 616 (8 * ld + t) ((d (616) (8 * ld + t)) + (1) + 1)) 617 (8 * ld + t) 0) (8 * ld + t) (a + 1) = (up2 (lpMD (up2 (up2 (up2 d 600 0 0) 616 (8 * ld + t) ((d (616) (8 * ld + t)) + (1) + 1)) 617 (8 * ld + t) 0) (8 * ld + t) a) (619) (3 * (8 * ld + t) + a) (0)) from rfl]; exact (show (up2 (lpMD (up2 (up2 (up2 d 600 0 0) 616 (8 * ld + t) ((d (616) (8 * ld + t)) + (1) + 1)) 617 (8 * ld + t) 0) (8 * ld + t) a) (619) (3 * (8 * ld + t) + a) (0)) (600) (1) = nI (gn G) from ((up2_nc (by omega)).trans (f0_a))))
              exact L_120 (3 + 1) 0 (by omega) (by omega) _ _ _ hW (lv_sub hl [0, 1, 2, 3, 4, 5] rfl) (show MN (up2 (up2 (up2 d (600) (0) (0)) (616) (8 * ld + t) ((d (616) (8 * ld + t)) + (1) + 1)) (617) (8 * ld + t) (0)) from (MN_keep hN ((up2_nc (by omega)).trans ((up2_nc (by omega)).trans (up2_nk (by decide)))))) (show (up2 (up2 (up2 d (600) (0) (0)) (616) (8 * ld + t) ((d (616) (8 * ld + t)) + (1) + 1)) (617) (8 * ld + t) (0)) (600) (1) = nI (gn G) from ((up2_nc (by omega)).trans ((up2_nc (by omega)).trans ((up2_nk (by decide)).trans (fn)))))
          · skip
            refine lv_aload_n hx hb d_Mo_take_68 rfl (lv_at hl 0 rfl) ?_
            refine lv_iconst (v := 4) hx hb d_Mo_take_69 (by decide) ?_
            refine e_ci (e_runV hx hb hml hown hts hE hbs hW (F_Mo G hG) rfl (c_M_fail l G hG (up2 d (600) (0) (0)) (4)) kw_487 kw_488 kw_489 kw_412 kw_486 rfl rfl hd_Mo_fail ⟨Nat.le_of_ble_eq_true rfl, Nat.le_of_ble_eq_true rfl⟩ (As := [.int (4)]) (rest := []) rfl hl.1 rfl (Nat.le_of_ble_eq_true rfl) d_Mo_take_70 ⟨Nat.le_of_ble_eq_true rfl, Nat.le_of_ble_eq_true rfl⟩) hW (fun r d' H locs hp hW => ?_)
            obtain ⟨hp1, hp2⟩ := hp
            have hp1 := hp1.symm; subst hp1
            have hp2 := hp2.symm; subst hp2
            exact e_iret hx hb hr hlk hW (mq_no (c := (4)) (by unfold mC_take; (try simp only [cl_nI (show ld < 2147483648 by omega), cl_nI (show t < 2147483648 by omega)]); rw [if_pos c_1, if_pos c_2, if_pos c_3, if_pos c_4, if_pos c_5]) (by decide) (by exact rfl)) (Nat.zero_le _) (Nat.zero_le _) d_Mo_take_73
        · skip
          refine lv_aload_n hx hb d_Mo_take_53 rfl (lv_at hl 0 rfl) ?_
          refine lv_iconst (v := 3) hx hb d_Mo_take_54 (by decide) ?_
          refine e_ci (e_runV hx hb hml hown hts hE hbs hW (F_Mo G hG) rfl (c_M_fail l G hG (up2 d (600) (0) (0)) (3)) kw_487 kw_488 kw_489 kw_412 kw_486 rfl rfl hd_Mo_fail ⟨Nat.le_of_ble_eq_true rfl, Nat.le_of_ble_eq_true rfl⟩ (As := [.int (3)]) (rest := []) rfl hl.1 rfl (Nat.le_of_ble_eq_true rfl) d_Mo_take_55 ⟨Nat.le_of_ble_eq_true rfl, Nat.le_of_ble_eq_true rfl⟩) hW (fun r d' H locs hp hW => ?_)
          obtain ⟨hp1, hp2⟩ := hp
          have hp1 := hp1.symm; subst hp1
          have hp2 := hp2.symm; subst hp2
          exact e_iret hx hb hr hlk hW (mq_no (c := (3)) (by unfold mC_take; (try simp only [cl_nI (show ld < 2147483648 by omega), cl_nI (show t < 2147483648 by omega)]); rw [if_pos c_1, if_pos c_2, if_pos c_3, if_neg c_4]) (by decide) (by exact rfl)) (Nat.zero_le _) (Nat.zero_le _) d_Mo_take_58
      · skip
        refine lv_aload_n hx hb d_Mo_take_38 rfl (lv_at hl 0 rfl) ?_
        refine lv_iconst (v := 2) hx hb d_Mo_take_39 (by decide) ?_
        refine e_ci (e_runV hx hb hml hown hts hE hbs hW (F_Mo G hG) rfl (c_M_fail l G hG (up2 d (600) (0) (0)) (2)) kw_487 kw_488 kw_489 kw_412 kw_486 rfl rfl hd_Mo_fail ⟨Nat.le_of_ble_eq_true rfl, Nat.le_of_ble_eq_true rfl⟩ (As := [.int (2)]) (rest := []) rfl hl.1 rfl (Nat.le_of_ble_eq_true rfl) d_Mo_take_40 ⟨Nat.le_of_ble_eq_true rfl, Nat.le_of_ble_eq_true rfl⟩) hW (fun r d' H locs hp hW => ?_)
        obtain ⟨hp1, hp2⟩ := hp
        have hp1 := hp1.symm; subst hp1
        have hp2 := hp2.symm; subst hp2
        exact e_iret hx hb hr hlk hW (mq_no (c := (2)) (by unfold mC_take; (try simp only [cl_nI (show ld < 2147483648 by omega), cl_nI (show t < 2147483648 by omega)]); rw [if_pos c_1, if_pos c_2, if_neg c_3]) (by decide) (by exact rfl)) (Nat.zero_le _) (Nat.zero_le _) d_Mo_take_43
    · skip
      refine lv_aload_n hx hb d_Mo_take_24 rfl (lv_at hl 0 rfl) ?_
      refine lv_iconst (v := 1) hx hb d_Mo_take_25 (by decide) ?_
      refine e_ci (e_runV hx hb hml hown hts hE hbs hW (F_Mo G hG) rfl (c_M_fail l G hG (up2 d (600) (0) (0)) (1)) kw_487 kw_488 kw_489 kw_412 kw_486 rfl rfl hd_Mo_fail ⟨Nat.le_of_ble_eq_true rfl, Nat.le_of_ble_eq_true rfl⟩ (As := [.int (1)]) (rest := []) rfl hl.1 rfl (Nat.le_of_ble_eq_true rfl) d_Mo_take_26 ⟨Nat.le_of_ble_eq_true rfl, Nat.le_of_ble_eq_true rfl⟩) hW (fun r d' H locs hp hW => ?_)
      obtain ⟨hp1, hp2⟩ := hp
      have hp1 := hp1.symm; subst hp1
      have hp2 := hp2.symm; subst hp2
      exact e_iret hx hb hr hlk hW (mq_no (c := (1)) (by unfold mC_take; (try simp only [cl_nI (show ld < 2147483648 by omega)]); rw [if_pos c_1, if_neg c_2]) (by decide) (by exact rfl)) (Nat.zero_le _) (Nat.zero_le _) d_Mo_take_29
set_option maxHeartbeats 4000000 in
set_option maxRecDepth 100000 in
theorem c_M_lose (l : Launch) (G : GT) (hG : GOK G) (d : DD) (x0 : Int32) (hN : MN d) : Met l y_Mo_lose (.code y_Mo_lose b_Mo_lose 2 (some .int) :: WS) { frames := 1, cells := 0, slots := 0, locals := 23 } (cPre G [.ref (gad G (600)), .int (x0)] d) (cQi G (mQ d (mC_msg d x0) (nI (cl (d 600 25) - 1)) (m_out (up2 d 600 0 0) (cl x0) (cl (d 600 25)) 0))) 0 0 (gAb G) := by
  refine c_start (own := R_Mo) (by decide +kernel) rfl (Nat.le_of_ble_eq_true rfl) ?_
  intro p e zs zm below meth zc ls C hW hl
  obtain ⟨hx, hb, hr, hml, hown, hts, hlk, hE, hbs⟩ := C
  have hK := hE.1
  have hn3 := hG.1
  have hl : lv_has ls 2 [(0, .ref (gad G (600))), (1, .int (x0))] := hl
  obtain ⟨z, hz, fz⟩ := id hN
  refine lv_aload_n hx hb d_Mo_lose_0 rfl (lv_at hl 0 rfl) ?_
  refine lv_iconst (v := 0) hx hb d_Mo_lose_1 (by decide) ?_
  refine e_put hx hb hts hown hK hW (F_Mo G hG) i_Mo t_Mo t_Mo_ok n_Mo rfl 0 (by decide) (hts _ kw_403) (fun _ h => h) rfl (by decide +kernel) (fun _ => rfl) (fun _ => rfl) d_Mo_lose_2 (fun H locs hW => ?_)
  refine lv_aload_n hx hb d_Mo_lose_5 rfl (lv_at hl 0 rfl) ?_
  refine lv_iload_n hx hb d_Mo_lose_6 rfl (lv_at hl 1 rfl) ?_
  refine lv_aload_n hx hb d_Mo_lose_7 rfl (lv_at hl 0 rfl) ?_
  refine e_get (v := .int ((up2 d (600) (0) (0)) (600) (25))) hx hb hts hown hK hW (F_Mo G hG) i_Mo rfl 25 (by decide) (hts _ kw_406) (fun _ h => h) rfl d_Mo_lose_8 ?_
  refine e_top (v := nI z) ((up2_nk (by decide)).trans (fz)) ?_
  refine e_ci (e_runV hx hb hml hown hts hE hbs hW (F_Mo G hG) rfl (c_M_out l G hG (up2 d (600) (0) (0)) (x0) (nI z)) kw_491 kw_492 kw_493 kw_412 kw_490 rfl rfl hd_Mo_out ⟨Nat.le_of_ble_eq_true rfl, Nat.le_of_ble_eq_true rfl⟩ (As := [.int (x0), .int (nI z)]) (rest := []) rfl hl.1 rfl (Nat.le_of_ble_eq_true rfl) d_Mo_lose_11 ⟨Nat.le_of_ble_eq_true rfl, Nat.le_of_ble_eq_true rfl⟩) hW (fun r d' H locs hp hW => ?_)
  obtain ⟨hp1, hp2⟩ := hp
  have hp1 := hp1.symm; subst hp1
  have hp2 := hp2.symm; subst hp2
  refine lv_if_eq (tgt := 23) hx hb d_Mo_lose_14 (by decide) (fun c_1 => ?_) (fun c_1 => ?_)
  · skip
    obtain ⟨i, hiz, et⟩ := out_nat (B := z) (by omega) c_1
    subst et
    refine lv_aload_n hx hb d_Mo_lose_23 rfl (lv_at hl 0 rfl) ?_
    refine lv_iload_n hx hb d_Mo_lose_24 rfl (lv_at hl 1 rfl) ?_
    refine lv_iconst (v := 0) hx hb d_Mo_lose_25 (by decide) ?_
    refine e_cv (e_runV hx hb hml hown hts hE hbs hW (F_Mo G hG) rfl (c_M_takeOut l G hG (up2 d (600) (0) (0)) i z (0) (by first | assumption | omega) (by first | assumption | omega) ((up2_nk (by decide)).trans (fz))) kw_504 kw_505 kw_506 kw_412 kw_503 rfl rfl hd_Mo_takeOut ⟨Nat.le_of_ble_eq_true rfl, Nat.le_of_ble_eq_true rfl⟩ (As := [.int (nI i), .int (0)]) (rest := []) rfl hl.1 rfl (Nat.le_of_ble_eq_true rfl) d_Mo_lose_26 ⟨Nat.le_of_ble_eq_true rfl, Nat.le_of_ble_eq_true rfl⟩) hW (fun d' H locs hp hW => ?_)
    have hp := hp.symm; subst hp
    refine lv_aload_n hx hb d_Mo_lose_29 rfl (lv_at hl 0 rfl) ?_
    refine e_get (v := .int ((m_out (up2 d (600) (0) (0)) i z (0)) (600) (25))) hx hb hts hown hK hW (F_Mo G hG) i_Mo rfl 25 (by decide) (hts _ kw_406) (fun _ h => h) rfl d_Mo_lose_30 ?_
    refine e_top (v := nI (z - 1)) (m_out_sz0) ?_
    exact e_iret hx hb hr hlk hW (mq_ok (by unfold mC_msg; rw [fz, if_pos c_1]) (by simp only [fz, cl_nI (show i < 2147483648 by omega), cl_nI (show z < 2147483648 by omega)]) (by simp only [fz, cl_nI (show i < 2147483648 by omega), cl_nI (show z < 2147483648 by omega)])) (Nat.zero_le _) (Nat.zero_le _) d_Mo_lose_33
  · skip
    refine lv_aload_n hx hb d_Mo_lose_17 rfl (lv_at hl 0 rfl) ?_
    refine lv_iconst (v := 1) hx hb d_Mo_lose_18 (by decide) ?_
    refine e_ci (e_runV hx hb hml hown hts hE hbs hW (F_Mo G hG) rfl (c_M_fail l G hG (up2 d (600) (0) (0)) (1)) kw_487 kw_488 kw_489 kw_412 kw_486 rfl rfl hd_Mo_fail ⟨Nat.le_of_ble_eq_true rfl, Nat.le_of_ble_eq_true rfl⟩ (As := [.int (1)]) (rest := []) rfl hl.1 rfl (Nat.le_of_ble_eq_true rfl) d_Mo_lose_19 ⟨Nat.le_of_ble_eq_true rfl, Nat.le_of_ble_eq_true rfl⟩) hW (fun r d' H locs hp hW => ?_)
    obtain ⟨hp1, hp2⟩ := hp
    have hp1 := hp1.symm; subst hp1
    have hp2 := hp2.symm; subst hp2
    exact e_iret hx hb hr hlk hW (mq_no (c := (1)) (by unfold mC_msg; rw [fz, if_neg c_1]) (by decide) (by exact rfl)) (Nat.zero_le _) (Nat.zero_le _) d_Mo_lose_22
