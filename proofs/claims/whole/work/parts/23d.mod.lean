theorem kw_511 : .code y_Mo_forget b_Mo_forget 3 none ∈ WS := List.mem_filter.mpr ⟨List.mem_append_right _ (List.mem_of_getElem? (i := 911) (by decide +kernel)), by decide +kernel⟩
theorem kw_512 : .methodLink R_Mo 81 y_Mo_forget ∈ WS := List.mem_filter.mpr ⟨List.mem_append_right _ (List.mem_of_getElem? (i := 908) (by decide +kernel)), by decide +kernel⟩
theorem kw_513 : .instanceMethod y_Mo_forget ∈ WS := List.mem_filter.mpr ⟨List.mem_append_right _ (List.mem_of_getElem? (i := 910) (by decide +kernel)), by decide +kernel⟩
theorem kw_514 : .selects R_Mo y_Mo_forget y_Mo_forget ∈ WS := List.mem_filter.mpr ⟨List.mem_append_left _ (List.mem_of_getElem? (i := 20) (by decide +kernel)), by decide +kernel⟩
theorem hd_Mo_forget : y_Mo_forget.cls ≠ "java/lang/invoke/MethodHandle" ∧ y_Mo_forget.cls ≠ "java/lang/invoke/VarHandle" ∧ (parseMethodDescriptor y_Mo_forget.desc).map (fun d => d.parameters.length) = some 1 := by decide +kernel
set_option maxHeartbeats 4000000 in
set_option maxRecDepth 100000 in
theorem c_M_up (l : Launch) (G : GT) (hG : GOK G) (d : DD) (x0 x1 x2 : Int32) (fn : d 600 1 = nI (gn G)) : Met l y_Mo_up (.code y_Mo_up b_Mo_up 6 (some .boolean) :: WS) { frames := 2, cells := 0, slots := 0, locals := 45 } (cPre G [.ref (gad G (600)), .int (x0), .int (x1), .int (x2)] d) (cQi G (mQ d (mC_up (gn G) x0 x1) (mR_up d (cl x0) (cl x1)) (m_up d (cl x0) (cl x1) x2))) 0 0 (gAb G) := by
  refine c_start (own := R_Mo) (by decide +kernel) rfl (Nat.le_of_ble_eq_true rfl) ?_
  intro p e zs zm below meth zc ls C hW hl
  obtain ⟨hx, hb, hr, hml, hown, hts, hlk, hE, hbs⟩ := C
  have hK := hE.1
  have hn3 := hG.1
  have hl : lv_has ls 6 [(0, .ref (gad G (600))), (1, .int (x0)), (2, .int (x1)), (3, .int (x2))] := hl
  refine lv_aload_n hx hb d_Mo_up_0 rfl (lv_at hl 0 rfl) ?_
  refine lv_aload_n hx hb d_Mo_up_1 rfl (lv_at hl 0 rfl) ?_
  refine lv_iload_n hx hb d_Mo_up_2 rfl (lv_at hl 1 rfl) ?_
  refine lv_iconst (v := 3) hx hb d_Mo_up_3 (by decide) ?_
  refine e_ci (e_runV hx hb hml hown hts hE hbs hW (F_Mo G hG) rfl (c_M_out l G hG d (x0) (3)) kw_491 kw_492 kw_493 kw_412 kw_490 rfl rfl hd_Mo_out ⟨Nat.le_of_ble_eq_true rfl, Nat.le_of_ble_eq_true rfl⟩ (As := [.int (x0), .int (3)]) (rest := [.ref (gad G (600))]) rfl hl.1 rfl (Nat.le_of_ble_eq_true rfl) d_Mo_up_4 ⟨Nat.le_of_ble_eq_true rfl, Nat.le_of_ble_eq_true rfl⟩) hW (fun r d' H locs hp hW => ?_)
  obtain ⟨hp1, hp2⟩ := hp
  have hp1 := hp1.symm; subst hp1
  have hp2 := hp2.symm; subst hp2
  refine lv_if_ne (tgt := 39) hx hb d_Mo_up_7 (by decide) (fun c_1 => ?_) (fun c_1 => ?_)
  · skip
    refine lv_iconst (v := 1) hx hb d_Mo_up_39 (by decide) ?_
    refine lv_goto (tgt := 44) hx hb d_Mo_up_40 (by decide) ?_
    refine e_put hx hb hts hown hK hW (F_Mo G hG) i_Mo t_Mo t_Mo_ok n_Mo rfl 0 (by decide) (hts _ kw_403) (fun _ h => h) rfl (by decide +kernel) (fun _ => rfl) (fun _ => rfl) d_Mo_up_44 (fun H locs hW => ?_)
    refine lv_aload_n hx hb d_Mo_up_47 rfl (lv_at hl 0 rfl) ?_
    refine e_get (v := .int ((up2 d (600) (0) (1)) (600) (0))) hx hb hts hown hK hW (F_Mo G hG) i_Mo rfl 0 (by decide) (hts _ kw_403) (fun _ h => h) rfl d_Mo_up_48 ?_
    refine e_top (v := 1) (up2_self) ?_
    refine lv_if_le (tgt := 56) hx hb d_Mo_up_51 (by decide) (fun c_2 => ?_) (fun c_2 => ?_)
    · exact absurd c_2 (by decide)
    · skip
      refine lv_iconst (v := 0) hx hb d_Mo_up_54 (by decide) ?_
      exact e_zret hx hb hr hlk hW (by decide) (mq_no (c := 1) (by unfold mC_up; rw [if_neg c_1]) (by decide) (by exact up2_up2.symm)) (Nat.zero_le _) (Nat.zero_le _) d_Mo_up_55
  · skip
    obtain ⟨k, hk, et⟩ := out_nat (B := 3) (by omega) c_1
    subst et
    rcases (show k = 0 ∨ k = 1 ∨ k = 2 by omega) with rfl | rfl | rfl
    · skip
      refine lv_aload_n hx hb d_Mo_up_10 rfl (lv_at hl 0 rfl) ?_
      refine lv_iload_n hx hb d_Mo_up_11 rfl (lv_at hl 2 rfl) ?_
      refine lv_iload_n hx hb d_Mo_up_12 rfl (lv_at hl 1 rfl) ?_
      refine lv_if_ne (tgt := 20) hx hb d_Mo_up_13 (by decide) (fun c_3 => ?_) (fun c_3 => ?_)
      · exact absurd c_3 (by decide)
      · skip
        refine lv_iconst (v := 3) hx hb d_Mo_up_16 (by decide) ?_
        refine lv_goto (tgt := 33) hx hb d_Mo_up_17 (by decide) ?_
        refine e_ci (e_runV hx hb hml hown hts hE hbs hW (F_Mo G hG) rfl (c_M_out l G hG d (x1) (3)) kw_491 kw_492 kw_493 kw_412 kw_490 rfl rfl hd_Mo_out ⟨Nat.le_of_ble_eq_true rfl, Nat.le_of_ble_eq_true rfl⟩ (As := [.int (x1), .int (3)]) (rest := [.ref (gad G (600))]) rfl hl.1 rfl (Nat.le_of_ble_eq_true rfl) d_Mo_up_33 ⟨Nat.le_of_ble_eq_true rfl, Nat.le_of_ble_eq_true rfl⟩) hW (fun r d' H locs hp hW => ?_)
        obtain ⟨hp1, hp2⟩ := hp
        have hp1 := hp1.symm; subst hp1
        have hp2 := hp2.symm; subst hp2
        refine lv_if_eq (tgt := 43) hx hb d_Mo_up_36 (by decide) (fun c_4 => ?_) (fun c_4 => ?_)
        · skip
          obtain ⟨w, hw, et⟩ := out_nat (B := 3) (by omega) (show outI x1 (nI (3)) = 0 from c_4)
          subst et
          refine lv_iconst (v := 0) hx hb d_Mo_up_43 (by decide) ?_
          refine e_put hx hb hts hown hK hW (F_Mo G hG) i_Mo t_Mo t_Mo_ok n_Mo rfl 0 (by decide) (hts _ kw_403) (fun _ h => h) rfl (by decide +kernel) (fun _ => rfl) (fun _ => rfl) d_Mo_up_44 (fun H locs hW => ?_)
          refine lv_aload_n hx hb d_Mo_up_47 rfl (lv_at hl 0 rfl) ?_
          refine e_get (v := .int ((up2 d (600) (0) (0)) (600) (0))) hx hb hts hown hK hW (F_Mo G hG) i_Mo rfl 0 (by decide) (hts _ kw_403) (fun _ h => h) rfl d_Mo_up_48 ?_
          refine e_top (v := 0) (up2_self) ?_
          refine lv_if_le (tgt := 56) hx hb d_Mo_up_51 (by decide) (fun c_5 => ?_) (fun c_5 => ?_)
          · skip
            refine lv_iload_n hx hb d_Mo_up_56 rfl (lv_at hl 1 rfl) ?_
            refine lv_if_ne (tgt := 77) hx hb d_Mo_up_57 (by decide) (fun c_6 => ?_) (fun c_6 => ?_)
            · exact absurd c_6 (by decide)
            · skip
              refine lv_aload_n hx hb d_Mo_up_60 rfl (lv_at hl 0 rfl) ?_
              refine e_get (v := .ref (gad G (602))) hx hb hts hown hK hW (F_Mo G hG) i_Mo rfl 2 (by decide) (hts _ kw_458) (fun _ h => h) rfl d_Mo_up_61 ?_
              refine lv_iload_n hx hb d_Mo_up_64 rfl (lv_at hl 2 rfl) ?_
              refine e_zald hx hb hK hW (F_MstoreDown G hG) (j := w) (by omega) (x := d (602) (w)) ((up2_nc (by omega)).trans (rfl)) rfl d_Mo_up_65 ?_
              refine lv_if_ne (tgt := 73) hx hb d_Mo_up_66 (by decide) (fun c_7 => ?_) (fun c_7 => ?_)
              · skip
                refine lv_iconst (v := 0) hx hb d_Mo_up_73 (by decide) ?_
                refine lv_goto (tgt := 113) hx hb d_Mo_up_74 (by decide) ?_
                refine lv_istore (lv' := [(4, .int (0)), (0, .ref (gad G (600))), (1, .int (0)), (2, .int (nI w)), (3, .int (x2))]) hx hb d_Mo_up_113 hl (by decide) rfl (fun ls hl => ?_)
                refine lv_iload_n hx hb d_Mo_up_115 rfl (lv_at hl 2 rfl) ?_
                refine lv_if_ne (tgt := 179) hx hb d_Mo_up_116 (by decide) (fun c_8 => ?_) (fun c_8 => ?_)
                · exact absurd c_8 (by decide)
                · skip
                  refine lv_aload_n hx hb d_Mo_up_119 rfl (lv_at hl 1 rfl) ?_
                  refine e_get (v := .ref (gad G (602))) hx hb hts hown hK hW (F_Mo G hG) i_Mo rfl 2 (by decide) (hts _ kw_458) (fun _ h => h) rfl d_Mo_up_120 ?_
                  refine lv_iload_n hx hb d_Mo_up_123 rfl (lv_at hl 3 rfl) ?_
                  refine lv_iload_n hx hb d_Mo_up_124 rfl (lv_at hl 4 rfl) ?_
                  refine lv_if_ne (tgt := 132) hx hb d_Mo_up_125 (by decide) (fun c_9 => ?_) (fun c_9 => ?_)
                  · skip
                    refine lv_iconst (v := 0) hx hb d_Mo_up_132 (by decide) ?_
                    refine e_zast hx hb hK hW (F_MstoreDown G hG) (j := w) (by omega) rfl (by decide) d_Mo_up_133 (fun H locs hW => ?_)
                    refine lv_iconst (v := 0) hx hb d_Mo_up_134 (by decide) ?_
                    refine lv_istore (lv' := [(5, .int (0)), (4, .int (0)), (0, .ref (gad G (600))), (1, .int (0)), (2, .int (nI w)), (3, .int (x2))]) hx hb d_Mo_up_135 hl (by decide) rfl (fun ls hl => ?_)
                    have L_137 : ∀ (N t : Nat), t ≤ 8 → 8 + 1 ≤ t + N → ∀ (H : Heap) (locs : List Loc) (ls : Array Slot), WD G zs.heap (lpMUp (up2 (up2 d 600 0 0) 602 w (0)) w x2 t) H locs → lv_has ls 6 [(5, .int (nI t)), (4, .int (0)), (0, .ref (gad G (600))), (1, .int (0)), (2, .int (nI w)), (3, .int (x2))] → W p l e { frames := 2, cells := 0, slots := 0, locals := 45 } zs zm [.ref (gad G (600)), .int ((nI 0)), .int ((nI w)), .int (x2)].toArray below meth zc H locs 0 0 (MQ below (cQi G (mQ d (mC_up (gn G) (nI 0) (nI w)) (mR_up d (cl (nI 0)) (cl (nI w))) (m_up d (cl (nI 0)) (cl (nI w)) x2))) [.ref (gad G (600)), .int ((nI 0)), .int ((nI w)), .int (x2)].toArray zs 0 0 (gAb G)) (F0 zm 137 ls []) := by
                      intro N
                      induction N with
                      | zero => intro t h1 h2; exact absurd h2 (by omega)
                      | succ N ih_t =>
                        intro t hi_t hN_t H locs ls hW hl
                        refine lv_iload hx hb d_Mo_up_137 (lv_at hl 0 rfl) ?_
                        refine lv_bipush (v := 8) hx hb d_Mo_up_139 (by decide) ?_
                        refine lv_icmp_ge (tgt := 176) hx hb d_Mo_up_141 (by decide) (fun c_10 => ?_) (fun c_10 => ?_)
                        · skip
                          have e_t : 8 = t := (lp_out rfl (by omega) hi_t c_10).symm
                          subst e_t
                          refine lv_goto (tgt := 226) hx hb d_Mo_up_176 (by decide) ?_
                          refine lv_iload hx hb d_Mo_up_226 (lv_at hl 1 rfl) ?_
                          exact e_zret hx hb hr hlk hW (by decide) (mq_ok (by unfold mC_up; rw [if_pos c_1]; exact if_pos c_4) (by simp only [cl_nI (show w < 2147483648 by omega), cl_nI (show 0 < 2147483648 by omega)]; unfold mR_up; exact (if_neg c_7).symm) (by simp only [cl_nI (show w < 2147483648 by omega), cl_nI (show 0 < 2147483648 by omega)]; unfold m_up; rw [if_pos rfl, if_neg c_9])) (Nat.zero_le _) (Nat.zero_le _) d_Mo_up_228
                        · skip
                          have lt_t : t < 8 := lp_in rfl (by omega) hi_t c_10
                          refine lv_iload_n hx hb d_Mo_up_144 rfl (lv_at hl 5 rfl) ?_
                          refine lv_if_ne (tgt := 170) hx hb d_Mo_up_145 (by decide) (fun c_11 => ?_) (fun c_11 => ?_)
                          · skip
                            refine lv_iinc (v := nI (t + 1)) (lv' := [(5, .int (nI (t + 1))), (4, .int (0)), (0, .ref (gad G (600))), (1, .int (0)), (2, .int (nI w)), (3, .int (x2))]) hx hb d_Mo_up_170 hl (k := 0) rfl (nI_1 (t)) (by decide) rfl (fun ls hl => ?_)
                            refine lv_goto (tgt := 137) hx hb d_Mo_up_173 (by decide) ?_
                            exact ih_t (t + 1) (by omega) (by omega) _ _ _ (by rw [show lpMUp (up2 (up2 d 600 0 0) 602 w (0)) w x2 (t + 1) = (lpMUp (up2 (up2 d 600 0 0) 602 w (0)) w x2 t) from if_neg c_11]; exact hW) (lv_sub hl [0, 1, 2, 3, 4, 5] rfl)
                          · skip
                            exact absurd c_11 c_9
                    exact L_137 (8 + 1) 0 (by omega) (by omega) _ _ _ hW (lv_sub hl [0, 1, 2, 3, 4, 5] rfl)
                  · skip
                    refine lv_iconst (v := 1) hx hb d_Mo_up_128 (by decide) ?_
                    refine lv_goto (tgt := 133) hx hb d_Mo_up_129 (by decide) ?_
                    refine e_zast hx hb hK hW (F_MstoreDown G hG) (j := w) (by omega) rfl (by decide) d_Mo_up_133 (fun H locs hW => ?_)
                    refine lv_iconst (v := 0) hx hb d_Mo_up_134 (by decide) ?_
                    refine lv_istore (lv' := [(5, .int (0)), (4, .int (0)), (0, .ref (gad G (600))), (1, .int (0)), (2, .int (nI w)), (3, .int (x2))]) hx hb d_Mo_up_135 hl (by decide) rfl (fun ls hl => ?_)
                    have L_137 : ∀ (N t : Nat), t ≤ 8 → 8 + 1 ≤ t + N → ∀ (H : Heap) (locs : List Loc) (ls : Array Slot), WD G zs.heap (lpMUp (up2 (up2 d 600 0 0) 602 w (1)) w x2 t) H locs → lv_has ls 6 [(5, .int (nI t)), (4, .int (0)), (0, .ref (gad G (600))), (1, .int (0)), (2, .int (nI w)), (3, .int (x2))] → W p l e { frames := 2, cells := 0, slots := 0, locals := 45 } zs zm [.ref (gad G (600)), .int ((nI 0)), .int ((nI w)), .int (x2)].toArray below meth zc H locs 0 0 (MQ below (cQi G (mQ d (mC_up (gn G) (nI 0) (nI w)) (mR_up d (cl (nI 0)) (cl (nI w))) (m_up d (cl (nI 0)) (cl (nI w)) x2))) [.ref (gad G (600)), .int ((nI 0)), .int ((nI w)), .int (x2)].toArray zs 0 0 (gAb G)) (F0 zm 137 ls []) := by
                      intro N
                      induction N with
                      | zero => intro t h1 h2; exact absurd h2 (by omega)
                      | succ N ih_t =>
                        intro t hi_t hN_t H locs ls hW hl
                        refine lv_iload hx hb d_Mo_up_137 (lv_at hl 0 rfl) ?_
                        refine lv_bipush (v := 8) hx hb d_Mo_up_139 (by decide) ?_
                        refine lv_icmp_ge (tgt := 176) hx hb d_Mo_up_141 (by decide) (fun c_12 => ?_) (fun c_12 => ?_)
                        · skip
                          have e_t : 8 = t := (lp_out rfl (by omega) hi_t c_12).symm
                          subst e_t
                          refine lv_goto (tgt := 226) hx hb d_Mo_up_176 (by decide) ?_
                          refine lv_iload hx hb d_Mo_up_226 (lv_at hl 1 rfl) ?_
                          exact e_zret hx hb hr hlk hW (by decide) (mq_ok (by unfold mC_up; rw [if_pos c_1]; exact if_pos c_4) (by simp only [cl_nI (show w < 2147483648 by omega), cl_nI (show 0 < 2147483648 by omega)]; unfold mR_up; exact (if_neg c_7).symm) (by simp only [cl_nI (show w < 2147483648 by omega), cl_nI (show 0 < 2147483648 by omega)]; unfold m_up; rw [if_pos rfl, if_pos c_9])) (Nat.zero_le _) (Nat.zero_le _) d_Mo_up_228
                        · skip
                          have lt_t : t < 8 := lp_in rfl (by omega) hi_t c_12
                          refine lv_iload_n hx hb d_Mo_up_144 rfl (lv_at hl 5 rfl) ?_
                          refine lv_if_ne (tgt := 170) hx hb d_Mo_up_145 (by decide) (fun c_13 => ?_) (fun c_13 => ?_)
                          · skip
                            exact absurd c_9 c_13
                          · skip
                            refine lv_aload_n hx hb d_Mo_up_148 rfl (lv_at hl 2 rfl) ?_
                            refine e_get (v := .ref (gad G (610))) hx hb hts hown hK hW (F_Mo G hG) i_Mo rfl 10 (by decide) (hts _ kw_410) (fun _ h => h) rfl d_Mo_up_149 ?_
                            refine lv_iconst (v := 3) hx hb d_Mo_up_152 (by decide) ?_
                            refine lv_iload hx hb d_Mo_up_153 (lv_at hl 0 rfl) ?_
                            refine lv_imul hx hb d_Mo_up_155 ?_
                            refine e_top (v := nI (3 * t)) (pk_mul (3) (t)) ?_
                            refine lv_iload_n hx hb d_Mo_up_156 rfl (lv_at hl 4 rfl) ?_
                            refine lv_iadd hx hb d_Mo_up_157 ?_
                            refine e_top (v := nI (3 * t + w)) (nI_add (3 * t) (w)) ?_
                            refine e_iald hx hb hK hW (F_Mstate G hG) (j := 3 * t + w) (by omega) (x := (lpMUp (up2 (up2 d 600 0 0) 602 w (1)) w x2 t) (610) (3 * t + w)) (rfl) rfl d_Mo_up_158 ?_
                            refine lv_iconst (v := 1) hx hb d_Mo_up_159 (by decide) ?_
                            refine lv_icmp_ne (tgt := 170) hx hb d_Mo_up_160 (by decide) (fun c_14 => ?_) (fun c_14 => ?_)
                            · skip
                              refine lv_iinc (v := nI (t + 1)) (lv' := [(5, .int (nI (t + 1))), (4, .int (0)), (0, .ref (gad G (600))), (1, .int (0)), (2, .int (nI w)), (3, .int (x2))]) hx hb d_Mo_up_170 hl (k := 0) rfl (nI_1 (t)) (by decide) rfl (fun ls hl => ?_)
                              refine lv_goto (tgt := 137) hx hb d_Mo_up_173 (by decide) ?_
                              exact ih_t (t + 1) (by omega) (by omega) _ _ _ (by rw [show lpMUp (up2 (up2 d 600 0 0) 602 w (1)) w x2 (t + 1) = (lpMUp (up2 (up2 d 600 0 0) 602 w (1)) w x2 t) from (if_pos c_13).trans (if_neg c_14)]; exact hW) (lv_sub hl [0, 1, 2, 3, 4, 5] rfl)
                            · skip
                              refine lv_aload_n hx hb d_Mo_up_163 rfl (lv_at hl 2 rfl) ?_
                              refine lv_iload hx hb d_Mo_up_164 (lv_at hl 0 rfl) ?_
                              refine lv_iload_n hx hb d_Mo_up_166 rfl (lv_at hl 4 rfl) ?_
                              refine e_cv (e_runV hx hb hml hown hts hE hbs hW (F_Mo G hG) rfl (c_M_abort l G hG (lpMUp (up2 (up2 d 600 0 0) 602 w (1)) w x2 t) t w (by omega) (by omega)) kw_430 kw_431 kw_432 kw_412 kw_429 rfl rfl hd_Mo_abort ⟨Nat.le_of_ble_eq_true rfl, Nat.le_of_ble_eq_true rfl⟩ (As := [.int (nI t), .int (nI w)]) (rest := []) rfl hl.1 rfl (Nat.le_of_ble_eq_true rfl) d_Mo_up_167 ⟨Nat.le_of_ble_eq_true rfl, Nat.le_of_ble_eq_true rfl⟩) hW (fun d' H locs hp hW => ?_)
                              have hp := hp.symm; subst hp
                              refine lv_iinc (v := nI (t + 1)) (lv' := [(5, .int (nI (t + 1))), (4, .int (0)), (0, .ref (gad G (600))), (1, .int (0)), (2, .int (nI w)), (3, .int (x2))]) hx hb d_Mo_up_170 hl (k := 0) rfl (nI_1 (t)) (by decide) rfl (fun ls hl => ?_)
                              refine lv_goto (tgt := 137) hx hb d_Mo_up_173 (by decide) ?_
                              exact ih_t (t + 1) (by omega) (by omega) _ _ _ (by rw [show lpMUp (up2 (up2 d 600 0 0) 602 w (1)) w x2 (t + 1) = (m_abort (lpMUp (up2 (up2 d 600 0 0) 602 w (1)) w x2 t) t w) from (if_pos c_13).trans (if_pos c_14)]; exact hW) (lv_sub hl [0, 1, 2, 3, 4, 5] rfl)
                    exact L_137 (8 + 1) 0 (by omega) (by omega) _ _ _ hW (lv_sub hl [0, 1, 2, 3, 4, 5] rfl)
              · skip
                refine lv_iconst (v := 1) hx hb d_Mo_up_69 (by decide) ?_
                refine lv_goto (tgt := 113) hx hb d_Mo_up_70 (by decide) ?_
                refine lv_istore (lv' := [(4, .int (1)), (0, .ref (gad G (600))), (1, .int (0)), (2, .int (nI w)), (3, .int (x2))]) hx hb d_Mo_up_113 hl (by decide) rfl (fun ls hl => ?_)
                refine lv_iload_n hx hb d_Mo_up_115 rfl (lv_at hl 2 rfl) ?_
                refine lv_if_ne (tgt := 179) hx hb d_Mo_up_116 (by decide) (fun c_15 => ?_) (fun c_15 => ?_)
                · exact absurd c_15 (by decide)
                · skip
                  refine lv_aload_n hx hb d_Mo_up_119 rfl (lv_at hl 1 rfl) ?_
                  refine e_get (v := .ref (gad G (602))) hx hb hts hown hK hW (F_Mo G hG) i_Mo rfl 2 (by decide) (hts _ kw_458) (fun _ h => h) rfl d_Mo_up_120 ?_
                  refine lv_iload_n hx hb d_Mo_up_123 rfl (lv_at hl 3 rfl) ?_
                  refine lv_iload_n hx hb d_Mo_up_124 rfl (lv_at hl 4 rfl) ?_
                  refine lv_if_ne (tgt := 132) hx hb d_Mo_up_125 (by decide) (fun c_16 => ?_) (fun c_16 => ?_)
                  · skip
                    refine lv_iconst (v := 0) hx hb d_Mo_up_132 (by decide) ?_
                    refine e_zast hx hb hK hW (F_MstoreDown G hG) (j := w) (by omega) rfl (by decide) d_Mo_up_133 (fun H locs hW => ?_)
                    refine lv_iconst (v := 0) hx hb d_Mo_up_134 (by decide) ?_
                    refine lv_istore (lv' := [(5, .int (0)), (4, .int (1)), (0, .ref (gad G (600))), (1, .int (0)), (2, .int (nI w)), (3, .int (x2))]) hx hb d_Mo_up_135 hl (by decide) rfl (fun ls hl => ?_)
                    have L_137 : ∀ (N t : Nat), t ≤ 8 → 8 + 1 ≤ t + N → ∀ (H : Heap) (locs : List Loc) (ls : Array Slot), WD G zs.heap (lpMUp (up2 (up2 d 600 0 0) 602 w (0)) w x2 t) H locs → lv_has ls 6 [(5, .int (nI t)), (4, .int (1)), (0, .ref (gad G (600))), (1, .int (0)), (2, .int (nI w)), (3, .int (x2))] → W p l e { frames := 2, cells := 0, slots := 0, locals := 45 } zs zm [.ref (gad G (600)), .int ((nI 0)), .int ((nI w)), .int (x2)].toArray below meth zc H locs 0 0 (MQ below (cQi G (mQ d (mC_up (gn G) (nI 0) (nI w)) (mR_up d (cl (nI 0)) (cl (nI w))) (m_up d (cl (nI 0)) (cl (nI w)) x2))) [.ref (gad G (600)), .int ((nI 0)), .int ((nI w)), .int (x2)].toArray zs 0 0 (gAb G)) (F0 zm 137 ls []) := by
                      intro N
                      induction N with
                      | zero => intro t h1 h2; exact absurd h2 (by omega)
                      | succ N ih_t =>
                        intro t hi_t hN_t H locs ls hW hl
                        refine lv_iload hx hb d_Mo_up_137 (lv_at hl 0 rfl) ?_
                        refine lv_bipush (v := 8) hx hb d_Mo_up_139 (by decide) ?_
                        refine lv_icmp_ge (tgt := 176) hx hb d_Mo_up_141 (by decide) (fun c_17 => ?_) (fun c_17 => ?_)
                        · skip
                          have e_t : 8 = t := (lp_out rfl (by omega) hi_t c_17).symm
                          subst e_t
                          refine lv_goto (tgt := 226) hx hb d_Mo_up_176 (by decide) ?_
                          refine lv_iload hx hb d_Mo_up_226 (lv_at hl 1 rfl) ?_
                          exact e_zret hx hb hr hlk hW (by decide) (mq_ok (by unfold mC_up; rw [if_pos c_1]; exact if_pos c_4) (by simp only [cl_nI (show w < 2147483648 by omega), cl_nI (show 0 < 2147483648 by omega)]; unfold mR_up; exact (if_pos c_7).symm) (by simp only [cl_nI (show w < 2147483648 by omega), cl_nI (show 0 < 2147483648 by omega)]; unfold m_up; rw [if_pos rfl, if_neg c_16])) (Nat.zero_le _) (Nat.zero_le _) d_Mo_up_228
                        · skip
                          have lt_t : t < 8 := lp_in rfl (by omega) hi_t c_17
                          refine lv_iload_n hx hb d_Mo_up_144 rfl (lv_at hl 5 rfl) ?_
                          refine lv_if_ne (tgt := 170) hx hb d_Mo_up_145 (by decide) (fun c_18 => ?_) (fun c_18 => ?_)
                          · skip
                            refine lv_iinc (v := nI (t + 1)) (lv' := [(5, .int (nI (t + 1))), (4, .int (1)), (0, .ref (gad G (600))), (1, .int (0)), (2, .int (nI w)), (3, .int (x2))]) hx hb d_Mo_up_170 hl (k := 0) rfl (nI_1 (t)) (by decide) rfl (fun ls hl => ?_)
                            refine lv_goto (tgt := 137) hx hb d_Mo_up_173 (by decide) ?_
                            exact ih_t (t + 1) (by omega) (by omega) _ _ _ (by rw [show lpMUp (up2 (up2 d 600 0 0) 602 w (0)) w x2 (t + 1) = (lpMUp (up2 (up2 d 600 0 0) 602 w (0)) w x2 t) from if_neg c_18]; exact hW) (lv_sub hl [0, 1, 2, 3, 4, 5] rfl)
                          · skip
                            exact absurd c_18 c_16
                    exact L_137 (8 + 1) 0 (by omega) (by omega) _ _ _ hW (lv_sub hl [0, 1, 2, 3, 4, 5] rfl)
                  · skip
                    refine lv_iconst (v := 1) hx hb d_Mo_up_128 (by decide) ?_
                    refine lv_goto (tgt := 133) hx hb d_Mo_up_129 (by decide) ?_
                    refine e_zast hx hb hK hW (F_MstoreDown G hG) (j := w) (by omega) rfl (by decide) d_Mo_up_133 (fun H locs hW => ?_)
                    refine lv_iconst (v := 0) hx hb d_Mo_up_134 (by decide) ?_
                    refine lv_istore (lv' := [(5, .int (0)), (4, .int (1)), (0, .ref (gad G (600))), (1, .int (0)), (2, .int (nI w)), (3, .int (x2))]) hx hb d_Mo_up_135 hl (by decide) rfl (fun ls hl => ?_)
                    have L_137 : ∀ (N t : Nat), t ≤ 8 → 8 + 1 ≤ t + N → ∀ (H : Heap) (locs : List Loc) (ls : Array Slot), WD G zs.heap (lpMUp (up2 (up2 d 600 0 0) 602 w (1)) w x2 t) H locs → lv_has ls 6 [(5, .int (nI t)), (4, .int (1)), (0, .ref (gad G (600))), (1, .int (0)), (2, .int (nI w)), (3, .int (x2))] → W p l e { frames := 2, cells := 0, slots := 0, locals := 45 } zs zm [.ref (gad G (600)), .int ((nI 0)), .int ((nI w)), .int (x2)].toArray below meth zc H locs 0 0 (MQ below (cQi G (mQ d (mC_up (gn G) (nI 0) (nI w)) (mR_up d (cl (nI 0)) (cl (nI w))) (m_up d (cl (nI 0)) (cl (nI w)) x2))) [.ref (gad G (600)), .int ((nI 0)), .int ((nI w)), .int (x2)].toArray zs 0 0 (gAb G)) (F0 zm 137 ls []) := by
                      intro N
                      induction N with
                      | zero => intro t h1 h2; exact absurd h2 (by omega)
                      | succ N ih_t =>
                        intro t hi_t hN_t H locs ls hW hl
                        refine lv_iload hx hb d_Mo_up_137 (lv_at hl 0 rfl) ?_
                        refine lv_bipush (v := 8) hx hb d_Mo_up_139 (by decide) ?_
                        refine lv_icmp_ge (tgt := 176) hx hb d_Mo_up_141 (by decide) (fun c_19 => ?_) (fun c_19 => ?_)
                        · skip
                          have e_t : 8 = t := (lp_out rfl (by omega) hi_t c_19).symm
                          subst e_t
                          refine lv_goto (tgt := 226) hx hb d_Mo_up_176 (by decide) ?_
                          refine lv_iload hx hb d_Mo_up_226 (lv_at hl 1 rfl) ?_
                          exact e_zret hx hb hr hlk hW (by decide) (mq_ok (by unfold mC_up; rw [if_pos c_1]; exact if_pos c_4) (by simp only [cl_nI (show w < 2147483648 by omega), cl_nI (show 0 < 2147483648 by omega)]; unfold mR_up; exact (if_pos c_7).symm) (by simp only [cl_nI (show w < 2147483648 by omega), cl_nI (show 0 < 2147483648 by omega)]; unfold m_up; rw [if_pos rfl, if_pos c_16])) (Nat.zero_le _) (Nat.zero_le _) d_Mo_up_228
                        · skip
                          have lt_t : t < 8 := lp_in rfl (by omega) hi_t c_19
                          refine lv_iload_n hx hb d_Mo_up_144 rfl (lv_at hl 5 rfl) ?_
                          refine lv_if_ne (tgt := 170) hx hb d_Mo_up_145 (by decide) (fun c_20 => ?_) (fun c_20 => ?_)
                          · skip
                            exact absurd c_16 c_20
                          · skip
                            refine lv_aload_n hx hb d_Mo_up_148 rfl (lv_at hl 2 rfl) ?_
                            refine e_get (v := .ref (gad G (610))) hx hb hts hown hK hW (F_Mo G hG) i_Mo rfl 10 (by decide) (hts _ kw_410) (fun _ h => h) rfl d_Mo_up_149 ?_
                            refine lv_iconst (v := 3) hx hb d_Mo_up_152 (by decide) ?_
                            refine lv_iload hx hb d_Mo_up_153 (lv_at hl 0 rfl) ?_
                            refine lv_imul hx hb d_Mo_up_155 ?_
                            refine e_top (v := nI (3 * t)) (pk_mul (3) (t)) ?_
                            refine lv_iload_n hx hb d_Mo_up_156 rfl (lv_at hl 4 rfl) ?_
                            refine lv_iadd hx hb d_Mo_up_157 ?_
                            refine e_top (v := nI (3 * t + w)) (nI_add (3 * t) (w)) ?_
                            refine e_iald hx hb hK hW (F_Mstate G hG) (j := 3 * t + w) (by omega) (x := (lpMUp (up2 (up2 d 600 0 0) 602 w (1)) w x2 t) (610) (3 * t + w)) (rfl) rfl d_Mo_up_158 ?_
                            refine lv_iconst (v := 1) hx hb d_Mo_up_159 (by decide) ?_
                            refine lv_icmp_ne (tgt := 170) hx hb d_Mo_up_160 (by decide) (fun c_21 => ?_) (fun c_21 => ?_)
                            · skip
                              refine lv_iinc (v := nI (t + 1)) (lv' := [(5, .int (nI (t + 1))), (4, .int (1)), (0, .ref (gad G (600))), (1, .int (0)), (2, .int (nI w)), (3, .int (x2))]) hx hb d_Mo_up_170 hl (k := 0) rfl (nI_1 (t)) (by decide) rfl (fun ls hl => ?_)
                              refine lv_goto (tgt := 137) hx hb d_Mo_up_173 (by decide) ?_
                              exact ih_t (t + 1) (by omega) (by omega) _ _ _ (by rw [show lpMUp (up2 (up2 d 600 0 0) 602 w (1)) w x2 (t + 1) = (lpMUp (up2 (up2 d 600 0 0) 602 w (1)) w x2 t) from (if_pos c_20).trans (if_neg c_21)]; exact hW) (lv_sub hl [0, 1, 2, 3, 4, 5] rfl)
                            · skip
                              refine lv_aload_n hx hb d_Mo_up_163 rfl (lv_at hl 2 rfl) ?_
                              refine lv_iload hx hb d_Mo_up_164 (lv_at hl 0 rfl) ?_
                              refine lv_iload_n hx hb d_Mo_up_166 rfl (lv_at hl 4 rfl) ?_
                              refine e_cv (e_runV hx hb hml hown hts hE hbs hW (F_Mo G hG) rfl (c_M_abort l G hG (lpMUp (up2 (up2 d 600 0 0) 602 w (1)) w x2 t) t w (by omega) (by omega)) kw_430 kw_431 kw_432 kw_412 kw_429 rfl rfl hd_Mo_abort ⟨Nat.le_of_ble_eq_true rfl, Nat.le_of_ble_eq_true rfl⟩ (As := [.int (nI t), .int (nI w)]) (rest := []) rfl hl.1 rfl (Nat.le_of_ble_eq_true rfl) d_Mo_up_167 ⟨Nat.le_of_ble_eq_true rfl, Nat.le_of_ble_eq_true rfl⟩) hW (fun d' H locs hp hW => ?_)
                              have hp := hp.symm; subst hp
                              refine lv_iinc (v := nI (t + 1)) (lv' := [(5, .int (nI (t + 1))), (4, .int (1)), (0, .ref (gad G (600))), (1, .int (0)), (2, .int (nI w)), (3, .int (x2))]) hx hb d_Mo_up_170 hl (k := 0) rfl (nI_1 (t)) (by decide) rfl (fun ls hl => ?_)
                              refine lv_goto (tgt := 137) hx hb d_Mo_up_173 (by decide) ?_
                              exact ih_t (t + 1) (by omega) (by omega) _ _ _ (by rw [show lpMUp (up2 (up2 d 600 0 0) 602 w (1)) w x2 (t + 1) = (m_abort (lpMUp (up2 (up2 d 600 0 0) 602 w (1)) w x2 t) t w) from (if_pos c_20).trans (if_pos c_21)]; exact hW) (lv_sub hl [0, 1, 2, 3, 4, 5] rfl)
                    exact L_137 (8 + 1) 0 (by omega) (by omega) _ _ _ hW (lv_sub hl [0, 1, 2, 3, 4, 5] rfl)
          · exact absurd c_5 (by decide)
        · skip
          refine lv_iconst (v := 1) hx hb d_Mo_up_39 (by decide) ?_
          refine lv_goto (tgt := 44) hx hb d_Mo_up_40 (by decide) ?_
          refine e_put hx hb hts hown hK hW (F_Mo G hG) i_Mo t_Mo t_Mo_ok n_Mo rfl 0 (by decide) (hts _ kw_403) (fun _ h => h) rfl (by decide +kernel) (fun _ => rfl) (fun _ => rfl) d_Mo_up_44 (fun H locs hW => ?_)
          refine lv_aload_n hx hb d_Mo_up_47 rfl (lv_at hl 0 rfl) ?_
          refine e_get (v := .int ((up2 d (600) (0) (1)) (600) (0))) hx hb hts hown hK hW (F_Mo G hG) i_Mo rfl 0 (by decide) (hts _ kw_403) (fun _ h => h) rfl d_Mo_up_48 ?_
          refine e_top (v := 1) (up2_self) ?_
          refine lv_if_le (tgt := 56) hx hb d_Mo_up_51 (by decide) (fun c_22 => ?_) (fun c_22 => ?_)
          · exact absurd c_22 (by decide)
          · skip
            refine lv_iconst (v := 0) hx hb d_Mo_up_54 (by decide) ?_
            exact e_zret hx hb hr hlk hW (by decide) (mq_no (c := 1) (by unfold mC_up; rw [if_pos c_1]; exact if_neg c_4) (by decide) (by exact up2_up2.symm)) (Nat.zero_le _) (Nat.zero_le _) d_Mo_up_55
    · skip
      refine lv_aload_n hx hb d_Mo_up_10 rfl (lv_at hl 0 rfl) ?_
      refine lv_iload_n hx hb d_Mo_up_11 rfl (lv_at hl 2 rfl) ?_
      refine lv_iload_n hx hb d_Mo_up_12 rfl (lv_at hl 1 rfl) ?_
      refine lv_if_ne (tgt := 20) hx hb d_Mo_up_13 (by decide) (fun c_23 => ?_) (fun c_23 => ?_)
      · skip
        refine lv_iload_n hx hb d_Mo_up_20 rfl (lv_at hl 1 rfl) ?_
        refine lv_iconst (v := 1) hx hb d_Mo_up_21 (by decide) ?_
        refine lv_icmp_ne (tgt := 32) hx hb d_Mo_up_22 (by decide) (fun c_24 => ?_) (fun c_24 => ?_)
        · exact absurd c_24 (by decide)
        · skip
          refine lv_aload_n hx hb d_Mo_up_25 rfl (lv_at hl 0 rfl) ?_
          refine e_get (v := .int (d (600) (1))) hx hb hts hown hK hW (F_Mo G hG) i_Mo rfl 1 (by decide) (hts _ kw_404) (fun _ h => h) rfl d_Mo_up_26 ?_
          refine e_top (v := nI (gn G)) (fn) ?_
          refine lv_goto (tgt := 33) hx hb d_Mo_up_29 (by decide) ?_
          refine e_ci (e_runV hx hb hml hown hts hE hbs hW (F_Mo G hG) rfl (c_M_out l G hG d (x1) (nI (gn G))) kw_491 kw_492 kw_493 kw_412 kw_490 rfl rfl hd_Mo_out ⟨Nat.le_of_ble_eq_true rfl, Nat.le_of_ble_eq_true rfl⟩ (As := [.int (x1), .int (nI (gn G))]) (rest := [.ref (gad G (600))]) rfl hl.1 rfl (Nat.le_of_ble_eq_true rfl) d_Mo_up_33 ⟨Nat.le_of_ble_eq_true rfl, Nat.le_of_ble_eq_true rfl⟩) hW (fun r d' H locs hp hW => ?_)
          obtain ⟨hp1, hp2⟩ := hp
          have hp1 := hp1.symm; subst hp1
          have hp2 := hp2.symm; subst hp2
          refine lv_if_eq (tgt := 43) hx hb d_Mo_up_36 (by decide) (fun c_25 => ?_) (fun c_25 => ?_)
          · skip
            obtain ⟨w, hw, et⟩ := out_nat (B := gn G) (by omega) (show outI x1 (nI (gn G)) = 0 from c_25)
            subst et
            refine lv_iconst (v := 0) hx hb d_Mo_up_43 (by decide) ?_
            refine e_put hx hb hts hown hK hW (F_Mo G hG) i_Mo t_Mo t_Mo_ok n_Mo rfl 0 (by decide) (hts _ kw_403) (fun _ h => h) rfl (by decide +kernel) (fun _ => rfl) (fun _ => rfl) d_Mo_up_44 (fun H locs hW => ?_)
            refine lv_aload_n hx hb d_Mo_up_47 rfl (lv_at hl 0 rfl) ?_
            refine e_get (v := .int ((up2 d (600) (0) (0)) (600) (0))) hx hb hts hown hK hW (F_Mo G hG) i_Mo rfl 0 (by decide) (hts _ kw_403) (fun _ h => h) rfl d_Mo_up_48 ?_
            refine e_top (v := 0) (up2_self) ?_
            refine lv_if_le (tgt := 56) hx hb d_Mo_up_51 (by decide) (fun c_26 => ?_) (fun c_26 => ?_)
            · skip
              refine lv_iload_n hx hb d_Mo_up_56 rfl (lv_at hl 1 rfl) ?_
              refine lv_if_ne (tgt := 77) hx hb d_Mo_up_57 (by decide) (fun c_27 => ?_) (fun c_27 => ?_)
              · skip
                refine lv_iload_n hx hb d_Mo_up_77 rfl (lv_at hl 1 rfl) ?_
                refine lv_iconst (v := 1) hx hb d_Mo_up_78 (by decide) ?_
                refine lv_icmp_ne (tgt := 99) hx hb d_Mo_up_79 (by decide) (fun c_28 => ?_) (fun c_28 => ?_)
                · exact absurd c_28 (by decide)
                · skip
                  refine lv_aload_n hx hb d_Mo_up_82 rfl (lv_at hl 0 rfl) ?_
                  refine e_get (v := .ref (gad G (603))) hx hb hts hown hK hW (F_Mo G hG) i_Mo rfl 3 (by decide) (hts _ kw_463) (fun _ h => h) rfl d_Mo_up_83 ?_
                  refine lv_iload_n hx hb d_Mo_up_86 rfl (lv_at hl 2 rfl) ?_
                  refine e_zald hx hb hK hW (F_MacceptorDown G hG) (j := w) (by omega) (x := d (603) (w)) ((up2_nc (by omega)).trans (rfl)) rfl d_Mo_up_87 ?_
                  refine lv_if_ne (tgt := 95) hx hb d_Mo_up_88 (by decide) (fun c_29 => ?_) (fun c_29 => ?_)
                  · skip
                    refine lv_iconst (v := 0) hx hb d_Mo_up_95 (by decide) ?_
                    refine lv_goto (tgt := 113) hx hb d_Mo_up_96 (by decide) ?_
                    refine lv_istore (lv' := [(4, .int (0)), (0, .ref (gad G (600))), (1, .int (1)), (2, .int (nI w)), (3, .int (x2))]) hx hb d_Mo_up_113 hl (by decide) rfl (fun ls hl => ?_)
                    refine lv_iload_n hx hb d_Mo_up_115 rfl (lv_at hl 2 rfl) ?_
                    refine lv_if_ne (tgt := 179) hx hb d_Mo_up_116 (by decide) (fun c_30 => ?_) (fun c_30 => ?_)
                    · skip
                      refine lv_iload_n hx hb d_Mo_up_179 rfl (lv_at hl 2 rfl) ?_
                      refine lv_iconst (v := 1) hx hb d_Mo_up_180 (by decide) ?_
                      refine lv_icmp_ne (tgt := 202) hx hb d_Mo_up_181 (by decide) (fun c_31 => ?_) (fun c_31 => ?_)
                      · exact absurd c_31 (by decide)
                      · skip
                        refine lv_aload_n hx hb d_Mo_up_184 rfl (lv_at hl 1 rfl) ?_
                        refine e_get (v := .ref (gad G (603))) hx hb hts hown hK hW (F_Mo G hG) i_Mo rfl 3 (by decide) (hts _ kw_463) (fun _ h => h) rfl d_Mo_up_185 ?_
                        refine lv_iload_n hx hb d_Mo_up_188 rfl (lv_at hl 3 rfl) ?_
                        refine lv_iload_n hx hb d_Mo_up_189 rfl (lv_at hl 4 rfl) ?_
                        refine lv_if_ne (tgt := 197) hx hb d_Mo_up_190 (by decide) (fun c_32 => ?_) (fun c_32 => ?_)
                        · skip
                          refine lv_iconst (v := 0) hx hb d_Mo_up_197 (by decide) ?_
                          refine e_zast hx hb hK hW (F_MacceptorDown G hG) (j := w) (by omega) rfl (by decide) d_Mo_up_198 (fun H locs hW => ?_)
                          refine lv_goto (tgt := 226) hx hb d_Mo_up_199 (by decide) ?_
                          refine lv_iload hx hb d_Mo_up_226 (lv_at hl 0 rfl) ?_
                          exact e_zret hx hb hr hlk hW (by decide) (mq_ok (by unfold mC_up; rw [if_pos c_1]; exact if_pos c_25) (by simp only [cl_nI (show w < 2147483648 by omega), cl_nI (show 1 < 2147483648 by omega)]; unfold mR_up; exact (if_neg c_29).symm) (by simp only [cl_nI (show w < 2147483648 by omega), cl_nI (show 1 < 2147483648 by omega)]; unfold m_up; rw [if_neg (by decide), if_pos rfl, if_neg c_32])) (Nat.zero_le _) (Nat.zero_le _) d_Mo_up_228
                        · skip
                          refine lv_iconst (v := 1) hx hb d_Mo_up_193 (by decide) ?_
                          refine lv_goto (tgt := 198) hx hb d_Mo_up_194 (by decide) ?_
                          refine e_zast hx hb hK hW (F_MacceptorDown G hG) (j := w) (by omega) rfl (by decide) d_Mo_up_198 (fun H locs hW => ?_)
                          refine lv_goto (tgt := 226) hx hb d_Mo_up_199 (by decide) ?_
                          refine lv_iload hx hb d_Mo_up_226 (lv_at hl 0 rfl) ?_
                          exact e_zret hx hb hr hlk hW (by decide) (mq_ok (by unfold mC_up; rw [if_pos c_1]; exact if_pos c_25) (by simp only [cl_nI (show w < 2147483648 by omega), cl_nI (show 1 < 2147483648 by omega)]; unfold mR_up; exact (if_neg c_29).symm) (by simp only [cl_nI (show w < 2147483648 by omega), cl_nI (show 1 < 2147483648 by omega)]; unfold m_up; rw [if_neg (by decide), if_pos rfl, if_pos c_32])) (Nat.zero_le _) (Nat.zero_le _) d_Mo_up_228
                    · exact absurd c_30 (by decide)
                  · skip
                    refine lv_iconst (v := 1) hx hb d_Mo_up_91 (by decide) ?_
                    refine lv_goto (tgt := 113) hx hb d_Mo_up_92 (by decide) ?_
                    refine lv_istore (lv' := [(4, .int (1)), (0, .ref (gad G (600))), (1, .int (1)), (2, .int (nI w)), (3, .int (x2))]) hx hb d_Mo_up_113 hl (by decide) rfl (fun ls hl => ?_)
                    refine lv_iload_n hx hb d_Mo_up_115 rfl (lv_at hl 2 rfl) ?_
                    refine lv_if_ne (tgt := 179) hx hb d_Mo_up_116 (by decide) (fun c_33 => ?_) (fun c_33 => ?_)
                    · skip
                      refine lv_iload_n hx hb d_Mo_up_179 rfl (lv_at hl 2 rfl) ?_
                      refine lv_iconst (v := 1) hx hb d_Mo_up_180 (by decide) ?_
                      refine lv_icmp_ne (tgt := 202) hx hb d_Mo_up_181 (by decide) (fun c_34 => ?_) (fun c_34 => ?_)
                      · exact absurd c_34 (by decide)
                      · skip
                        refine lv_aload_n hx hb d_Mo_up_184 rfl (lv_at hl 1 rfl) ?_
                        refine e_get (v := .ref (gad G (603))) hx hb hts hown hK hW (F_Mo G hG) i_Mo rfl 3 (by decide) (hts _ kw_463) (fun _ h => h) rfl d_Mo_up_185 ?_
                        refine lv_iload_n hx hb d_Mo_up_188 rfl (lv_at hl 3 rfl) ?_
                        refine lv_iload_n hx hb d_Mo_up_189 rfl (lv_at hl 4 rfl) ?_
                        refine lv_if_ne (tgt := 197) hx hb d_Mo_up_190 (by decide) (fun c_35 => ?_) (fun c_35 => ?_)
                        · skip
                          refine lv_iconst (v := 0) hx hb d_Mo_up_197 (by decide) ?_
                          refine e_zast hx hb hK hW (F_MacceptorDown G hG) (j := w) (by omega) rfl (by decide) d_Mo_up_198 (fun H locs hW => ?_)
                          refine lv_goto (tgt := 226) hx hb d_Mo_up_199 (by decide) ?_
                          refine lv_iload hx hb d_Mo_up_226 (lv_at hl 0 rfl) ?_
                          exact e_zret hx hb hr hlk hW (by decide) (mq_ok (by unfold mC_up; rw [if_pos c_1]; exact if_pos c_25) (by simp only [cl_nI (show w < 2147483648 by omega), cl_nI (show 1 < 2147483648 by omega)]; unfold mR_up; exact (if_pos c_29).symm) (by simp only [cl_nI (show w < 2147483648 by omega), cl_nI (show 1 < 2147483648 by omega)]; unfold m_up; rw [if_neg (by decide), if_pos rfl, if_neg c_35])) (Nat.zero_le _) (Nat.zero_le _) d_Mo_up_228
                        · skip
                          refine lv_iconst (v := 1) hx hb d_Mo_up_193 (by decide) ?_
                          refine lv_goto (tgt := 198) hx hb d_Mo_up_194 (by decide) ?_
                          refine e_zast hx hb hK hW (F_MacceptorDown G hG) (j := w) (by omega) rfl (by decide) d_Mo_up_198 (fun H locs hW => ?_)
                          refine lv_goto (tgt := 226) hx hb d_Mo_up_199 (by decide) ?_
                          refine lv_iload hx hb d_Mo_up_226 (lv_at hl 0 rfl) ?_
                          exact e_zret hx hb hr hlk hW (by decide) (mq_ok (by unfold mC_up; rw [if_pos c_1]; exact if_pos c_25) (by simp only [cl_nI (show w < 2147483648 by omega), cl_nI (show 1 < 2147483648 by omega)]; unfold mR_up; exact (if_pos c_29).symm) (by simp only [cl_nI (show w < 2147483648 by omega), cl_nI (show 1 < 2147483648 by omega)]; unfold m_up; rw [if_neg (by decide), if_pos rfl, if_pos c_35])) (Nat.zero_le _) (Nat.zero_le _) d_Mo_up_228
                    · exact absurd c_33 (by decide)
              · exact absurd c_27 (by decide)
            · exact absurd c_26 (by decide)
          · skip
            refine lv_iconst (v := 1) hx hb d_Mo_up_39 (by decide) ?_
            refine lv_goto (tgt := 44) hx hb d_Mo_up_40 (by decide) ?_
            refine e_put hx hb hts hown hK hW (F_Mo G hG) i_Mo t_Mo t_Mo_ok n_Mo rfl 0 (by decide) (hts _ kw_403) (fun _ h => h) rfl (by decide +kernel) (fun _ => rfl) (fun _ => rfl) d_Mo_up_44 (fun H locs hW => ?_)
            refine lv_aload_n hx hb d_Mo_up_47 rfl (lv_at hl 0 rfl) ?_
            refine e_get (v := .int ((up2 d (600) (0) (1)) (600) (0))) hx hb hts hown hK hW (F_Mo G hG) i_Mo rfl 0 (by decide) (hts _ kw_403) (fun _ h => h) rfl d_Mo_up_48 ?_
            refine e_top (v := 1) (up2_self) ?_
            refine lv_if_le (tgt := 56) hx hb d_Mo_up_51 (by decide) (fun c_36 => ?_) (fun c_36 => ?_)
            · exact absurd c_36 (by decide)
            · skip
              refine lv_iconst (v := 0) hx hb d_Mo_up_54 (by decide) ?_
              exact e_zret hx hb hr hlk hW (by decide) (mq_no (c := 1) (by unfold mC_up; rw [if_pos c_1]; exact if_neg c_25) (by decide) (by exact up2_up2.symm)) (Nat.zero_le _) (Nat.zero_le _) d_Mo_up_55
      · exact absurd c_23 (by decide)
    · skip
      refine lv_aload_n hx hb d_Mo_up_10 rfl (lv_at hl 0 rfl) ?_
      refine lv_iload_n hx hb d_Mo_up_11 rfl (lv_at hl 2 rfl) ?_
      refine lv_iload_n hx hb d_Mo_up_12 rfl (lv_at hl 1 rfl) ?_
      refine lv_if_ne (tgt := 20) hx hb d_Mo_up_13 (by decide) (fun c_37 => ?_) (fun c_37 => ?_)
      · skip
        refine lv_iload_n hx hb d_Mo_up_20 rfl (lv_at hl 1 rfl) ?_
        refine lv_iconst (v := 1) hx hb d_Mo_up_21 (by decide) ?_
        refine lv_icmp_ne (tgt := 32) hx hb d_Mo_up_22 (by decide) (fun c_38 => ?_) (fun c_38 => ?_)
        · skip
          refine lv_iconst (v := 2) hx hb d_Mo_up_32 (by decide) ?_
          refine e_ci (e_runV hx hb hml hown hts hE hbs hW (F_Mo G hG) rfl (c_M_out l G hG d (x1) (2)) kw_491 kw_492 kw_493 kw_412 kw_490 rfl rfl hd_Mo_out ⟨Nat.le_of_ble_eq_true rfl, Nat.le_of_ble_eq_true rfl⟩ (As := [.int (x1), .int (2)]) (rest := [.ref (gad G (600))]) rfl hl.1 rfl (Nat.le_of_ble_eq_true rfl) d_Mo_up_33 ⟨Nat.le_of_ble_eq_true rfl, Nat.le_of_ble_eq_true rfl⟩) hW (fun r d' H locs hp hW => ?_)
          obtain ⟨hp1, hp2⟩ := hp
          have hp1 := hp1.symm; subst hp1
          have hp2 := hp2.symm; subst hp2
          refine lv_if_eq (tgt := 43) hx hb d_Mo_up_36 (by decide) (fun c_39 => ?_) (fun c_39 => ?_)
          · skip
            obtain ⟨w, hw, et⟩ := out_nat (B := 2) (by omega) (show outI x1 (nI (2)) = 0 from c_39)
            subst et
            refine lv_iconst (v := 0) hx hb d_Mo_up_43 (by decide) ?_
            refine e_put hx hb hts hown hK hW (F_Mo G hG) i_Mo t_Mo t_Mo_ok n_Mo rfl 0 (by decide) (hts _ kw_403) (fun _ h => h) rfl (by decide +kernel) (fun _ => rfl) (fun _ => rfl) d_Mo_up_44 (fun H locs hW => ?_)
            refine lv_aload_n hx hb d_Mo_up_47 rfl (lv_at hl 0 rfl) ?_
            refine e_get (v := .int ((up2 d (600) (0) (0)) (600) (0))) hx hb hts hown hK hW (F_Mo G hG) i_Mo rfl 0 (by decide) (hts _ kw_403) (fun _ h => h) rfl d_Mo_up_48 ?_
            refine e_top (v := 0) (up2_self) ?_
            refine lv_if_le (tgt := 56) hx hb d_Mo_up_51 (by decide) (fun c_40 => ?_) (fun c_40 => ?_)
            · skip
              refine lv_iload_n hx hb d_Mo_up_56 rfl (lv_at hl 1 rfl) ?_
              refine lv_if_ne (tgt := 77) hx hb d_Mo_up_57 (by decide) (fun c_41 => ?_) (fun c_41 => ?_)
              · skip
                refine lv_iload_n hx hb d_Mo_up_77 rfl (lv_at hl 1 rfl) ?_
                refine lv_iconst (v := 1) hx hb d_Mo_up_78 (by decide) ?_
                refine lv_icmp_ne (tgt := 99) hx hb d_Mo_up_79 (by decide) (fun c_42 => ?_) (fun c_42 => ?_)
                · skip
                  refine lv_aload_n hx hb d_Mo_up_99 rfl (lv_at hl 0 rfl) ?_
                  refine e_get (v := .ref (gad G (604))) hx hb hts hown hK hW (F_Mo G hG) i_Mo rfl 4 (by decide) (hts _ kw_468) (fun _ h => h) rfl d_Mo_up_100 ?_
                  refine lv_iload_n hx hb d_Mo_up_103 rfl (lv_at hl 2 rfl) ?_
                  refine e_zald hx hb hK hW (F_MleaderDown G hG) (j := w) (by omega) (x := d (604) (w)) ((up2_nc (by omega)).trans (rfl)) rfl d_Mo_up_104 ?_
                  refine lv_if_ne (tgt := 112) hx hb d_Mo_up_105 (by decide) (fun c_43 => ?_) (fun c_43 => ?_)
                  · skip
                    refine lv_iconst (v := 0) hx hb d_Mo_up_112 (by decide) ?_
                    refine lv_istore (lv' := [(4, .int (0)), (0, .ref (gad G (600))), (1, .int (2)), (2, .int (nI w)), (3, .int (x2))]) hx hb d_Mo_up_113 hl (by decide) rfl (fun ls hl => ?_)
                    refine lv_iload_n hx hb d_Mo_up_115 rfl (lv_at hl 2 rfl) ?_
                    refine lv_if_ne (tgt := 179) hx hb d_Mo_up_116 (by decide) (fun c_44 => ?_) (fun c_44 => ?_)
                    · skip
                      refine lv_iload_n hx hb d_Mo_up_179 rfl (lv_at hl 2 rfl) ?_
                      refine lv_iconst (v := 1) hx hb d_Mo_up_180 (by decide) ?_
                      refine lv_icmp_ne (tgt := 202) hx hb d_Mo_up_181 (by decide) (fun c_45 => ?_) (fun c_45 => ?_)
                      · skip
                        refine lv_aload_n hx hb d_Mo_up_202 rfl (lv_at hl 1 rfl) ?_
                        refine e_get (v := .ref (gad G (604))) hx hb hts hown hK hW (F_Mo G hG) i_Mo rfl 4 (by decide) (hts _ kw_468) (fun _ h => h) rfl d_Mo_up_203 ?_
                        refine lv_iload_n hx hb d_Mo_up_206 rfl (lv_at hl 3 rfl) ?_
                        refine lv_iload_n hx hb d_Mo_up_207 rfl (lv_at hl 4 rfl) ?_
                        refine lv_if_ne (tgt := 215) hx hb d_Mo_up_208 (by decide) (fun c_46 => ?_) (fun c_46 => ?_)
                        · skip
                          refine lv_iconst (v := 0) hx hb d_Mo_up_215 (by decide) ?_
                          refine e_zast hx hb hK hW (F_MleaderDown G hG) (j := w) (by omega) rfl (by decide) d_Mo_up_216 (fun H locs hW => ?_)
                          refine lv_iload_n hx hb d_Mo_up_217 rfl (lv_at hl 4 rfl) ?_
                          refine lv_if_ne (tgt := 226) hx hb d_Mo_up_218 (by decide) (fun c_47 => ?_) (fun c_47 => ?_)
                          · skip
                            refine lv_iload hx hb d_Mo_up_226 (lv_at hl 0 rfl) ?_
                            exact e_zret hx hb hr hlk hW (by decide) (mq_ok (by unfold mC_up; rw [if_pos c_1]; exact if_pos c_39) (by simp only [cl_nI (show w < 2147483648 by omega), cl_nI (show 2 < 2147483648 by omega)]; unfold mR_up; exact (if_neg c_43).symm) (by simp only [cl_nI (show w < 2147483648 by omega), cl_nI (show 2 < 2147483648 by omega)]; unfold m_up; rw [if_neg (by decide), if_neg (by decide), if_neg c_46])) (Nat.zero_le _) (Nat.zero_le _) d_Mo_up_228
                          · skip
                            exact absurd c_47 c_46
                        · skip
                          refine lv_iconst (v := 1) hx hb d_Mo_up_211 (by decide) ?_
                          refine lv_goto (tgt := 216) hx hb d_Mo_up_212 (by decide) ?_
                          refine e_zast hx hb hK hW (F_MleaderDown G hG) (j := w) (by omega) rfl (by decide) d_Mo_up_216 (fun H locs hW => ?_)
                          refine lv_iload_n hx hb d_Mo_up_217 rfl (lv_at hl 4 rfl) ?_
                          refine lv_if_ne (tgt := 226) hx hb d_Mo_up_218 (by decide) (fun c_48 => ?_) (fun c_48 => ?_)
                          · skip
                            exact absurd c_46 c_48
                          · skip
                            refine lv_aload_n hx hb d_Mo_up_221 rfl (lv_at hl 1 rfl) ?_
                            refine lv_iload_n hx hb d_Mo_up_222 rfl (lv_at hl 3 rfl) ?_
                            refine e_cv (e_runV hx hb hml hown hts hE hbs hW (F_Mo G hG) rfl (c_M_forget l G hG (up2 (up2 d (600) (0) (0)) (604) (w) (1)) w (by omega)) kw_512 kw_513 kw_514 kw_412 kw_511 rfl rfl hd_Mo_forget ⟨Nat.le_of_ble_eq_true rfl, Nat.le_of_ble_eq_true rfl⟩ (As := [.int (nI w)]) (rest := []) rfl hl.1 rfl (Nat.le_of_ble_eq_true rfl) d_Mo_up_223 ⟨Nat.le_of_ble_eq_true rfl, Nat.le_of_ble_eq_true rfl⟩) hW (fun d' H locs hp hW => ?_)
                            have hp := hp.symm; subst hp
                            refine lv_iload hx hb d_Mo_up_226 (lv_at hl 0 rfl) ?_
                            exact e_zret hx hb hr hlk hW (by decide) (mq_ok (by unfold mC_up; rw [if_pos c_1]; exact if_pos c_39) (by simp only [cl_nI (show w < 2147483648 by omega), cl_nI (show 2 < 2147483648 by omega)]; unfold mR_up; exact (if_neg c_43).symm) (by simp only [cl_nI (show w < 2147483648 by omega), cl_nI (show 2 < 2147483648 by omega)]; unfold m_up; rw [if_neg (by decide), if_neg (by decide), if_pos c_46])) (Nat.zero_le _) (Nat.zero_le _) d_Mo_up_228
                      · exact absurd c_45 (by decide)
                    · exact absurd c_44 (by decide)
                  · skip
                    refine lv_iconst (v := 1) hx hb d_Mo_up_108 (by decide) ?_
                    refine lv_goto (tgt := 113) hx hb d_Mo_up_109 (by decide) ?_
                    refine lv_istore (lv' := [(4, .int (1)), (0, .ref (gad G (600))), (1, .int (2)), (2, .int (nI w)), (3, .int (x2))]) hx hb d_Mo_up_113 hl (by decide) rfl (fun ls hl => ?_)
                    refine lv_iload_n hx hb d_Mo_up_115 rfl (lv_at hl 2 rfl) ?_
                    refine lv_if_ne (tgt := 179) hx hb d_Mo_up_116 (by decide) (fun c_49 => ?_) (fun c_49 => ?_)
                    · skip
                      refine lv_iload_n hx hb d_Mo_up_179 rfl (lv_at hl 2 rfl) ?_
                      refine lv_iconst (v := 1) hx hb d_Mo_up_180 (by decide) ?_
                      refine lv_icmp_ne (tgt := 202) hx hb d_Mo_up_181 (by decide) (fun c_50 => ?_) (fun c_50 => ?_)
                      · skip
                        refine lv_aload_n hx hb d_Mo_up_202 rfl (lv_at hl 1 rfl) ?_
                        refine e_get (v := .ref (gad G (604))) hx hb hts hown hK hW (F_Mo G hG) i_Mo rfl 4 (by decide) (hts _ kw_468) (fun _ h => h) rfl d_Mo_up_203 ?_
                        refine lv_iload_n hx hb d_Mo_up_206 rfl (lv_at hl 3 rfl) ?_
                        refine lv_iload_n hx hb d_Mo_up_207 rfl (lv_at hl 4 rfl) ?_
                        refine lv_if_ne (tgt := 215) hx hb d_Mo_up_208 (by decide) (fun c_51 => ?_) (fun c_51 => ?_)
                        · skip
                          refine lv_iconst (v := 0) hx hb d_Mo_up_215 (by decide) ?_
                          refine e_zast hx hb hK hW (F_MleaderDown G hG) (j := w) (by omega) rfl (by decide) d_Mo_up_216 (fun H locs hW => ?_)
                          refine lv_iload_n hx hb d_Mo_up_217 rfl (lv_at hl 4 rfl) ?_
                          refine lv_if_ne (tgt := 226) hx hb d_Mo_up_218 (by decide) (fun c_52 => ?_) (fun c_52 => ?_)
                          · skip
                            refine lv_iload hx hb d_Mo_up_226 (lv_at hl 0 rfl) ?_
                            exact e_zret hx hb hr hlk hW (by decide) (mq_ok (by unfold mC_up; rw [if_pos c_1]; exact if_pos c_39) (by simp only [cl_nI (show w < 2147483648 by omega), cl_nI (show 2 < 2147483648 by omega)]; unfold mR_up; exact (if_pos c_43).symm) (by simp only [cl_nI (show w < 2147483648 by omega), cl_nI (show 2 < 2147483648 by omega)]; unfold m_up; rw [if_neg (by decide), if_neg (by decide), if_neg c_51])) (Nat.zero_le _) (Nat.zero_le _) d_Mo_up_228
                          · skip
                            exact absurd c_52 c_51
                        · skip
                          refine lv_iconst (v := 1) hx hb d_Mo_up_211 (by decide) ?_
                          refine lv_goto (tgt := 216) hx hb d_Mo_up_212 (by decide) ?_
                          refine e_zast hx hb hK hW (F_MleaderDown G hG) (j := w) (by omega) rfl (by decide) d_Mo_up_216 (fun H locs hW => ?_)
                          refine lv_iload_n hx hb d_Mo_up_217 rfl (lv_at hl 4 rfl) ?_
                          refine lv_if_ne (tgt := 226) hx hb d_Mo_up_218 (by decide) (fun c_53 => ?_) (fun c_53 => ?_)
                          · skip
                            exact absurd c_51 c_53
                          · skip
                            refine lv_aload_n hx hb d_Mo_up_221 rfl (lv_at hl 1 rfl) ?_
                            refine lv_iload_n hx hb d_Mo_up_222 rfl (lv_at hl 3 rfl) ?_
                            refine e_cv (e_runV hx hb hml hown hts hE hbs hW (F_Mo G hG) rfl (c_M_forget l G hG (up2 (up2 d (600) (0) (0)) (604) (w) (1)) w (by omega)) kw_512 kw_513 kw_514 kw_412 kw_511 rfl rfl hd_Mo_forget ⟨Nat.le_of_ble_eq_true rfl, Nat.le_of_ble_eq_true rfl⟩ (As := [.int (nI w)]) (rest := []) rfl hl.1 rfl (Nat.le_of_ble_eq_true rfl) d_Mo_up_223 ⟨Nat.le_of_ble_eq_true rfl, Nat.le_of_ble_eq_true rfl⟩) hW (fun d' H locs hp hW => ?_)
                            have hp := hp.symm; subst hp
                            refine lv_iload hx hb d_Mo_up_226 (lv_at hl 0 rfl) ?_
                            exact e_zret hx hb hr hlk hW (by decide) (mq_ok (by unfold mC_up; rw [if_pos c_1]; exact if_pos c_39) (by simp only [cl_nI (show w < 2147483648 by omega), cl_nI (show 2 < 2147483648 by omega)]; unfold mR_up; exact (if_pos c_43).symm) (by simp only [cl_nI (show w < 2147483648 by omega), cl_nI (show 2 < 2147483648 by omega)]; unfold m_up; rw [if_neg (by decide), if_neg (by decide), if_pos c_51])) (Nat.zero_le _) (Nat.zero_le _) d_Mo_up_228
                      · exact absurd c_50 (by decide)
                    · exact absurd c_49 (by decide)
                · exact absurd c_42 (by decide)
              · exact absurd c_41 (by decide)
            · exact absurd c_40 (by decide)
          · skip
            refine lv_iconst (v := 1) hx hb d_Mo_up_39 (by decide) ?_
            refine lv_goto (tgt := 44) hx hb d_Mo_up_40 (by decide) ?_
            refine e_put hx hb hts hown hK hW (F_Mo G hG) i_Mo t_Mo t_Mo_ok n_Mo rfl 0 (by decide) (hts _ kw_403) (fun _ h => h) rfl (by decide +kernel) (fun _ => rfl) (fun _ => rfl) d_Mo_up_44 (fun H locs hW => ?_)
            refine lv_aload_n hx hb d_Mo_up_47 rfl (lv_at hl 0 rfl) ?_
            refine e_get (v := .int ((up2 d (600) (0) (1)) (600) (0))) hx hb hts hown hK hW (F_Mo G hG) i_Mo rfl 0 (by decide) (hts _ kw_403) (fun _ h => h) rfl d_Mo_up_48 ?_
            refine e_top (v := 1) (up2_self) ?_
            refine lv_if_le (tgt := 56) hx hb d_Mo_up_51 (by decide) (fun c_54 => ?_) (fun c_54 => ?_)
            · exact absurd c_54 (by decide)
            · skip
              refine lv_iconst (v := 0) hx hb d_Mo_up_54 (by decide) ?_
              exact e_zret hx hb hr hlk hW (by decide) (mq_no (c := 1) (by unfold mC_up; rw [if_pos c_1]; exact if_neg c_39) (by decide) (by exact up2_up2.symm)) (Nat.zero_le _) (Nat.zero_le _) d_Mo_up_55
        · exact absurd c_38 (by decide)
      · exact absurd c_37 (by decide)
