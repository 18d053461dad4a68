theorem kw_450 : .fieldLink R_Mo 56 "PaxosCommitModel" "known" "[I" ∈ WS := List.mem_filter.mpr ⟨List.mem_append_right _ (List.mem_of_getElem? (i := 930) (by decide +kernel)), by decide +kernel⟩
theorem kw_451 : .code y_Mo_decided b_Mo_decided 8 (some .int) ∈ WS := List.mem_filter.mpr ⟨List.mem_append_right _ (List.mem_of_getElem? (i := 1093) (by decide +kernel)), by decide +kernel⟩
theorem kw_452 : .methodLink R_Mo 134 y_Mo_decided ∈ WS := List.mem_filter.mpr ⟨List.mem_append_right _ (List.mem_of_getElem? (i := 1090) (by decide +kernel)), by decide +kernel⟩
theorem kw_453 : .instanceMethod y_Mo_decided ∈ WS := List.mem_filter.mpr ⟨List.mem_append_right _ (List.mem_of_getElem? (i := 1092) (by decide +kernel)), by decide +kernel⟩
theorem kw_454 : .selects R_Mo y_Mo_decided y_Mo_decided ∈ WS := List.mem_filter.mpr ⟨List.mem_append_left _ (List.mem_of_getElem? (i := 38) (by decide +kernel)), by decide +kernel⟩
theorem kw_455 : .fieldLink R_Mo 35 "PaxosCommitModel" "writes" "[I" ∈ WS := List.mem_filter.mpr ⟨List.mem_append_right _ (List.mem_of_getElem? (i := 923) (by decide +kernel)), by decide +kernel⟩
theorem kw_456 : .fieldLink R_Mo 19 "PaxosCommitModel" "value" "[I" ∈ WS := List.mem_filter.mpr ⟨List.mem_append_right _ (List.mem_of_getElem? (i := 917) (by decide +kernel)), by decide +kernel⟩
theorem kw_457 : .fieldLink R_Mo 38 "PaxosCommitModel" "written" "[I" ∈ WS := List.mem_filter.mpr ⟨List.mem_append_right _ (List.mem_of_getElem? (i := 924) (by decide +kernel)), by decide +kernel⟩
theorem hd_Mo_decided : y_Mo_decided.cls ≠ "java/lang/invoke/MethodHandle" ∧ y_Mo_decided.cls ≠ "java/lang/invoke/VarHandle" ∧ (parseMethodDescriptor y_Mo_decided.desc).map (fun d => d.parameters.length) = some 2 := by decide +kernel
set_option maxHeartbeats 4000000 in
set_option maxRecDepth 100000 in
theorem c_M_told (l : Launch) (G : GT) (hG : GOK G) (d : DD) (ld t s a : Nat) (hld : ld < 2) (ht : t < 8) (hs : s < 3) (ha : a < 3) (b v : Int32) (hN : MN d) : Met l y_Mo_told (.code y_Mo_told b_Mo_told 13 none :: WS) { frames := 2, cells := 0, slots := 0, locals := 47 } (cPre G [.ref (gad G (600)), .int (nI ld), .int (nI t), .int (nI s), .int (nI a), .int (b), .int (v)] d) (cQv G (fun u9 => u9 = m_told (m_hear d (8 * ld + t) a s b v) (8 * ld + t) t)) 0 0 (gAb G) := by
  refine c_start (own := R_Mo) (by decide +kernel) rfl (Nat.le_of_ble_eq_true rfl) ?_
  intro p e zs zm below meth zc ls C hW hl
  obtain ⟨hx, hb, hr, hml, hown, hts, hlk, hE, hbs⟩ := C
  have hK := hE.1
  have hn3 := hG.1
  have hl : lv_has ls 13 [(0, .ref (gad G (600))), (1, .int (nI ld)), (2, .int (nI t)), (3, .int (nI s)), (4, .int (nI a)), (5, .int (b)), (6, .int (v))] := hl
  refine lv_bipush (v := 8) hx hb d_Mo_told_0 (by decide) ?_
  refine lv_iload_n hx hb d_Mo_told_2 rfl (lv_at hl 1 rfl) ?_
  refine lv_imul hx hb d_Mo_told_3 ?_
  refine e_top (v := nI (8 * ld)) (pk_mul (8) (ld)) ?_
  refine lv_iload_n hx hb d_Mo_told_4 rfl (lv_at hl 2 rfl) ?_
  refine lv_iadd hx hb d_Mo_told_5 ?_
  refine e_top (v := nI (8 * ld + t)) (nI_add (8 * ld) (t)) ?_
  refine lv_istore (lv' := [(7, .int (nI (8 * ld + t))), (0, .ref (gad G (600))), (1, .int (nI ld)), (2, .int (nI t)), (3, .int (nI s)), (4, .int (nI a)), (5, .int (b)), (6, .int (v))]) hx hb d_Mo_told_6 hl (by decide) rfl (fun ls hl => ?_)
  refine lv_bipush (v := 9) hx hb d_Mo_told_8 (by decide) ?_
  refine lv_iload hx hb d_Mo_told_10 (lv_at hl 0 rfl) ?_
  refine lv_imul hx hb d_Mo_told_12 ?_
  refine e_top (v := nI (9 * (8 * ld + t))) (pk_mul (9) (8 * ld + t)) ?_
  refine lv_iconst (v := 3) hx hb d_Mo_told_13 (by decide) ?_
  refine lv_iload hx hb d_Mo_told_14 (lv_at hl 5 rfl) ?_
  refine lv_imul hx hb d_Mo_told_16 ?_
  refine e_top (v := nI (3 * a)) (pk_mul (3) (a)) ?_
  refine lv_iadd hx hb d_Mo_told_17 ?_
  refine e_top (v := nI (9 * (8 * ld + t) + 3 * a)) (nI_add (9 * (8 * ld + t)) (3 * a)) ?_
  refine lv_iload_n hx hb d_Mo_told_18 rfl (lv_at hl 4 rfl) ?_
  refine lv_iadd hx hb d_Mo_told_19 ?_
  refine e_top (v := nI (9 * (8 * ld + t) + 3 * a + s)) (nI_add (9 * (8 * ld + t) + 3 * a) (s)) ?_
  refine lv_istore (lv' := [(8, .int (nI (9 * (8 * ld + t) + 3 * a + s))), (7, .int (nI (8 * ld + t))), (0, .ref (gad G (600))), (1, .int (nI ld)), (2, .int (nI t)), (3, .int (nI s)), (4, .int (nI a)), (5, .int (b)), (6, .int (v))]) hx hb d_Mo_told_20 hl (by decide) rfl (fun ls hl => ?_)
  refine lv_aload_n hx hb d_Mo_told_22 rfl (lv_at hl 2 rfl) ?_
  refine e_get (v := .ref (gad G (622))) hx hb hts hown hK hW (F_Mo G hG) i_Mo rfl 22 (by decide) (hts _ kw_424) (fun _ h => h) rfl d_Mo_told_23 ?_
  refine lv_iload hx hb d_Mo_told_26 (lv_at hl 0 rfl) ?_
  refine e_iald hx hb hK hW (F_MlatestBallot G hG) (j := 9 * (8 * ld + t) + 3 * a + s) (by omega) (x := d (622) (9 * (8 * ld + t) + 3 * a + s)) (rfl) rfl d_Mo_told_28 ?_
  refine lv_iload hx hb d_Mo_told_29 (lv_at hl 7 rfl) ?_
  refine lv_icmp_ge (tgt := 52) hx hb d_Mo_told_31 (by decide) (fun c_1 => ?_) (fun c_1 => ?_)
  · skip
    have hW := WD_to (show (m_hear d (8 * ld + t) a s b v) = d by unfold m_hear; rw [if_pos c_1]) hW
    refine lv_aload_n hx hb d_Mo_told_52 rfl (lv_at hl 2 rfl) ?_
    refine e_get (v := .ref (gad G (618))) hx hb hts hown hK hW (F_Mo G hG) i_Mo rfl 18 (by decide) (hts _ kw_450) (fun _ h => h) rfl d_Mo_told_53 ?_
    refine lv_iload hx hb d_Mo_told_56 (lv_at hl 1 rfl) ?_
    refine e_iald hx hb hK hW (F_Mknown G hG) (j := 8 * ld + t) (by omega) (x := (m_hear d (8 * ld + t) a s b v) (618) (8 * ld + t)) (rfl) rfl d_Mo_told_58 ?_
    refine lv_if_lt (tgt := 63) hx hb d_Mo_told_59 (by decide) (fun c_2 => ?_) (fun c_2 => ?_)
    · skip
      refine lv_iconst (v := 1) hx hb d_Mo_told_63 (by decide) ?_
      refine lv_istore (lv' := [(9, .int (1)), (8, .int (nI (9 * (8 * ld + t) + 3 * a + s))), (7, .int (nI (8 * ld + t))), (0, .ref (gad G (600))), (1, .int (nI ld)), (2, .int (nI t)), (3, .int (nI s)), (4, .int (nI a)), (5, .int (b)), (6, .int (v))]) hx hb d_Mo_told_64 hl (by decide) rfl (fun ls hl => ?_)
      refine lv_iconst (v := 0) hx hb d_Mo_told_66 (by decide) ?_
      refine lv_istore (lv' := [(10, .int (0)), (9, .int (1)), (8, .int (nI (9 * (8 * ld + t) + 3 * a + s))), (7, .int (nI (8 * ld + t))), (0, .ref (gad G (600))), (1, .int (nI ld)), (2, .int (nI t)), (3, .int (nI s)), (4, .int (nI a)), (5, .int (b)), (6, .int (v))]) hx hb d_Mo_told_67 hl (by decide) rfl (fun ls hl => ?_)
      refine lv_iconst (v := 0) hx hb d_Mo_told_69 (by decide) ?_
      refine lv_istore (lv' := [(11, .int (0)), (10, .int (0)), (9, .int (1)), (8, .int (nI (9 * (8 * ld + t) + 3 * a + s))), (7, .int (nI (8 * ld + t))), (0, .ref (gad G (600))), (1, .int (nI ld)), (2, .int (nI t)), (3, .int (nI s)), (4, .int (nI a)), (5, .int (b)), (6, .int (v))]) hx hb d_Mo_told_70 hl (by decide) rfl (fun ls hl => ?_)
      have L_72 : ∀ (N m : Nat), m ≤ 3 → 3 + 1 ≤ m + N → ∀ (H : Heap) (locs : List Loc) (ls : Array Slot), WD G zs.heap ((m_hear d (8 * ld + t) a s b v)) H locs → lv_has ls 13 [(11, .int (nI m)), (10, .int (tdN (m_hear d (8 * ld + t) a s b v) (8 * ld + t) t m)), (9, .int (tdA (m_hear d (8 * ld + t) a s b v) (8 * ld + t) t m)), (8, .int (nI (9 * (8 * ld + t) + 3 * a + s))), (7, .int (nI (8 * ld + t))), (0, .ref (gad G (600))), (1, .int (nI ld)), (2, .int (nI t)), (3, .int (nI s)), (4, .int (nI a)), (5, .int (b)), (6, .int (v))] → (MN ((m_hear d (8 * ld + t) a s b v))) → W p l e { frames := 2, cells := 0, slots := 0, locals := 47 } zs zm [.ref (gad G (600)), .int (nI ld), .int (nI t), .int (nI s), .int (nI a), .int (b), .int (v)].toArray below meth zc H locs 0 0 (MQ below (cQv G (fun u9 => u9 = m_told (m_hear d (8 * ld + t) a s b v) (8 * ld + t) t)) [.ref (gad G (600)), .int (nI ld), .int (nI t), .int (nI s), .int (nI a), .int (b), .int (v)].toArray zs 0 0 (gAb G)) (F0 zm 72 ls []) := by
        intro N
        induction N with
        | zero => intro m h1 h2; exact absurd h2 (by omega)
        | succ N ih_m =>
          intro m hi_m hN_m H locs ls hW hl hM_m
          refine lv_iload hx hb d_Mo_told_72 (lv_at hl 0 rfl) ?_
          refine lv_iconst (v := 3) hx hb d_Mo_told_74 (by decide) ?_
          refine lv_icmp_ge (tgt := 138) hx hb d_Mo_told_75 (by decide) (fun c_3 => ?_) (fun c_3 => ?_)
          · skip
            have e_m : 3 = m := (lp_out rfl (by omega) hi_m c_3).symm
            subst e_m
            refine lv_iload hx hb d_Mo_told_138 (lv_at hl 1 rfl) ?_
            refine lv_if_ne (tgt := 149) hx hb d_Mo_told_140 (by decide) (fun c_4 => ?_) (fun c_4 => ?_)
            · skip
              refine lv_aload_n hx hb d_Mo_told_149 rfl (lv_at hl 5 rfl) ?_
              refine e_get (v := .ref (gad G (618))) hx hb hts hown hK hW (F_Mo G hG) i_Mo rfl 18 (by decide) (hts _ kw_450) (fun _ h => h) rfl d_Mo_told_150 ?_
              refine lv_iload hx hb d_Mo_told_153 (lv_at hl 4 rfl) ?_
              refine lv_iload hx hb d_Mo_told_155 (lv_at hl 1 rfl) ?_
              refine lv_if_eq (tgt := 164) hx hb d_Mo_told_157 (by decide) (fun c_5 => ?_) (fun c_5 => ?_)
              · skip
                exact absurd c_5 c_4
              · skip
                refine lv_iconst (v := 1) hx hb d_Mo_told_160 (by decide) ?_
                refine lv_goto (tgt := 165) hx hb d_Mo_told_161 (by decide) ?_
                refine e_iast hx hb hK hW (F_Mknown G hG) (j := 8 * ld + t) (by omega) rfl d_Mo_told_165 (fun H locs hW => ?_)
                refine lv_iconst (v := 0) hx hb d_Mo_told_166 (by decide) ?_
                refine lv_istore (lv' := [(11, .int (0)), (10, .int (tdN (m_hear d (8 * ld + t) a s b v) (8 * ld + t) t 3)), (9, .int (tdA (m_hear d (8 * ld + t) a s b v) (8 * ld + t) t 3)), (8, .int (nI (9 * (8 * ld + t) + 3 * a + s))), (7, .int (nI (8 * ld + t))), (0, .ref (gad G (600))), (1, .int (nI ld)), (2, .int (nI t)), (3, .int (nI s)), (4, .int (nI a)), (5, .int (b)), (6, .int (v))]) hx hb d_Mo_told_167 hl (by decide) rfl (fun ls hl => ?_)
                have L_169 : ∀ (N m : Nat), m ≤ 3 → 3 + 1 ≤ m + N → ∀ (H : Heap) (locs : List Loc) (ls : Array Slot), WD G zs.heap (lpMO (up2 (m_hear d (8 * ld + t) a s b v) 618 (8 * ld + t) 1) t 0 m) H locs → lv_has ls 13 [(11, .int (nI m)), (10, .int (tdN (m_hear d (8 * ld + t) a s b v) (8 * ld + t) t 3)), (9, .int (tdA (m_hear d (8 * ld + t) a s b v) (8 * ld + t) t 3)), (8, .int (nI (9 * (8 * ld + t) + 3 * a + s))), (7, .int (nI (8 * ld + t))), (0, .ref (gad G (600))), (1, .int (nI ld)), (2, .int (nI t)), (3, .int (nI s)), (4, .int (nI a)), (5, .int (b)), (6, .int (v))] → (MN (lpMO (up2 (m_hear d (8 * ld + t) a s b v) 618 (8 * ld + t) 1) t 0 m)) → W p l e { frames := 2, cells := 0, slots := 0, locals := 47 } zs zm [.ref (gad G (600)), .int (nI ld), .int (nI t), .int (nI s), .int (nI a), .int (b), .int (v)].toArray below meth zc H locs 0 0 (MQ below (cQv G (fun u9 => u9 = m_told (m_hear d (8 * ld + t) a s b v) (8 * ld + t) t)) [.ref (gad G (600)), .int (nI ld), .int (nI t), .int (nI s), .int (nI a), .int (b), .int (v)].toArray zs 0 0 (gAb G)) (F0 zm 169 ls []) := by
                  intro N
                  induction N with
                  | zero => intro m h1 h2; exact absurd h2 (by omega)
                  | succ N ih_m =>
                    intro m hi_m hN_m H locs ls hW hl hM_m
                    refine lv_iload hx hb d_Mo_told_169 (lv_at hl 0 rfl) ?_
                    refine lv_iconst (v := 3) hx hb d_Mo_told_171 (by decide) ?_
                    refine lv_icmp_ge (tgt := 215) hx hb d_Mo_told_172 (by decide) (fun c_6 => ?_) (fun c_6 => ?_)
                    · skip
                      have e_m : 3 = m := (lp_out rfl (by omega) hi_m c_6).symm
                      subst e_m
                      exact e_vret hx hb hr hlk hW (by unfold m_told; rw [if_pos c_2, if_neg c_4]) (Nat.zero_le _) (Nat.zero_le _) d_Mo_told_215
                    · skip
                      have lt_m : m < 3 := lp_in rfl (by omega) hi_m c_6
                      refine lv_aload_n hx hb d_Mo_told_175 rfl (lv_at hl 5 rfl) ?_
                      refine lv_iload_n hx hb d_Mo_told_176 rfl (lv_at hl 7 rfl) ?_
                      refine lv_iload hx hb d_Mo_told_177 (lv_at hl 0 rfl) ?_
                      refine e_ci (e_runV hx hb hml hown hts hE hbs hW (F_Mo G hG) rfl (c_M_member l G hG (lpMO (up2 (m_hear d (8 * ld + t) a s b v) 618 (8 * ld + t) 1) t 0 m) t m ht) kw_438 kw_439 kw_440 kw_412 kw_437 rfl rfl hd_Mo_member ⟨Nat.le_of_ble_eq_true rfl, Nat.le_of_ble_eq_true rfl⟩ (As := [.int (nI t), .int (nI m)]) (rest := []) rfl hl.1 rfl (Nat.le_of_ble_eq_true rfl) d_Mo_told_179 ⟨Nat.le_of_ble_eq_true rfl, Nat.le_of_ble_eq_true rfl⟩) hW (fun r d' H locs hp hW => ?_)
                      obtain ⟨hp1, hp2⟩ := hp
                      have hp1 := hp1.symm; subst hp1
                      have hp2 := hp2.symm; subst hp2
                      refine lv_if_eq (tgt := 209) hx hb d_Mo_told_182 (by decide) (fun c_7 => ?_) (fun c_7 => ?_)
                      · skip
                        refine lv_iinc (v := nI (m + 1)) (lv' := [(11, .int (nI (m + 1))), (10, .int (tdN (m_hear d (8 * ld + t) a s b v) (8 * ld + t) t 3)), (9, .int (tdA (m_hear d (8 * ld + t) a s b v) (8 * ld + t) t 3)), (8, .int (nI (9 * (8 * ld + t) + 3 * a + s))), (7, .int (nI (8 * ld + t))), (0, .ref (gad G (600))), (1, .int (nI ld)), (2, .int (nI t)), (3, .int (nI s)), (4, .int (nI a)), (5, .int (b)), (6, .int (v))]) hx hb d_Mo_told_209 hl (k := 0) rfl (nI_1 (m)) (by decide) rfl (fun ls hl => ?_)
                        refine lv_goto (tgt := 169) hx hb d_Mo_told_212 (by decide) ?_
                        exact ih_m (m + 1) (by omega) (by omega) _ _ _ (by rw [show lpMO (up2 (m_hear d (8 * ld + t) a s b v) 618 (8 * ld + t) 1) t 0 (m + 1) = (lpMO (up2 (m_hear d (8 * ld + t) a s b v) 618 (8 * ld + t) 1) t 0 m) from if_pos c_7]; exact hW) (lv_sub hl [0, 1, 2, 3, 4, 5, 6, 7, 8, 9, 10, 11] rfl) (by rw [show lpMO (up2 (m_hear d (8 * ld + t) a s b v) 618 (8 * ld + t) 1) t 0 (m + 1) = (lpMO (up2 (m_hear d (8 * ld + t) a s b v) 618 (8 * ld + t) 1) t 0 m) from if_pos c_7]; exact (show MN (lpMO (up2 (m_hear d (8 * ld + t) a s b v) 618 (8 * ld + t) 1) t 0 m) from hM_m))
                      · skip
                        refine lv_aload_n hx hb d_Mo_told_185 rfl (lv_at hl 5 rfl) ?_
                        refine lv_bipush (v := 79) hx hb d_Mo_told_186 (by decide) ?_
                        refine lv_iload_n hx hb d_Mo_told_188 rfl (lv_at hl 7 rfl) ?_
                        refine lv_iload hx hb d_Mo_told_189 (lv_at hl 0 rfl) ?_
                        refine lv_iconst (v := -1) hx hb d_Mo_told_191 (by decide) ?_
                        refine lv_iconst (v := -1) hx hb d_Mo_told_192 (by decide) ?_
                        refine lv_iconst (v := -1) hx hb d_Mo_told_193 (by decide) ?_
                        refine lv_iload hx hb d_Mo_told_194 (lv_at hl 1 rfl) ?_
                        refine lv_if_eq (tgt := 203) hx hb d_Mo_told_196 (by decide) (fun c_8 => ?_) (fun c_8 => ?_)
                        · skip
                          exact absurd c_8 c_4
                        · skip
                          refine lv_iconst (v := 0) hx hb d_Mo_told_199 (by decide) ?_
                          refine lv_goto (tgt := 204) hx hb d_Mo_told_200 (by decide) ?_
                          refine e_ci (e_runV hx hb hml hown hts hE hbs hW (F_Mo G hG) rfl (c_M_send l G hG (lpMO (up2 (m_hear d (8 * ld + t) a s b v) 618 (8 * ld + t) 1) t 0 m) (79) (nI t) (nI m) (-1) (-1) (-1) (0) hM_m) kw_426 kw_427 kw_428 kw_412 kw_425 rfl rfl hd_Mo_send ⟨Nat.le_of_ble_eq_true rfl, Nat.le_of_ble_eq_true rfl⟩ (As := [.int (79), .int (nI t), .int (nI m), .int (-1), .int (-1), .int (-1), .int (0)]) (rest := []) rfl hl.1 rfl (Nat.le_of_ble_eq_true rfl) d_Mo_told_204 ⟨Nat.le_of_ble_eq_true rfl, Nat.le_of_ble_eq_true rfl⟩) hW (fun r d' H locs hp hW => ?_)
                          obtain ⟨hp1, hp2⟩ := hp
                          have hp1 := hp1.symm; subst hp1
                          have hp2 := hp2.symm; subst hp2
                          refine lv_istore (lv' := [(12, .int (m_sR (lpMO (up2 (m_hear d (8 * ld + t) a s b v) 618 (8 * ld + t) 1) t 0 m))), (11, .int (nI m)), (10, .int (tdN (m_hear d (8 * ld + t) a s b v) (8 * ld + t) t 3)), (9, .int (tdA (m_hear d (8 * ld + t) a s b v) (8 * ld + t) t 3)), (8, .int (nI (9 * (8 * ld + t) + 3 * a + s))), (7, .int (nI (8 * ld + t))), (0, .ref (gad G (600))), (1, .int (nI ld)), (2, .int (nI t)), (3, .int (nI s)), (4, .int (nI a)), (5, .int (b)), (6, .int (v))]) hx hb d_Mo_told_207 hl (by decide) rfl (fun ls hl => ?_)
                          refine lv_iinc (v := nI (m + 1)) (lv' := [(11, .int (nI (m + 1))), (12, .int (m_sR (lpMO (up2 (m_hear d (8 * ld + t) a s b v) 618 (8 * ld + t) 1) t 0 m))), (10, .int (tdN (m_hear d (8 * ld + t) a s b v) (8 * ld + t) t 3)), (9, .int (tdA (m_hear d (8 * ld + t) a s b v) (8 * ld + t) t 3)), (8, .int (nI (9 * (8 * ld + t) + 3 * a + s))), (7, .int (nI (8 * ld + t))), (0, .ref (gad G (600))), (1, .int (nI ld)), (2, .int (nI t)), (3, .int (nI s)), (4, .int (nI a)), (5, .int (b)), (6, .int (v))]) hx hb d_Mo_told_209 hl (k := 1) rfl (nI_1 (m)) (by decide) rfl (fun ls hl => ?_)
                          refine lv_goto (tgt := 169) hx hb d_Mo_told_212 (by decide) ?_
                          exact ih_m (m + 1) (by omega) (by omega) _ _ _ (by rw [show lpMO (up2 (m_hear d (8 * ld + t) a s b v) 618 (8 * ld + t) 1) t 0 (m + 1) = (m_snd (lpMO (up2 (m_hear d (8 * ld + t) a s b v) 618 (8 * ld + t) 1) t 0 m) (79) (nI t) (nI m) (-1) (-1) (-1) (0)) from if_neg c_7]; exact hW) (lv_sub hl [0, 2, 3, 4, 5, 6, 7, 8, 9, 10, 11, 12] rfl) (by rw [show lpMO (up2 (m_hear d (8 * ld + t) a s b v) 618 (8 * ld + t) 1) t 0 (m + 1) = (m_snd (lpMO (up2 (m_hear d (8 * ld + t) a s b v) 618 (8 * ld + t) 1) t 0 m) (79) (nI t) (nI m) (-1) (-1) (-1) (0)) from if_neg c_7]; exact (show MN (m_snd (lpMO (up2 (m_hear d (8 * ld + t) a s b v) 618 (8 * ld + t) 1) t 0 m) (79) (nI t) (nI m) (-1) (-1) (-1) (0)) from ((MS_snd hM_m).1)))
                exact L_169 (3 + 1) 0 (by omega) (by omega) _ _ _ hW (lv_sub hl [0, 1, 2, 3, 4, 5, 6, 7, 8, 9, 10, 11] rfl) (show MN (up2 (m_hear d (8 * ld + t) a s b v) (618) (8 * ld + t) (1)) from (MN_keep hM_m (up2_nc (by omega))))
            · skip
              refine lv_iload hx hb d_Mo_told_143 (lv_at hl 2 rfl) ?_
              refine lv_if_ne (tgt := 149) hx hb d_Mo_told_145 (by decide) (fun c_9 => ?_) (fun c_9 => ?_)
              · skip
                refine lv_aload_n hx hb d_Mo_told_149 rfl (lv_at hl 5 rfl) ?_
                refine e_get (v := .ref (gad G (618))) hx hb hts hown hK hW (F_Mo G hG) i_Mo rfl 18 (by decide) (hts _ kw_450) (fun _ h => h) rfl d_Mo_told_150 ?_
                refine lv_iload hx hb d_Mo_told_153 (lv_at hl 4 rfl) ?_
                refine lv_iload hx hb d_Mo_told_155 (lv_at hl 1 rfl) ?_
                refine lv_if_eq (tgt := 164) hx hb d_Mo_told_157 (by decide) (fun c_10 => ?_) (fun c_10 => ?_)
                · skip
                  refine lv_iconst (v := 0) hx hb d_Mo_told_164 (by decide) ?_
                  refine e_iast hx hb hK hW (F_Mknown G hG) (j := 8 * ld + t) (by omega) rfl d_Mo_told_165 (fun H locs hW => ?_)
                  refine lv_iconst (v := 0) hx hb d_Mo_told_166 (by decide) ?_
                  refine lv_istore (lv' := [(11, .int (0)), (10, .int (tdN (m_hear d (8 * ld + t) a s b v) (8 * ld + t) t 3)), (9, .int (tdA (m_hear d (8 * ld + t) a s b v) (8 * ld + t) t 3)), (8, .int (nI (9 * (8 * ld + t) + 3 * a + s))), (7, .int (nI (8 * ld + t))), (0, .ref (gad G (600))), (1, .int (nI ld)), (2, .int (nI t)), (3, .int (nI s)), (4, .int (nI a)), (5, .int (b)), (6, .int (v))]) hx hb d_Mo_told_167 hl (by decide) rfl (fun ls hl => ?_)
                  have L_169 : ∀ (N m : Nat), m ≤ 3 → 3 + 1 ≤ m + N → ∀ (H : Heap) (locs : List Loc) (ls : Array Slot), WD G zs.heap (lpMO (up2 (m_hear d (8 * ld + t) a s b v) 618 (8 * ld + t) 0) t 1 m) H locs → lv_has ls 13 [(11, .int (nI m)), (10, .int (tdN (m_hear d (8 * ld + t) a s b v) (8 * ld + t) t 3)), (9, .int (tdA (m_hear d (8 * ld + t) a s b v) (8 * ld + t) t 3)), (8, .int (nI (9 * (8 * ld + t) + 3 * a + s))), (7, .int (nI (8 * ld + t))), (0, .ref (gad G (600))), (1, .int (nI ld)), (2, .int (nI t)), (3, .int (nI s)), (4, .int (nI a)), (5, .int (b)), (6, .int (v))] → (MN (lpMO (up2 (m_hear d (8 * ld + t) a s b v) 618 (8 * ld + t) 0) t 1 m)) → W p l e { frames := 2, cells := 0, slots := 0, locals := 47 } zs zm [.ref (gad G (600)), .int (nI ld), .int (nI t), .int (nI s), .int (nI a), .int (b), .int (v)].toArray below meth zc H locs 0 0 (MQ below (cQv G (fun u9 => u9 = m_told (m_hear d (8 * ld + t) a s b v) (8 * ld + t) t)) [.ref (gad G (600)), .int (nI ld), .int (nI t), .int (nI s), .int (nI a), .int (b), .int (v)].toArray zs 0 0 (gAb G)) (F0 zm 169 ls []) := by
                    intro N
                    induction N with
                    | zero => intro m h1 h2; exact absurd h2 (by omega)
                    | succ N ih_m =>
                      intro m hi_m hN_m H locs ls hW hl hM_m
                      refine lv_iload hx hb d_Mo_told_169 (lv_at hl 0 rfl) ?_
                      refine lv_iconst (v := 3) hx hb d_Mo_told_171 (by decide) ?_
                      refine lv_icmp_ge (tgt := 215) hx hb d_Mo_told_172 (by decide) (fun c_11 => ?_) (fun c_11 => ?_)
                      · skip
                        have e_m : 3 = m := (lp_out rfl (by omega) hi_m c_11).symm
                        subst e_m
                        exact e_vret hx hb hr hlk hW (by unfold m_told; rw [if_pos c_2, if_pos c_4, if_neg c_9]) (Nat.zero_le _) (Nat.zero_le _) d_Mo_told_215
                      · skip
                        have lt_m : m < 3 := lp_in rfl (by omega) hi_m c_11
                        refine lv_aload_n hx hb d_Mo_told_175 rfl (lv_at hl 5 rfl) ?_
                        refine lv_iload_n hx hb d_Mo_told_176 rfl (lv_at hl 7 rfl) ?_
                        refine lv_iload hx hb d_Mo_told_177 (lv_at hl 0 rfl) ?_
                        refine e_ci (e_runV hx hb hml hown hts hE hbs hW (F_Mo G hG) rfl (c_M_member l G hG (lpMO (up2 (m_hear d (8 * ld + t) a s b v) 618 (8 * ld + t) 0) t 1 m) t m ht) kw_438 kw_439 kw_440 kw_412 kw_437 rfl rfl hd_Mo_member ⟨Nat.le_of_ble_eq_true rfl, Nat.le_of_ble_eq_true rfl⟩ (As := [.int (nI t), .int (nI m)]) (rest := []) rfl hl.1 rfl (Nat.le_of_ble_eq_true rfl) d_Mo_told_179 ⟨Nat.le_of_ble_eq_true rfl, Nat.le_of_ble_eq_true rfl⟩) hW (fun r d' H locs hp hW => ?_)
                        obtain ⟨hp1, hp2⟩ := hp
                        have hp1 := hp1.symm; subst hp1
                        have hp2 := hp2.symm; subst hp2
                        refine lv_if_eq (tgt := 209) hx hb d_Mo_told_182 (by decide) (fun c_12 => ?_) (fun c_12 => ?_)
                        · skip
                          refine lv_iinc (v := nI (m + 1)) (lv' := [(11, .int (nI (m + 1))), (10, .int (tdN (m_hear d (8 * ld + t) a s b v) (8 * ld + t) t 3)), (9, .int (tdA (m_hear d (8 * ld + t) a s b v) (8 * ld + t) t 3)), (8, .int (nI (9 * (8 * ld + t) + 3 * a + s))), (7, .int (nI (8 * ld + t))), (0, .ref (gad G (600))), (1, .int (nI ld)), (2, .int (nI t)), (3, .int (nI s)), (4, .int (nI a)), (5, .int (b)), (6, .int (v))]) hx hb d_Mo_told_209 hl (k := 0) rfl (nI_1 (m)) (by decide) rfl (fun ls hl => ?_)
                          refine lv_goto (tgt := 169) hx hb d_Mo_told_212 (by decide) ?_
                          exact ih_m (m + 1) (by omega) (by omega) _ _ _ (by rw [show lpMO (up2 (m_hear d (8 * ld + t) a s b v) 618 (8 * ld + t) 0) t 1 (m + 1) = (lpMO (up2 (m_hear d (8 * ld + t) a s b v) 618 (8 * ld + t) 0) t 1 m) from if_pos c_12]; exact hW) (lv_sub hl [0, 1, 2, 3, 4, 5, 6, 7, 8, 9, 10, 11] rfl) (by rw [show lpMO (up2 (m_hear d (8 * ld + t) a s b v) 618 (8 * ld + t) 0) t 1 (m + 1) = (lpMO (up2 (m_hear d (8 * ld + t) a s b v) 618 (8 * ld + t) 0) t 1 m) from if_pos c_12]; exact (show MN (lpMO (up2 (m_hear d (8 * ld + t) a s b v) 618 (8 * ld + t) 0) t 1 m) from hM_m))
                        · skip
                          refine lv_aload_n hx hb d_Mo_told_185 rfl (lv_at hl 5 rfl) ?_
                          refine lv_bipush (v := 79) hx hb d_Mo_told_186 (by decide) ?_
                          refine lv_iload_n hx hb d_Mo_told_188 rfl (lv_at hl 7 rfl) ?_
                          refine lv_iload hx hb d_Mo_told_189 (lv_at hl 0 rfl) ?_
                          refine lv_iconst (v := -1) hx hb d_Mo_told_191 (by decide) ?_
                          refine lv_iconst (v := -1) hx hb d_Mo_told_192 (by decide) ?_
                          refine lv_iconst (v := -1) hx hb d_Mo_told_193 (by decide) ?_
                          refine lv_iload hx hb d_Mo_told_194 (lv_at hl 1 rfl) ?_
                          refine lv_if_eq (tgt := 203) hx hb d_Mo_told_196 (by decide) (fun c_13 => ?_) (fun c_13 => ?_)
                          · skip
                            refine lv_iconst (v := 1) hx hb d_Mo_told_203 (by decide) ?_
                            refine e_ci (e_runV hx hb hml hown hts hE hbs hW (F_Mo G hG) rfl (c_M_send l G hG (lpMO (up2 (m_hear d (8 * ld + t) a s b v) 618 (8 * ld + t) 0) t 1 m) (79) (nI t) (nI m) (-1) (-1) (-1) (1) hM_m) kw_426 kw_427 kw_428 kw_412 kw_425 rfl rfl hd_Mo_send ⟨Nat.le_of_ble_eq_true rfl, Nat.le_of_ble_eq_true rfl⟩ (As := [.int (79), .int (nI t), .int (nI m), .int (-1), .int (-1), .int (-1), .int (1)]) (rest := []) rfl hl.1 rfl (Nat.le_of_ble_eq_true rfl) d_Mo_told_204 ⟨Nat.le_of_ble_eq_true rfl, Nat.le_of_ble_eq_true rfl⟩) hW (fun r d' H locs hp hW => ?_)
                            obtain ⟨hp1, hp2⟩ := hp
                            have hp1 := hp1.symm; subst hp1
                            have hp2 := hp2.symm; subst hp2
                            refine lv_istore (lv' := [(12, .int (m_sR (lpMO (up2 (m_hear d (8 * ld + t) a s b v) 618 (8 * ld + t) 0) t 1 m))), (11, .int (nI m)), (10, .int (tdN (m_hear d (8 * ld + t) a s b v) (8 * ld + t) t 3)), (9, .int (tdA (m_hear d (8 * ld + t) a s b v) (8 * ld + t) t 3)), (8, .int (nI (9 * (8 * ld + t) + 3 * a + s))), (7, .int (nI (8 * ld + t))), (0, .ref (gad G (600))), (1, .int (nI ld)), (2, .int (nI t)), (3, .int (nI s)), (4, .int (nI a)), (5, .int (b)), (6, .int (v))]) hx hb d_Mo_told_207 hl (by decide) rfl (fun ls hl => ?_)
                            refine lv_iinc (v := nI (m + 1)) (lv' := [(11, .int (nI (m + 1))), (12, .int (m_sR (lpMO (up2 (m_hear d (8 * ld + t) a s b v) 618 (8 * ld + t) 0) t 1 m))), (10, .int (tdN (m_hear d (8 * ld + t) a s b v) (8 * ld + t) t 3)), (9, .int (tdA (m_hear d (8 * ld + t) a s b v) (8 * ld + t) t 3)), (8, .int (nI (9 * (8 * ld + t) + 3 * a + s))), (7, .int (nI (8 * ld + t))), (0, .ref (gad G (600))), (1, .int (nI ld)), (2, .int (nI t)), (3, .int (nI s)), (4, .int (nI a)), (5, .int (b)), (6, .int (v))]) hx hb d_Mo_told_209 hl (k := 1) rfl (nI_1 (m)) (by decide) rfl (fun ls hl => ?_)
                            refine lv_goto (tgt := 169) hx hb d_Mo_told_212 (by decide) ?_
                            exact ih_m (m + 1) (by omega) (by omega) _ _ _ (by rw [show lpMO (up2 (m_hear d (8 * ld + t) a s b v) 618 (8 * ld + t) 0) t 1 (m + 1) = (m_snd (lpMO (up2 (m_hear d (8 * ld + t) a s b v) 618 (8 * ld + t) 0) t 1 m) (79) (nI t) (nI m) (-1) (-1) (-1) (1)) from if_neg c_12]; exact hW) (lv_sub hl [0, 2, 3, 4, 5, 6, 7, 8, 9, 10, 11, 12] rfl) (by rw [show lpMO (up2 (m_hear d (8 * ld + t) a s b v) 618 (8 * ld + t) 0) t 1 (m + 1) = (m_snd (lpMO (up2 (m_hear d (8 * ld + t) a s b v) 618 (8 * ld + t) 0) t 1 m) (79) (nI t) (nI m) (-1) (-1) (-1) (1)) from if_neg c_12]; exact (show MN (m_snd (lpMO (up2 (m_hear d (8 * ld + t) a s b v) 618 (8 * ld + t) 0) t 1 m) (79) (nI t) (nI m) (-1) (-1) (-1) (1)) from ((MS_snd hM_m).1)))
                          · skip
                            exact absurd c_4 c_13
                  exact L_169 (3 + 1) 0 (by omega) (by omega) _ _ _ hW (lv_sub hl [0, 1, 2, 3, 4, 5, 6, 7, 8, 9, 10, 11] rfl) (show MN (up2 (m_hear d (8 * ld + t) a s b v) (618) (8 * ld + t) (0)) from (MN_keep hM_m (up2_nc (by omega))))
                · skip
                  exact absurd c_4 c_10
              · skip
                exact e_vret hx hb hr hlk hW (by unfold m_told; rw [if_pos c_2, if_pos c_4, if_pos c_9]) (Nat.zero_le _) (Nat.zero_le _) d_Mo_told_148
          · skip
            have lt_m : m < 3 := lp_in rfl (by omega) hi_m c_3
            refine lv_aload_n hx hb d_Mo_told_78 rfl (lv_at hl 5 rfl) ?_
            refine lv_iload_n hx hb d_Mo_told_79 rfl (lv_at hl 7 rfl) ?_
            refine lv_iload hx hb d_Mo_told_80 (lv_at hl 0 rfl) ?_
            refine e_ci (e_runV hx hb hml hown hts hE hbs hW (F_Mo G hG) rfl (c_M_member l G hG (m_hear d (8 * ld + t) a s b v) t m ht) kw_438 kw_439 kw_440 kw_412 kw_437 rfl rfl hd_Mo_member ⟨Nat.le_of_ble_eq_true rfl, Nat.le_of_ble_eq_true rfl⟩ (As := [.int (nI t), .int (nI m)]) (rest := []) rfl hl.1 rfl (Nat.le_of_ble_eq_true rfl) d_Mo_told_82 ⟨Nat.le_of_ble_eq_true rfl, Nat.le_of_ble_eq_true rfl⟩) hW (fun r d' H locs hp hW => ?_)
            obtain ⟨hp1, hp2⟩ := hp
            have hp1 := hp1.symm; subst hp1
            have hp2 := hp2.symm; subst hp2
            refine lv_if_ne (tgt := 91) hx hb d_Mo_told_85 (by decide) (fun c_14 => ?_) (fun c_14 => ?_)
            · skip
              refine lv_aload_n hx hb d_Mo_told_91 rfl (lv_at hl 5 rfl) ?_
              refine lv_iload hx hb d_Mo_told_92 (lv_at hl 4 rfl) ?_
              refine lv_iload hx hb d_Mo_told_94 (lv_at hl 0 rfl) ?_
              refine e_ci (e_runV hx hb hml hown hts hE hbs hW (F_Mo G hG) rfl (c_M_decided l G hG (m_hear d (8 * ld + t) a s b v) (8 * ld + t) m (by omega) (by omega)) kw_452 kw_453 kw_454 kw_412 kw_451 rfl rfl hd_Mo_decided ⟨Nat.le_of_ble_eq_true rfl, Nat.le_of_ble_eq_true rfl⟩ (As := [.int (nI (8 * ld + t)), .int (nI m)]) (rest := []) rfl hl.1 rfl (Nat.le_of_ble_eq_true rfl) d_Mo_told_96 ⟨Nat.le_of_ble_eq_true rfl, Nat.le_of_ble_eq_true rfl⟩) hW (fun r d' H locs hp hW => ?_)
              obtain ⟨hp1, hp2⟩ := hp
              have hp1 := hp1.symm; subst hp1
              have hp2 := hp2.symm; subst hp2
              refine lv_istore (lv' := [(12, .int (dcF (m_hear d (8 * ld + t) a s b v) (8 * ld + t) m 3)), (11, .int (nI m)), (10, .int (tdN (m_hear d (8 * ld + t) a s b v) (8 * ld + t) t m)), (9, .int (tdA (m_hear d (8 * ld + t) a s b v) (8 * ld + t) t m)), (8, .int (nI (9 * (8 * ld + t) + 3 * a + s))), (7, .int (nI (8 * ld + t))), (0, .ref (gad G (600))), (1, .int (nI ld)), (2, .int (nI t)), (3, .int (nI s)), (4, .int (nI a)), (5, .int (b)), (6, .int (v))]) hx hb d_Mo_told_99 hl (by decide) rfl (fun ls hl => ?_)
              refine lv_iload hx hb d_Mo_told_101 (lv_at hl 2 rfl) ?_
              refine lv_iload hx hb d_Mo_told_103 (lv_at hl 0 rfl) ?_
              refine lv_if_ne (tgt := 112) hx hb d_Mo_told_105 (by decide) (fun c_15 => ?_) (fun c_15 => ?_)
              · skip
                refine lv_iconst (v := 0) hx hb d_Mo_told_112 (by decide) ?_
                refine lv_ior hx hb d_Mo_told_113 ?_
                refine lv_istore (lv' := [(10, .int ((tdN (m_hear d (8 * ld + t) a s b v) (8 * ld + t) t m) ||| (0))), (12, .int (dcF (m_hear d (8 * ld + t) a s b v) (8 * ld + t) m 3)), (11, .int (nI m)), (9, .int (tdA (m_hear d (8 * ld + t) a s b v) (8 * ld + t) t m)), (8, .int (nI (9 * (8 * ld + t) + 3 * a + s))), (7, .int (nI (8 * ld + t))), (0, .ref (gad G (600))), (1, .int (nI ld)), (2, .int (nI t)), (3, .int (nI s)), (4, .int (nI a)), (5, .int (b)), (6, .int (v))]) hx hb d_Mo_told_114 hl (by decide) rfl (fun ls hl => ?_)
                refine lv_iload hx hb d_Mo_told_116 (lv_at hl 3 rfl) ?_
                refine lv_iload hx hb d_Mo_told_118 (lv_at hl 1 rfl) ?_
                refine lv_iconst (v := 1) hx hb d_Mo_told_120 (by decide) ?_
                refine lv_icmp_ne (tgt := 128) hx hb d_Mo_told_121 (by decide) (fun c_16 => ?_) (fun c_16 => ?_)
                · skip
                  refine lv_iconst (v := 0) hx hb d_Mo_told_128 (by decide) ?_
                  refine lv_iand hx hb d_Mo_told_129 ?_
                  refine lv_istore (lv' := [(9, .int ((tdA (m_hear d (8 * ld + t) a s b v) (8 * ld + t) t m) &&& (0))), (10, .int ((tdN (m_hear d (8 * ld + t) a s b v) (8 * ld + t) t m) ||| (0))), (12, .int (dcF (m_hear d (8 * ld + t) a s b v) (8 * ld + t) m 3)), (11, .int (nI m)), (8, .int (nI (9 * (8 * ld + t) + 3 * a + s))), (7, .int (nI (8 * ld + t))), (0, .ref (gad G (600))), (1, .int (nI ld)), (2, .int (nI t)), (3, .int (nI s)), (4, .int (nI a)), (5, .int (b)), (6, .int (v))]) hx hb d_Mo_told_130 hl (by decide) rfl (fun ls hl => ?_)
                  refine lv_iinc (v := nI (m + 1)) (lv' := [(11, .int (nI (m + 1))), (9, .int ((tdA (m_hear d (8 * ld + t) a s b v) (8 * ld + t) t m) &&& (0))), (10, .int ((tdN (m_hear d (8 * ld + t) a s b v) (8 * ld + t) t m) ||| (0))), (12, .int (dcF (m_hear d (8 * ld + t) a s b v) (8 * ld + t) m 3)), (8, .int (nI (9 * (8 * ld + t) + 3 * a + s))), (7, .int (nI (8 * ld + t))), (0, .ref (gad G (600))), (1, .int (nI ld)), (2, .int (nI t)), (3, .int (nI s)), (4, .int (nI a)), (5, .int (b)), (6, .int (v))]) hx hb d_Mo_told_132 hl (k := 3) rfl (nI_1 (m)) (by decide) rfl (fun ls hl => ?_)
                  refine lv_goto (tgt := 72) hx hb d_Mo_told_135 (by decide) ?_
                  exact ih_m (m + 1) (by omega) (by omega) _ _ _ hW (by rw [show tdA (m_hear d (8 * ld + t) a s b v) (8 * ld + t) t (m + 1) = (tdA (m_hear d (8 * ld + t) a s b v) (8 * ld + t) t m) &&& (0) from (if_neg c_14).trans (congrArg (tdA (m_hear d (8 * ld + t) a s b v) (8 * ld + t) t m &&& ·) (if_neg c_16)), show tdN (m_hear d (8 * ld + t) a s b v) (8 * ld + t) t (m + 1) = (tdN (m_hear d (8 * ld + t) a s b v) (8 * ld + t) t m) ||| (0) from (if_neg c_14).trans (congrArg (tdN (m_hear d (8 * ld + t) a s b v) (8 * ld + t) t m ||| ·) (if_neg c_15))]; exact lv_sub hl [0, 2, 1, 4, 5, 6, 7, 8, 9, 10, 11, 12] rfl) (show MN (m_hear d (8 * ld + t) a s b v) from hM_m)
                · skip
                  refine lv_iconst (v := 1) hx hb d_Mo_told_124 (by decide) ?_
                  refine lv_goto (tgt := 129) hx hb d_Mo_told_125 (by decide) ?_
                  refine lv_iand hx hb d_Mo_told_129 ?_
                  refine lv_istore (lv' := [(9, .int ((tdA (m_hear d (8 * ld + t) a s b v) (8 * ld + t) t m) &&& (1))), (10, .int ((tdN (m_hear d (8 * ld + t) a s b v) (8 * ld + t) t m) ||| (0))), (12, .int (dcF (m_hear d (8 * ld + t) a s b v) (8 * ld + t) m 3)), (11, .int (nI m)), (8, .int (nI (9 * (8 * ld + t) + 3 * a + s))), (7, .int (nI (8 * ld + t))), (0, .ref (gad G (600))), (1, .int (nI ld)), (2, .int (nI t)), (3, .int (nI s)), (4, .int (nI a)), (5, .int (b)), (6, .int (v))]) hx hb d_Mo_told_130 hl (by decide) rfl (fun ls hl => ?_)
                  refine lv_iinc (v := nI (m + 1)) (lv' := [(11, .int (nI (m + 1))), (9, .int ((tdA (m_hear d (8 * ld + t) a s b v) (8 * ld + t) t m) &&& (1))), (10, .int ((tdN (m_hear d (8 * ld + t) a s b v) (8 * ld + t) t m) ||| (0))), (12, .int (dcF (m_hear d (8 * ld + t) a s b v) (8 * ld + t) m 3)), (8, .int (nI (9 * (8 * ld + t) + 3 * a + s))), (7, .int (nI (8 * ld + t))), (0, .ref (gad G (600))), (1, .int (nI ld)), (2, .int (nI t)), (3, .int (nI s)), (4, .int (nI a)), (5, .int (b)), (6, .int (v))]) hx hb d_Mo_told_132 hl (k := 3) rfl (nI_1 (m)) (by decide) rfl (fun ls hl => ?_)
                  refine lv_goto (tgt := 72) hx hb d_Mo_told_135 (by decide) ?_
                  exact ih_m (m + 1) (by omega) (by omega) _ _ _ hW (by rw [show tdA (m_hear d (8 * ld + t) a s b v) (8 * ld + t) t (m + 1) = (tdA (m_hear d (8 * ld + t) a s b v) (8 * ld + t) t m) &&& (1) from (if_neg c_14).trans (congrArg (tdA (m_hear d (8 * ld + t) a s b v) (8 * ld + t) t m &&& ·) (if_pos c_16)), show tdN (m_hear d (8 * ld + t) a s b v) (8 * ld + t) t (m + 1) = (tdN (m_hear d (8 * ld + t) a s b v) (8 * ld + t) t m) ||| (0) from (if_neg c_14).trans (congrArg (tdN (m_hear d (8 * ld + t) a s b v) (8 * ld + t) t m ||| ·) (if_neg c_15))]; exact lv_sub hl [0, 2, 1, 4, 5, 6, 7, 8, 9, 10, 11, 12] rfl) (show MN (m_hear d (8 * ld + t) a s b v) from hM_m)
              · skip
                refine lv_iconst (v := 1) hx hb d_Mo_told_108 (by decide) ?_
                refine lv_goto (tgt := 113) hx hb d_Mo_told_109 (by decide) ?_
                refine lv_ior hx hb d_Mo_told_113 ?_
                refine lv_istore (lv' := [(10, .int ((tdN (m_hear d (8 * ld + t) a s b v) (8 * ld + t) t m) ||| (1))), (12, .int (dcF (m_hear d (8 * ld + t) a s b v) (8 * ld + t) m 3)), (11, .int (nI m)), (9, .int (tdA (m_hear d (8 * ld + t) a s b v) (8 * ld + t) t m)), (8, .int (nI (9 * (8 * ld + t) + 3 * a + s))), (7, .int (nI (8 * ld + t))), (0, .ref (gad G (600))), (1, .int (nI ld)), (2, .int (nI t)), (3, .int (nI s)), (4, .int (nI a)), (5, .int (b)), (6, .int (v))]) hx hb d_Mo_told_114 hl (by decide) rfl (fun ls hl => ?_)
                refine lv_iload hx hb d_Mo_told_116 (lv_at hl 3 rfl) ?_
                refine lv_iload hx hb d_Mo_told_118 (lv_at hl 1 rfl) ?_
                refine lv_iconst (v := 1) hx hb d_Mo_told_120 (by decide) ?_
                refine lv_icmp_ne (tgt := 128) hx hb d_Mo_told_121 (by decide) (fun c_17 => ?_) (fun c_17 => ?_)
                · skip
                  refine lv_iconst (v := 0) hx hb d_Mo_told_128 (by decide) ?_
                  refine lv_iand hx hb d_Mo_told_129 ?_
                  refine lv_istore (lv' := [(9, .int ((tdA (m_hear d (8 * ld + t) a s b v) (8 * ld + t) t m) &&& (0))), (10, .int ((tdN (m_hear d (8 * ld + t) a s b v) (8 * ld + t) t m) ||| (1))), (12, .int (dcF (m_hear d (8 * ld + t) a s b v) (8 * ld + t) m 3)), (11, .int (nI m)), (8, .int (nI (9 * (8 * ld + t) + 3 * a + s))), (7, .int (nI (8 * ld + t))), (0, .ref (gad G (600))), (1, .int (nI ld)), (2, .int (nI t)), (3, .int (nI s)), (4, .int (nI a)), (5, .int (b)), (6, .int (v))]) hx hb d_Mo_told_130 hl (by decide) rfl (fun ls hl => ?_)
                  refine lv_iinc (v := nI (m + 1)) (lv' := [(11, .int (nI (m + 1))), (9, .int ((tdA (m_hear d (8 * ld + t) a s b v) (8 * ld + t) t m) &&& (0))), (10, .int ((tdN (m_hear d (8 * ld + t) a s b v) (8 * ld + t) t m) ||| (1))), (12, .int (dcF (m_hear d (8 * ld + t) a s b v) (8 * ld + t) m 3)), (8, .int (nI (9 * (8 * ld + t) + 3 * a + s))), (7, .int (nI (8 * ld + t))), (0, .ref (gad G (600))), (1, .int (nI ld)), (2, .int (nI t)), (3, .int (nI s)), (4, .int (nI a)), (5, .int (b)), (6, .int (v))]) hx hb d_Mo_told_132 hl (k := 3) rfl (nI_1 (m)) (by decide) rfl (fun ls hl => ?_)
                  refine lv_goto (tgt := 72) hx hb d_Mo_told_135 (by decide) ?_
                  exact ih_m (m + 1) (by omega) (by omega) _ _ _ hW (by rw [show tdA (m_hear d (8 * ld + t) a s b v) (8 * ld + t) t (m + 1) = (tdA (m_hear d (8 * ld + t) a s b v) (8 * ld + t) t m) &&& (0) from (if_neg c_14).trans (congrArg (tdA (m_hear d (8 * ld + t) a s b v) (8 * ld + t) t m &&& ·) (if_neg c_17)), show tdN (m_hear d (8 * ld + t) a s b v) (8 * ld + t) t (m + 1) = (tdN (m_hear d (8 * ld + t) a s b v) (8 * ld + t) t m) ||| (1) from (if_neg c_14).trans (congrArg (tdN (m_hear d (8 * ld + t) a s b v) (8 * ld + t) t m ||| ·) (if_pos c_15))]; exact lv_sub hl [0, 2, 1, 4, 5, 6, 7, 8, 9, 10, 11, 12] rfl) (show MN (m_hear d (8 * ld + t) a s b v) from hM_m)
                · skip
                  refine lv_iconst (v := 1) hx hb d_Mo_told_124 (by decide) ?_
                  refine lv_goto (tgt := 129) hx hb d_Mo_told_125 (by decide) ?_
                  refine lv_iand hx hb d_Mo_told_129 ?_
                  refine lv_istore (lv' := [(9, .int ((tdA (m_hear d (8 * ld + t) a s b v) (8 * ld + t) t m) &&& (1))), (10, .int ((tdN (m_hear d (8 * ld + t) a s b v) (8 * ld + t) t m) ||| (1))), (12, .int (dcF (m_hear d (8 * ld + t) a s b v) (8 * ld + t) m 3)), (11, .int (nI m)), (8, .int (nI (9 * (8 * ld + t) + 3 * a + s))), (7, .int (nI (8 * ld + t))), (0, .ref (gad G (600))), (1, .int (nI ld)), (2, .int (nI t)), (3, .int (nI s)), (4, .int (nI a)), (5, .int (b)), (6, .int (v))]) hx hb d_Mo_told_130 hl (by decide) rfl (fun ls hl => ?_)
                  refine lv_iinc (v := nI (m + 1)) (lv' := [(11, .int (nI (m + 1))), (9, .int ((tdA (m_hear d (8 * ld + t) a s b v) (8 * ld + t) t m) &&& (1))), (10, .int ((tdN (m_hear d (8 * ld + t) a s b v) (8 * ld + t) t m) ||| (1))), (12, .int (dcF (m_hear d (8 * ld + t) a s b v) (8 * ld + t) m 3)), (8, .int (nI (9 * (8 * ld + t) + 3 * a + s))), (7, .int (nI (8 * ld + t))), (0, .ref (gad G (600))), (1, .int (nI ld)), (2, .int (nI t)), (3, .int (nI s)), (4, .int (nI a)), (5, .int (b)), (6, .int (v))]) hx hb d_Mo_told_132 hl (k := 3) rfl (nI_1 (m)) (by decide) rfl (fun ls hl => ?_)
                  refine lv_goto (tgt := 72) hx hb d_Mo_told_135 (by decide) ?_
                  exact ih_m (m + 1) (by omega) (by omega) _ _ _ hW (by rw [show tdA (m_hear d (8 * ld + t) a s b v) (8 * ld + t) t (m + 1) = (tdA (m_hear d (8 * ld + t) a s b v) (8 * ld + t) t m) &&& (1) from (if_neg c_14).trans (congrArg (tdA (m_hear d (8 * ld + t) a s b v) (8 * ld + t) t m &&& ·) (if_pos c_17)), show tdN (m_hear d (8 * ld + t) a s b v) (8 * ld + t) t (m + 1) = (tdN (m_hear d (8 * ld + t) a s b v) (8 * ld + t) t m) ||| (1) from (if_neg c_14).trans (congrArg (tdN (m_hear d (8 * ld + t) a s b v) (8 * ld + t) t m ||| ·) (if_pos c_15))]; exact lv_sub hl [0, 2, 1, 4, 5, 6, 7, 8, 9, 10, 11, 12] rfl) (show MN (m_hear d (8 * ld + t) a s b v) from hM_m)
            · skip
              refine lv_goto (tgt := 132) hx hb d_Mo_told_88 (by decide) ?_
              refine lv_iinc (v := nI (m + 1)) (lv' := [(11, .int (nI (m + 1))), (10, .int (tdN (m_hear d (8 * ld + t) a s b v) (8 * ld + t) t m)), (9, .int (tdA (m_hear d (8 * ld + t) a s b v) (8 * ld + t) t m)), (8, .int (nI (9 * (8 * ld + t) + 3 * a + s))), (7, .int (nI (8 * ld + t))), (0, .ref (gad G (600))), (1, .int (nI ld)), (2, .int (nI t)), (3, .int (nI s)), (4, .int (nI a)), (5, .int (b)), (6, .int (v))]) hx hb d_Mo_told_132 hl (k := 0) rfl (nI_1 (m)) (by decide) rfl (fun ls hl => ?_)
              refine lv_goto (tgt := 72) hx hb d_Mo_told_135 (by decide) ?_
              exact ih_m (m + 1) (by omega) (by omega) _ _ _ hW (by rw [show tdA (m_hear d (8 * ld + t) a s b v) (8 * ld + t) t (m + 1) = tdA (m_hear d (8 * ld + t) a s b v) (8 * ld + t) t m from if_pos c_14, show tdN (m_hear d (8 * ld + t) a s b v) (8 * ld + t) t (m + 1) = tdN (m_hear d (8 * ld + t) a s b v) (8 * ld + t) t m from if_pos c_14]; exact lv_sub hl [0, 1, 2, 3, 4, 5, 6, 7, 8, 9, 10, 11] rfl) (show MN (m_hear d (8 * ld + t) a s b v) from hM_m)
      exact L_72 (3 + 1) 0 (by omega) (by omega) _ _ _ hW (lv_sub hl [0, 1, 2, 3, 4, 5, 6, 7, 8, 9, 10, 11] rfl) (show MN (m_hear d (8 * ld + t) a s b v) from (MN_keep hN (congrFun (m_hear_off (by omega) (by omega)) _)))
    · skip
      exact e_vret hx hb hr hlk hW (by unfold m_told; rw [if_neg c_2]) (Nat.zero_le _) (Nat.zero_le _) d_Mo_told_62
  · skip
    refine lv_aload_n hx hb d_Mo_told_34 rfl (lv_at hl 2 rfl) ?_
    refine e_get (v := .ref (gad G (622))) hx hb hts hown hK hW (F_Mo G hG) i_Mo rfl 22 (by decide) (hts _ kw_424) (fun _ h => h) rfl d_Mo_told_35 ?_
    refine lv_iload hx hb d_Mo_told_38 (lv_at hl 0 rfl) ?_
    refine lv_iload hx hb d_Mo_told_40 (lv_at hl 7 rfl) ?_
    refine e_iast hx hb hK hW (F_MlatestBallot G hG) (j := 9 * (8 * ld + t) + 3 * a + s) (by omega) rfl d_Mo_told_42 (fun H locs hW => ?_)
    refine lv_aload_n hx hb d_Mo_told_43 rfl (lv_at hl 2 rfl) ?_
    refine e_get (v := .ref (gad G (623))) hx hb hts hown hK hW (F_Mo G hG) i_Mo rfl 23 (by decide) (hts _ kw_423) (fun _ h => h) rfl d_Mo_told_44 ?_
    refine lv_iload hx hb d_Mo_told_47 (lv_at hl 0 rfl) ?_
    refine lv_iload hx hb d_Mo_told_49 (lv_at hl 8 rfl) ?_
    refine e_iast hx hb hK hW (F_MlatestVote G hG) (j := 9 * (8 * ld + t) + 3 * a + s) (by omega) rfl d_Mo_told_51 (fun H locs hW => ?_)
    have hW := WD_to (show (m_hear d (8 * ld + t) a s b v) = (up2 (up2 d (622) (9 * (8 * ld + t) + 3 * a + s) (b)) (623) (9 * (8 * ld + t) + 3 * a + s) (v)) by unfold m_hear; rw [if_neg c_1]) hW
    refine lv_aload_n hx hb d_Mo_told_52 rfl (lv_at hl 2 rfl) ?_
    refine e_get (v := .ref (gad G (618))) hx hb hts hown hK hW (F_Mo G hG) i_Mo rfl 18 (by decide) (hts _ kw_450) (fun _ h => h) rfl d_Mo_told_53 ?_
    refine lv_iload hx hb d_Mo_told_56 (lv_at hl 1 rfl) ?_
    refine e_iald hx hb hK hW (F_Mknown G hG) (j := 8 * ld + t) (by omega) (x := (m_hear d (8 * ld + t) a s b v) (618) (8 * ld + t)) (rfl) rfl d_Mo_told_58 ?_
    refine lv_if_lt (tgt := 63) hx hb d_Mo_told_59 (by decide) (fun c_18 => ?_) (fun c_18 => ?_)
    · skip
      refine lv_iconst (v := 1) hx hb d_Mo_told_63 (by decide) ?_
      refine lv_istore (lv' := [(9, .int (1)), (8, .int (nI (9 * (8 * ld + t) + 3 * a + s))), (7, .int (nI (8 * ld + t))), (0, .ref (gad G (600))), (1, .int (nI ld)), (2, .int (nI t)), (3, .int (nI s)), (4, .int (nI a)), (5, .int (b)), (6, .int (v))]) hx hb d_Mo_told_64 hl (by decide) rfl (fun ls hl => ?_)
      refine lv_iconst (v := 0) hx hb d_Mo_told_66 (by decide) ?_
      refine lv_istore (lv' := [(10, .int (0)), (9, .int (1)), (8, .int (nI (9 * (8 * ld + t) + 3 * a + s))), (7, .int (nI (8 * ld + t))), (0, .ref (gad G (600))), (1, .int (nI ld)), (2, .int (nI t)), (3, .int (nI s)), (4, .int (nI a)), (5, .int (b)), (6, .int (v))]) hx hb d_Mo_told_67 hl (by decide) rfl (fun ls hl => ?_)
      refine lv_iconst (v := 0) hx hb d_Mo_told_69 (by decide) ?_
      refine lv_istore (lv' := [(11, .int (0)), (10, .int (0)), (9, .int (1)), (8, .int (nI (9 * (8 * ld + t) + 3 * a + s))), (7, .int (nI (8 * ld + t))), (0, .ref (gad G (600))), (1, .int (nI ld)), (2, .int (nI t)), (3, .int (nI s)), (4, .int (nI a)), (5, .int (b)), (6, .int (v))]) hx hb d_Mo_told_70 hl (by decide) rfl (fun ls hl => ?_)
      have L_72 : ∀ (N m : Nat), m ≤ 3 → 3 + 1 ≤ m + N → ∀ (H : Heap) (locs : List Loc) (ls : Array Slot), WD G zs.heap ((m_hear d (8 * ld + t) a s b v)) H locs → lv_has ls 13 [(11, .int (nI m)), (10, .int (tdN (m_hear d (8 * ld + t) a s b v) (8 * ld + t) t m)), (9, .int (tdA (m_hear d (8 * ld + t) a s b v) (8 * ld + t) t m)), (8, .int (nI (9 * (8 * ld + t) + 3 * a + s))), (7, .int (nI (8 * ld + t))), (0, .ref (gad G (600))), (1, .int (nI ld)), (2, .int (nI t)), (3, .int (nI s)), (4, .int (nI a)), (5, .int (b)), (6, .int (v))] → (MN ((m_hear d (8 * ld + t) a s b v))) → W p l e { frames := 2, cells := 0, slots := 0, locals := 47 } zs zm [.ref (gad G (600)), .int (nI ld), .int (nI t), .int (nI s), .int (nI a), .int (b), .int (v)].toArray below meth zc H locs 0 0 (MQ below (cQv G (fun u9 => u9 = m_told (m_hear d (8 * ld + t) a s b v) (8 * ld + t) t)) [.ref (gad G (600)), .int (nI ld), .int (nI t), .int (nI s), .int (nI a), .int (b), .int (v)].toArray zs 0 0 (gAb G)) (F0 zm 72 ls []) := by
        intro N
        induction N with
        | zero => intro m h1 h2; exact absurd h2 (by omega)
        | succ N ih_m =>
          intro m hi_m hN_m H locs ls hW hl hM_m
          refine lv_iload hx hb d_Mo_told_72 (lv_at hl 0 rfl) ?_
          refine lv_iconst (v := 3) hx hb d_Mo_told_74 (by decide) ?_
          refine lv_icmp_ge (tgt := 138) hx hb d_Mo_told_75 (by decide) (fun c_19 => ?_) (fun c_19 => ?_)
          · skip
            have e_m : 3 = m := (lp_out rfl (by omega) hi_m c_19).symm
            subst e_m
            refine lv_iload hx hb d_Mo_told_138 (lv_at hl 1 rfl) ?_
            refine lv_if_ne (tgt := 149) hx hb d_Mo_told_140 (by decide) (fun c_20 => ?_) (fun c_20 => ?_)
            · skip
              refine lv_aload_n hx hb d_Mo_told_149 rfl (lv_at hl 5 rfl) ?_
              refine e_get (v := .ref (gad G (618))) hx hb hts hown hK hW (F_Mo G hG) i_Mo rfl 18 (by decide) (hts _ kw_450) (fun _ h => h) rfl d_Mo_told_150 ?_
              refine lv_iload hx hb d_Mo_told_153 (lv_at hl 4 rfl) ?_
              refine lv_iload hx hb d_Mo_told_155 (lv_at hl 1 rfl) ?_
              refine lv_if_eq (tgt := 164) hx hb d_Mo_told_157 (by decide) (fun c_21 => ?_) (fun c_21 => ?_)
              · skip
                exact absurd c_21 c_20
              · skip
                refine lv_iconst (v := 1) hx hb d_Mo_told_160 (by decide) ?_
                refine lv_goto (tgt := 165) hx hb d_Mo_told_161 (by decide) ?_
                refine e_iast hx hb hK hW (F_Mknown G hG) (j := 8 * ld + t) (by omega) rfl d_Mo_told_165 (fun H locs hW => ?_)
                refine lv_iconst (v := 0) hx hb d_Mo_told_166 (by decide) ?_
                refine lv_istore (lv' := [(11, .int (0)), (10, .int (tdN (m_hear d (8 * ld + t) a s b v) (8 * ld + t) t 3)), (9, .int (tdA (m_hear d (8 * ld + t) a s b v) (8 * ld + t) t 3)), (8, .int (nI (9 * (8 * ld + t) + 3 * a + s))), (7, .int (nI (8 * ld + t))), (0, .ref (gad G (600))), (1, .int (nI ld)), (2, .int (nI t)), (3, .int (nI s)), (4, .int (nI a)), (5, .int (b)), (6, .int (v))]) hx hb d_Mo_told_167 hl (by decide) rfl (fun ls hl => ?_)
                have L_169 : ∀ (N m : Nat), m ≤ 3 → 3 + 1 ≤ m + N → ∀ (H : Heap) (locs : List Loc) (ls : Array Slot), WD G zs.heap (lpMO (up2 (m_hear d (8 * ld + t) a s b v) 618 (8 * ld + t) 1) t 0 m) H locs → lv_has ls 13 [(11, .int (nI m)), (10, .int (tdN (m_hear d (8 * ld + t) a s b v) (8 * ld + t) t 3)), (9, .int (tdA (m_hear d (8 * ld + t) a s b v) (8 * ld + t) t 3)), (8, .int (nI (9 * (8 * ld + t) + 3 * a + s))), (7, .int (nI (8 * ld + t))), (0, .ref (gad G (600))), (1, .int (nI ld)), (2, .int (nI t)), (3, .int (nI s)), (4, .int (nI a)), (5, .int (b)), (6, .int (v))] → (MN (lpMO (up2 (m_hear d (8 * ld + t) a s b v) 618 (8 * ld + t) 1) t 0 m)) → W p l e { frames := 2, cells := 0, slots := 0, locals := 47 } zs zm [.ref (gad G (600)), .int (nI ld), .int (nI t), .int (nI s), .int (nI a), .int (b), .int (v)].toArray below meth zc H locs 0 0 (MQ below (cQv G (fun u9 => u9 = m_told (m_hear d (8 * ld + t) a s b v) (8 * ld + t) t)) [.ref (gad G (600)), .int (nI ld), .int (nI t), .int (nI s), .int (nI a), .int (b), .int (v)].toArray zs 0 0 (gAb G)) (F0 zm 169 ls []) := by
                  intro N
                  induction N with
                  | zero => intro m h1 h2; exact absurd h2 (by omega)
                  | succ N ih_m =>
                    intro m hi_m hN_m H locs ls hW hl hM_m
                    refine lv_iload hx hb d_Mo_told_169 (lv_at hl 0 rfl) ?_
                    refine lv_iconst (v := 3) hx hb d_Mo_told_171 (by decide) ?_
                    refine lv_icmp_ge (tgt := 215) hx hb d_Mo_told_172 (by decide) (fun c_22 => ?_) (fun c_22 => ?_)
                    · skip
                      have e_m : 3 = m := (lp_out rfl (by omega) hi_m c_22).symm
                      subst e_m
                      exact e_vret hx hb hr hlk hW (by unfold m_told; rw [if_pos c_18, if_neg c_20]) (Nat.zero_le _) (Nat.zero_le _) d_Mo_told_215
                    · skip
                      have lt_m : m < 3 := lp_in rfl (by omega) hi_m c_22
                      refine lv_aload_n hx hb d_Mo_told_175 rfl (lv_at hl 5 rfl) ?_
                      refine lv_iload_n hx hb d_Mo_told_176 rfl (lv_at hl 7 rfl) ?_
                      refine lv_iload hx hb d_Mo_told_177 (lv_at hl 0 rfl) ?_
                      refine e_ci (e_runV hx hb hml hown hts hE hbs hW (F_Mo G hG) rfl (c_M_member l G hG (lpMO (up2 (m_hear d (8 * ld + t) a s b v) 618 (8 * ld + t) 1) t 0 m) t m ht) kw_438 kw_439 kw_440 kw_412 kw_437 rfl rfl hd_Mo_member ⟨Nat.le_of_ble_eq_true rfl, Nat.le_of_ble_eq_true rfl⟩ (As := [.int (nI t), .int (nI m)]) (rest := []) rfl hl.1 rfl (Nat.le_of_ble_eq_true rfl) d_Mo_told_179 ⟨Nat.le_of_ble_eq_true rfl, Nat.le_of_ble_eq_true rfl⟩) hW (fun r d' H locs hp hW => ?_)
                      obtain ⟨hp1, hp2⟩ := hp
                      have hp1 := hp1.symm; subst hp1
                      have hp2 := hp2.symm; subst hp2
                      refine lv_if_eq (tgt := 209) hx hb d_Mo_told_182 (by decide) (fun c_23 => ?_) (fun c_23 => ?_)
                      · skip
                        refine lv_iinc (v := nI (m + 1)) (lv' := [(11, .int (nI (m + 1))), (10, .int (tdN (m_hear d (8 * ld + t) a s b v) (8 * ld + t) t 3)), (9, .int (tdA (m_hear d (8 * ld + t) a s b v) (8 * ld + t) t 3)), (8, .int (nI (9 * (8 * ld + t) + 3 * a + s))), (7, .int (nI (8 * ld + t))), (0, .ref (gad G (600))), (1, .int (nI ld)), (2, .int (nI t)), (3, .int (nI s)), (4, .int (nI a)), (5, .int (b)), (6, .int (v))]) hx hb d_Mo_told_209 hl (k := 0) rfl (nI_1 (m)) (by decide) rfl (fun ls hl => ?_)
                        refine lv_goto (tgt := 169) hx hb d_Mo_told_212 (by decide) ?_
                        exact ih_m (m + 1) (by omega) (by omega) _ _ _ (by rw [show lpMO (up2 (m_hear d (8 * ld + t) a s b v) 618 (8 * ld + t) 1) t 0 (m + 1) = (lpMO (up2 (m_hear d (8 * ld + t) a s b v) 618 (8 * ld + t) 1) t 0 m) from if_pos c_23]; exact hW) (lv_sub hl [0, 1, 2, 3, 4, 5, 6, 7, 8, 9, 10, 11] rfl) (by rw [show lpMO (up2 (m_hear d (8 * ld + t) a s b v) 618 (8 * ld + t) 1) t 0 (m + 1) = (lpMO (up2 (m_hear d (8 * ld + t) a s b v) 618 (8 * ld + t) 1) t 0 m) from if_pos c_23]; exact (show MN (lpMO (up2 (m_hear d (8 * ld + t) a s b v) 618 (8 * ld + t) 1) t 0 m) from hM_m))
                      · skip
                        refine lv_aload_n hx hb d_Mo_told_185 rfl (lv_at hl 5 rfl) ?_
                        refine lv_bipush (v := 79) hx hb d_Mo_told_186 (by decide) ?_
                        refine lv_iload_n hx hb d_Mo_told_188 rfl (lv_at hl 7 rfl) ?_
                        refine lv_iload hx hb d_Mo_told_189 (lv_at hl 0 rfl) ?_
                        refine lv_iconst (v := -1) hx hb d_Mo_told_191 (by decide) ?_
                        refine lv_iconst (v := -1) hx hb d_Mo_told_192 (by decide) ?_
                        refine lv_iconst (v := -1) hx hb d_Mo_told_193 (by decide) ?_
                        refine lv_iload hx hb d_Mo_told_194 (lv_at hl 1 rfl) ?_
                        refine lv_if_eq (tgt := 203) hx hb d_Mo_told_196 (by decide) (fun c_24 => ?_) (fun c_24 => ?_)
                        · skip
                          exact absurd c_24 c_20
                        · skip
                          refine lv_iconst (v := 0) hx hb d_Mo_told_199 (by decide) ?_
                          refine lv_goto (tgt := 204) hx hb d_Mo_told_200 (by decide) ?_
                          refine e_ci (e_runV hx hb hml hown hts hE hbs hW (F_Mo G hG) rfl (c_M_send l G hG (lpMO (up2 (m_hear d (8 * ld + t) a s b v) 618 (8 * ld + t) 1) t 0 m) (79) (nI t) (nI m) (-1) (-1) (-1) (0) hM_m) kw_426 kw_427 kw_428 kw_412 kw_425 rfl rfl hd_Mo_send ⟨Nat.le_of_ble_eq_true rfl, Nat.le_of_ble_eq_true rfl⟩ (As := [.int (79), .int (nI t), .int (nI m), .int (-1), .int (-1), .int (-1), .int (0)]) (rest := []) rfl hl.1 rfl (Nat.le_of_ble_eq_true rfl) d_Mo_told_204 ⟨Nat.le_of_ble_eq_true rfl, Nat.le_of_ble_eq_true rfl⟩) hW (fun r d' H locs hp hW => ?_)
                          obtain ⟨hp1, hp2⟩ := hp
                          have hp1 := hp1.symm; subst hp1
                          have hp2 := hp2.symm; subst hp2
                          refine lv_istore (lv' := [(12, .int (m_sR (lpMO (up2 (m_hear d (8 * ld + t) a s b v) 618 (8 * ld + t) 1) t 0 m))), (11, .int (nI m)), (10, .int (tdN (m_hear d (8 * ld + t) a s b v) (8 * ld + t) t 3)), (9, .int (tdA (m_hear d (8 * ld + t) a s b v) (8 * ld + t) t 3)), (8, .int (nI (9 * (8 * ld + t) + 3 * a + s))), (7, .int (nI (8 * ld + t))), (0, .ref (gad G (600))), (1, .int (nI ld)), (2, .int (nI t)), (3, .int (nI s)), (4, .int (nI a)), (5, .int (b)), (6, .int (v))]) hx hb d_Mo_told_207 hl (by decide) rfl (fun ls hl => ?_)
                          refine lv_iinc (v := nI (m + 1)) (lv' := [(11, .int (nI (m + 1))), (12, .int (m_sR (lpMO (up2 (m_hear d (8 * ld + t) a s b v) 618 (8 * ld + t) 1) t 0 m))), (10, .int (tdN (m_hear d (8 * ld + t) a s b v) (8 * ld + t) t 3)), (9, .int (tdA (m_hear d (8 * ld + t) a s b v) (8 * ld + t) t 3)), (8, .int (nI (9 * (8 * ld + t) + 3 * a + s))), (7, .int (nI (8 * ld + t))), (0, .ref (gad G (600))), (1, .int (nI ld)), (2, .int (nI t)), (3, .int (nI s)), (4, .int (nI a)), (5, .int (b)), (6, .int (v))]) hx hb d_Mo_told_209 hl (k := 1) rfl (nI_1 (m)) (by decide) rfl (fun ls hl => ?_)
                          refine lv_goto (tgt := 169) hx hb d_Mo_told_212 (by decide) ?_
                          exact ih_m (m + 1) (by omega) (by omega) _ _ _ (by rw [show lpMO (up2 (m_hear d (8 * ld + t) a s b v) 618 (8 * ld + t) 1) t 0 (m + 1) = (m_snd (lpMO (up2 (m_hear d (8 * ld + t) a s b v) 618 (8 * ld + t) 1) t 0 m) (79) (nI t) (nI m) (-1) (-1) (-1) (0)) from if_neg c_23]; exact hW) (lv_sub hl [0, 2, 3, 4, 5, 6, 7, 8, 9, 10, 11, 12] rfl) (by rw [show lpMO (up2 (m_hear d (8 * ld + t) a s b v) 618 (8 * ld + t) 1) t 0 (m + 1) = (m_snd (lpMO (up2 (m_hear d (8 * ld + t) a s b v) 618 (8 * ld + t) 1) t 0 m) (79) (nI t) (nI m) (-1) (-1) (-1) (0)) from if_neg c_23]; exact (show MN (m_snd (lpMO (up2 (m_hear d (8 * ld + t) a s b v) 618 (8 * ld + t) 1) t 0 m) (79) (nI t) (nI m) (-1) (-1) (-1) (0)) from ((MS_snd hM_m).1)))
                exact L_169 (3 + 1) 0 (by omega) (by omega) _ _ _ hW (lv_sub hl [0, 1, 2, 3, 4, 5, 6, 7, 8, 9, 10, 11] rfl) (show MN (up2 (m_hear d (8 * ld + t) a s b v) (618) (8 * ld + t) (1)) from (MN_keep hM_m (up2_nc (by omega))))
            · skip
              refine lv_iload hx hb d_Mo_told_143 (lv_at hl 2 rfl) ?_
              refine lv_if_ne (tgt := 149) hx hb d_Mo_told_145 (by decide) (fun c_25 => ?_) (fun c_25 => ?_)
              · skip
                refine lv_aload_n hx hb d_Mo_told_149 rfl (lv_at hl 5 rfl) ?_
                refine e_get (v := .ref (gad G (618))) hx hb hts hown hK hW (F_Mo G hG) i_Mo rfl 18 (by decide) (hts _ kw_450) (fun _ h => h) rfl d_Mo_told_150 ?_
                refine lv_iload hx hb d_Mo_told_153 (lv_at hl 4 rfl) ?_
                refine lv_iload hx hb d_Mo_told_155 (lv_at hl 1 rfl) ?_
                refine lv_if_eq (tgt := 164) hx hb d_Mo_told_157 (by decide) (fun c_26 => ?_) (fun c_26 => ?_)
                · skip
                  refine lv_iconst (v := 0) hx hb d_Mo_told_164 (by decide) ?_
                  refine e_iast hx hb hK hW (F_Mknown G hG) (j := 8 * ld + t) (by omega) rfl d_Mo_told_165 (fun H locs hW => ?_)
                  refine lv_iconst (v := 0) hx hb d_Mo_told_166 (by decide) ?_
                  refine lv_istore (lv' := [(11, .int (0)), (10, .int (tdN (m_hear d (8 * ld + t) a s b v) (8 * ld + t) t 3)), (9, .int (tdA (m_hear d (8 * ld + t) a s b v) (8 * ld + t) t 3)), (8, .int (nI (9 * (8 * ld + t) + 3 * a + s))), (7, .int (nI (8 * ld + t))), (0, .ref (gad G (600))), (1, .int (nI ld)), (2, .int (nI t)), (3, .int (nI s)), (4, .int (nI a)), (5, .int (b)), (6, .int (v))]) hx hb d_Mo_told_167 hl (by decide) rfl (fun ls hl => ?_)
                  have L_169 : ∀ (N m : Nat), m ≤ 3 → 3 + 1 ≤ m + N → ∀ (H : Heap) (locs : List Loc) (ls : Array Slot), WD G zs.heap (lpMO (up2 (m_hear d (8 * ld + t) a s b v) 618 (8 * ld + t) 0) t 1 m) H locs → lv_has ls 13 [(11, .int (nI m)), (10, .int (tdN (m_hear d (8 * ld + t) a s b v) (8 * ld + t) t 3)), (9, .int (tdA (m_hear d (8 * ld + t) a s b v) (8 * ld + t) t 3)), (8, .int (nI (9 * (8 * ld + t) + 3 * a + s))), (7, .int (nI (8 * ld + t))), (0, .ref (gad G (600))), (1, .int (nI ld)), (2, .int (nI t)), (3, .int (nI s)), (4, .int (nI a)), (5, .int (b)), (6, .int (v))] → (MN (lpMO (up2 (m_hear d (8 * ld + t) a s b v) 618 (8 * ld + t) 0) t 1 m)) → W p l e { frames := 2, cells := 0, slots := 0, locals := 47 } zs zm [.ref (gad G (600)), .int (nI ld), .int (nI t), .int (nI s), .int (nI a), .int (b), .int (v)].toArray below meth zc H locs 0 0 (MQ below (cQv G (fun u9 => u9 = m_told (m_hear d (8 * ld + t) a s b v) (8 * ld + t) t)) [.ref (gad G (600)), .int (nI ld), .int (nI t), .int (nI s), .int (nI a), .int (b), .int (v)].toArray zs 0 0 (gAb G)) (F0 zm 169 ls []) := by
                    intro N
                    induction N with
                    | zero => intro m h1 h2; exact absurd h2 (by omega)
                    | succ N ih_m =>
                      intro m hi_m hN_m H locs ls hW hl hM_m
                      refine lv_iload hx hb d_Mo_told_169 (lv_at hl 0 rfl) ?_
                      refine lv_iconst (v := 3) hx hb d_Mo_told_171 (by decide) ?_
                      refine lv_icmp_ge (tgt := 215) hx hb d_Mo_told_172 (by decide) (fun c_27 => ?_) (fun c_27 => ?_)
                      · skip
                        have e_m : 3 = m := (lp_out rfl (by omega) hi_m c_27).symm
                        subst e_m
                        exact e_vret hx hb hr hlk hW (by unfold m_told; rw [if_pos c_18, if_pos c_20, if_neg c_25]) (Nat.zero_le _) (Nat.zero_le _) d_Mo_told_215
                      · skip
                        have lt_m : m < 3 := lp_in rfl (by omega) hi_m c_27
                        refine lv_aload_n hx hb d_Mo_told_175 rfl (lv_at hl 5 rfl) ?_
                        refine lv_iload_n hx hb d_Mo_told_176 rfl (lv_at hl 7 rfl) ?_
                        refine lv_iload hx hb d_Mo_told_177 (lv_at hl 0 rfl) ?_
                        refine e_ci (e_runV hx hb hml hown hts hE hbs hW (F_Mo G hG) rfl (c_M_member l G hG (lpMO (up2 (m_hear d (8 * ld + t) a s b v) 618 (8 * ld + t) 0) t 1 m) t m ht) kw_438 kw_439 kw_440 kw_412 kw_437 rfl rfl hd_Mo_member ⟨Nat.le_of_ble_eq_true rfl, Nat.le_of_ble_eq_true rfl⟩ (As := [.int (nI t), .int (nI m)]) (rest := []) rfl hl.1 rfl (Nat.le_of_ble_eq_true rfl) d_Mo_told_179 ⟨Nat.le_of_ble_eq_true rfl, Nat.le_of_ble_eq_true rfl⟩) hW (fun r d' H locs hp hW => ?_)
                        obtain ⟨hp1, hp2⟩ := hp
                        have hp1 := hp1.symm; subst hp1
                        have hp2 := hp2.symm; subst hp2
                        refine lv_if_eq (tgt := 209) hx hb d_Mo_told_182 (by decide) (fun c_28 => ?_) (fun c_28 => ?_)
                        · skip
                          refine lv_iinc (v := nI (m + 1)) (lv' := [(11, .int (nI (m + 1))), (10, .int (tdN (m_hear d (8 * ld + t) a s b v) (8 * ld + t) t 3)), (9, .int (tdA (m_hear d (8 * ld + t) a s b v) (8 * ld + t) t 3)), (8, .int (nI (9 * (8 * ld + t) + 3 * a + s))), (7, .int (nI (8 * ld + t))), (0, .ref (gad G (600))), (1, .int (nI ld)), (2, .int (nI t)), (3, .int (nI s)), (4, .int (nI a)), (5, .int (b)), (6, .int (v))]) hx hb d_Mo_told_209 hl (k := 0) rfl (nI_1 (m)) (by decide) rfl (fun ls hl => ?_)
                          refine lv_goto (tgt := 169) hx hb d_Mo_told_212 (by decide) ?_
                          exact ih_m (m + 1) (by omega) (by omega) _ _ _ (by rw [show lpMO (up2 (m_hear d (8 * ld + t) a s b v) 618 (8 * ld + t) 0) t 1 (m + 1) = (lpMO (up2 (m_hear d (8 * ld + t) a s b v) 618 (8 * ld + t) 0) t 1 m) from if_pos c_28]; exact hW) (lv_sub hl [0, 1, 2, 3, 4, 5, 6, 7, 8, 9, 10, 11] rfl) (by rw [show lpMO (up2 (m_hear d (8 * ld + t) a s b v) 618 (8 * ld + t) 0) t 1 (m + 1) = (lpMO (up2 (m_hear d (8 * ld + t) a s b v) 618 (8 * ld + t) 0) t 1 m) from if_pos c_28]; exact (show MN (lpMO (up2 (m_hear d (8 * ld + t) a s b v) 618 (8 * ld + t) 0) t 1 m) from hM_m))
                        · skip
                          refine lv_aload_n hx hb d_Mo_told_185 rfl (lv_at hl 5 rfl) ?_
                          refine lv_bipush (v := 79) hx hb d_Mo_told_186 (by decide) ?_
                          refine lv_iload_n hx hb d_Mo_told_188 rfl (lv_at hl 7 rfl) ?_
                          refine lv_iload hx hb d_Mo_told_189 (lv_at hl 0 rfl) ?_
                          refine lv_iconst (v := -1) hx hb d_Mo_told_191 (by decide) ?_
                          refine lv_iconst (v := -1) hx hb d_Mo_told_192 (by decide) ?_
                          refine lv_iconst (v := -1) hx hb d_Mo_told_193 (by decide) ?_
                          refine lv_iload hx hb d_Mo_told_194 (lv_at hl 1 rfl) ?_
                          refine lv_if_eq (tgt := 203) hx hb d_Mo_told_196 (by decide) (fun c_29 => ?_) (fun c_29 => ?_)
                          · skip
                            refine lv_iconst (v := 1) hx hb d_Mo_told_203 (by decide) ?_
                            refine e_ci (e_runV hx hb hml hown hts hE hbs hW (F_Mo G hG) rfl (c_M_send l G hG (lpMO (up2 (m_hear d (8 * ld + t) a s b v) 618 (8 * ld + t) 0) t 1 m) (79) (nI t) (nI m) (-1) (-1) (-1) (1) hM_m) kw_426 kw_427 kw_428 kw_412 kw_425 rfl rfl hd_Mo_send ⟨Nat.le_of_ble_eq_true rfl, Nat.le_of_ble_eq_true rfl⟩ (As := [.int (79), .int (nI t), .int (nI m), .int (-1), .int (-1), .int (-1), .int (1)]) (rest := []) rfl hl.1 rfl (Nat.le_of_ble_eq_true rfl) d_Mo_told_204 ⟨Nat.le_of_ble_eq_true rfl, Nat.le_of_ble_eq_true rfl⟩) hW (fun r d' H locs hp hW => ?_)
                            obtain ⟨hp1, hp2⟩ := hp
                            have hp1 := hp1.symm; subst hp1
                            have hp2 := hp2.symm; subst hp2
                            refine lv_istore (lv' := [(12, .int (m_sR (lpMO (up2 (m_hear d (8 * ld + t) a s b v) 618 (8 * ld + t) 0) t 1 m))), (11, .int (nI m)), (10, .int (tdN (m_hear d (8 * ld + t) a s b v) (8 * ld + t) t 3)), (9, .int (tdA (m_hear d (8 * ld + t) a s b v) (8 * ld + t) t 3)), (8, .int (nI (9 * (8 * ld + t) + 3 * a + s))), (7, .int (nI (8 * ld + t))), (0, .ref (gad G (600))), (1, .int (nI ld)), (2, .int (nI t)), (3, .int (nI s)), (4, .int (nI a)), (5, .int (b)), (6, .int (v))]) hx hb d_Mo_told_207 hl (by decide) rfl (fun ls hl => ?_)
                            refine lv_iinc (v := nI (m + 1)) (lv' := [(11, .int (nI (m + 1))), (12, .int (m_sR (lpMO (up2 (m_hear d (8 * ld + t) a s b v) 618 (8 * ld + t) 0) t 1 m))), (10, .int (tdN (m_hear d (8 * ld + t) a s b v) (8 * ld + t) t 3)), (9, .int (tdA (m_hear d (8 * ld + t) a s b v) (8 * ld + t) t 3)), (8, .int (nI (9 * (8 * ld + t) + 3 * a + s))), (7, .int (nI (8 * ld + t))), (0, .ref (gad G (600))), (1, .int (nI ld)), (2, .int (nI t)), (3, .int (nI s)), (4, .int (nI a)), (5, .int (b)), (6, .int (v))]) hx hb d_Mo_told_209 hl (k := 1) rfl (nI_1 (m)) (by decide) rfl (fun ls hl => ?_)
                            refine lv_goto (tgt := 169) hx hb d_Mo_told_212 (by decide) ?_
                            exact ih_m (m + 1) (by omega) (by omega) _ _ _ (by rw [show lpMO (up2 (m_hear d (8 * ld + t) a s b v) 618 (8 * ld + t) 0) t 1 (m + 1) = (m_snd (lpMO (up2 (m_hear d (8 * ld + t) a s b v) 618 (8 * ld + t) 0) t 1 m) (79) (nI t) (nI m) (-1) (-1) (-1) (1)) from if_neg c_28]; exact hW) (lv_sub hl [0, 2, 3, 4, 5, 6, 7, 8, 9, 10, 11, 12] rfl) (by rw [show lpMO (up2 (m_hear d (8 * ld + t) a s b v) 618 (8 * ld + t) 0) t 1 (m + 1) = (m_snd (lpMO (up2 (m_hear d (8 * ld + t) a s b v) 618 (8 * ld + t) 0) t 1 m) (79) (nI t) (nI m) (-1) (-1) (-1) (1)) from if_neg c_28]; exact (show MN (m_snd (lpMO (up2 (m_hear d (8 * ld + t) a s b v) 618 (8 * ld + t) 0) t 1 m) (79) (nI t) (nI m) (-1) (-1) (-1) (1)) from ((MS_snd hM_m).1)))
                          · skip
                            exact absurd c_20 c_29
                  exact L_169 (3 + 1) 0 (by omega) (by omega) _ _ _ hW (lv_sub hl [0, 1, 2, 3, 4, 5, 6, 7, 8, 9, 10, 11] rfl) (show MN (up2 (m_hear d (8 * ld + t) a s b v) (618) (8 * ld + t) (0)) from (MN_keep hM_m (up2_nc (by omega))))
                · skip
                  exact absurd c_20 c_26
              · skip
                exact e_vret hx hb hr hlk hW (by unfold m_told; rw [if_pos c_18, if_pos c_20, if_pos c_25]) (Nat.zero_le _) (Nat.zero_le _) d_Mo_told_148
          · skip
            have lt_m : m < 3 := lp_in rfl (by omega) hi_m c_19
            refine lv_aload_n hx hb d_Mo_told_78 rfl (lv_at hl 5 rfl) ?_
            refine lv_iload_n hx hb d_Mo_told_79 rfl (lv_at hl 7 rfl) ?_
            refine lv_iload hx hb d_Mo_told_80 (lv_at hl 0 rfl) ?_
            refine e_ci (e_runV hx hb hml hown hts hE hbs hW (F_Mo G hG) rfl (c_M_member l G hG (m_hear d (8 * ld + t) a s b v) t m ht) kw_438 kw_439 kw_440 kw_412 kw_437 rfl rfl hd_Mo_member ⟨Nat.le_of_ble_eq_true rfl, Nat.le_of_ble_eq_true rfl⟩ (As := [.int (nI t), .int (nI m)]) (rest := []) rfl hl.1 rfl (Nat.le_of_ble_eq_true rfl) d_Mo_told_82 ⟨Nat.le_of_ble_eq_true rfl, Nat.le_of_ble_eq_true rfl⟩) hW (fun r d' H locs hp hW => ?_)
            obtain ⟨hp1, hp2⟩ := hp
            have hp1 := hp1.symm; subst hp1
            have hp2 := hp2.symm; subst hp2
            refine lv_if_ne (tgt := 91) hx hb d_Mo_told_85 (by decide) (fun c_30 => ?_) (fun c_30 => ?_)
            · skip
              refine lv_aload_n hx hb d_Mo_told_91 rfl (lv_at hl 5 rfl) ?_
              refine lv_iload hx hb d_Mo_told_92 (lv_at hl 4 rfl) ?_
              refine lv_iload hx hb d_Mo_told_94 (lv_at hl 0 rfl) ?_
              refine e_ci (e_runV hx hb hml hown hts hE hbs hW (F_Mo G hG) rfl (c_M_decided l G hG (m_hear d (8 * ld + t) a s b v) (8 * ld + t) m (by omega) (by omega)) kw_452 kw_453 kw_454 kw_412 kw_451 rfl rfl hd_Mo_decided ⟨Nat.le_of_ble_eq_true rfl, Nat.le_of_ble_eq_true rfl⟩ (As := [.int (nI (8 * ld + t)), .int (nI m)]) (rest := []) rfl hl.1 rfl (Nat.le_of_ble_eq_true rfl) d_Mo_told_96 ⟨Nat.le_of_ble_eq_true rfl, Nat.le_of_ble_eq_true rfl⟩) hW (fun r d' H locs hp hW => ?_)
              obtain ⟨hp1, hp2⟩ := hp
              have hp1 := hp1.symm; subst hp1
              have hp2 := hp2.symm; subst hp2
              refine lv_istore (lv' := [(12, .int (dcF (m_hear d (8 * ld + t) a s b v) (8 * ld + t) m 3)), (11, .int (nI m)), (10, .int (tdN (m_hear d (8 * ld + t) a s b v) (8 * ld + t) t m)), (9, .int (tdA (m_hear d (8 * ld + t) a s b v) (8 * ld + t) t m)), (8, .int (nI (9 * (8 * ld + t) + 3 * a + s))), (7, .int (nI (8 * ld + t))), (0, .ref (gad G (600))), (1, .int (nI ld)), (2, .int (nI t)), (3, .int (nI s)), (4, .int (nI a)), (5, .int (b)), (6, .int (v))]) hx hb d_Mo_told_99 hl (by decide) rfl (fun ls hl => ?_)
              refine lv_iload hx hb d_Mo_told_101 (lv_at hl 2 rfl) ?_
              refine lv_iload hx hb d_Mo_told_103 (lv_at hl 0 rfl) ?_
              refine lv_if_ne (tgt := 112) hx hb d_Mo_told_105 (by decide) (fun c_31 => ?_) (fun c_31 => ?_)
              · skip
                refine lv_iconst (v := 0) hx hb d_Mo_told_112 (by decide) ?_
                refine lv_ior hx hb d_Mo_told_113 ?_
                refine lv_istore (lv' := [(10, .int ((tdN (m_hear d (8 * ld + t) a s b v) (8 * ld + t) t m) ||| (0))), (12, .int (dcF (m_hear d (8 * ld + t) a s b v) (8 * ld + t) m 3)), (11, .int (nI m)), (9, .int (tdA (m_hear d (8 * ld + t) a s b v) (8 * ld + t) t m)), (8, .int (nI (9 * (8 * ld + t) + 3 * a + s))), (7, .int (nI (8 * ld + t))), (0, .ref (gad G (600))), (1, .int (nI ld)), (2, .int (nI t)), (3, .int (nI s)), (4, .int (nI a)), (5, .int (b)), (6, .int (v))]) hx hb d_Mo_told_114 hl (by decide) rfl (fun ls hl => ?_)
                refine lv_iload hx hb d_Mo_told_116 (lv_at hl 3 rfl) ?_
                refine lv_iload hx hb d_Mo_told_118 (lv_at hl 1 rfl) ?_
                refine lv_iconst (v := 1) hx hb d_Mo_told_120 (by decide) ?_
                refine lv_icmp_ne (tgt := 128) hx hb d_Mo_told_121 (by decide) (fun c_32 => ?_) (fun c_32 => ?_)
                · skip
                  refine lv_iconst (v := 0) hx hb d_Mo_told_128 (by decide) ?_
                  refine lv_iand hx hb d_Mo_told_129 ?_
                  refine lv_istore (lv' := [(9, .int ((tdA (m_hear d (8 * ld + t) a s b v) (8 * ld + t) t m) &&& (0))), (10, .int ((tdN (m_hear d (8 * ld + t) a s b v) (8 * ld + t) t m) ||| (0))), (12, .int (dcF (m_hear d (8 * ld + t) a s b v) (8 * ld + t) m 3)), (11, .int (nI m)), (8, .int (nI (9 * (8 * ld + t) + 3 * a + s))), (7, .int (nI (8 * ld + t))), (0, .ref (gad G (600))), (1, .int (nI ld)), (2, .int (nI t)), (3, .int (nI s)), (4, .int (nI a)), (5, .int (b)), (6, .int (v))]) hx hb d_Mo_told_130 hl (by decide) rfl (fun ls hl => ?_)
                  refine lv_iinc (v := nI (m + 1)) (lv' := [(11, .int (nI (m + 1))), (9, .int ((tdA (m_hear d (8 * ld + t) a s b v) (8 * ld + t) t m) &&& (0))), (10, .int ((tdN (m_hear d (8 * ld + t) a s b v) (8 * ld + t) t m) ||| (0))), (12, .int (dcF (m_hear d (8 * ld + t) a s b v) (8 * ld + t) m 3)), (8, .int (nI (9 * (8 * ld + t) + 3 * a + s))), (7, .int (nI (8 * ld + t))), (0, .ref (gad G (600))), (1, .int (nI ld)), (2, .int (nI t)), (3, .int (nI s)), (4, .int (nI a)), (5, .int (b)), (6, .int (v))]) hx hb d_Mo_told_132 hl (k := 3) rfl (nI_1 (m)) (by decide) rfl (fun ls hl => ?_)
                  refine lv_goto (tgt := 72) hx hb d_Mo_told_135 (by decide) ?_
                  exact ih_m (m + 1) (by omega) (by omega) _ _ _ hW (by rw [show tdA (m_hear d (8 * ld + t) a s b v) (8 * ld + t) t (m + 1) = (tdA (m_hear d (8 * ld + t) a s b v) (8 * ld + t) t m) &&& (0) from (if_neg c_30).trans (congrArg (tdA (m_hear d (8 * ld + t) a s b v) (8 * ld + t) t m &&& ·) (if_neg c_32)), show tdN (m_hear d (8 * ld + t) a s b v) (8 * ld + t) t (m + 1) = (tdN (m_hear d (8 * ld + t) a s b v) (8 * ld + t) t m) ||| (0) from (if_neg c_30).trans (congrArg (tdN (m_hear d (8 * ld + t) a s b v) (8 * ld + t) t m ||| ·) (if_neg c_31))]; exact lv_sub hl [0, 2, 1, 4, 5, 6, 7, 8, 9, 10, 11, 12] rfl) (show MN (m_hear d (8 * ld + t) a s b v) from hM_m)
                · skip
                  refine lv_iconst (v := 1) hx hb d_Mo_told_124 (by decide) ?_
                  refine lv_goto (tgt := 129) hx hb d_Mo_told_125 (by decide) ?_
                  refine lv_iand hx hb d_Mo_told_129 ?_
                  refine lv_istore (lv' := [(9, .int ((tdA (m_hear d (8 * ld + t) a s b v) (8 * ld + t) t m) &&& (1))), (10, .int ((tdN (m_hear d (8 * ld + t) a s b v) (8 * ld + t) t m) ||| (0))), (12, .int (dcF (m_hear d (8 * ld + t) a s b v) (8 * ld + t) m 3)), (11, .int (nI m)), (8, .int (nI (9 * (8 * ld + t) + 3 * a + s))), (7, .int (nI (8 * ld + t))), (0, .ref (gad G (600))), (1, .int (nI ld)), (2, .int (nI t)), (3, .int (nI s)), (4, .int (nI a)), (5, .int (b)), (6, .int (v))]) hx hb d_Mo_told_130 hl (by decide) rfl (fun ls hl => ?_)
                  refine lv_iinc (v := nI (m + 1)) (lv' := [(11, .int (nI (m + 1))), (9, .int ((tdA (m_hear d (8 * ld + t) a s b v) (8 * ld + t) t m) &&& (1))), (10, .int ((tdN (m_hear d (8 * ld + t) a s b v) (8 * ld + t) t m) ||| (0))), (12, .int (dcF (m_hear d (8 * ld + t) a s b v) (8 * ld + t) m 3)), (8, .int (nI (9 * (8 * ld + t) + 3 * a + s))), (7, .int (nI (8 * ld + t))), (0, .ref (gad G (600))), (1, .int (nI ld)), (2, .int (nI t)), (3, .int (nI s)), (4, .int (nI a)), (5, .int (b)), (6, .int (v))]) hx hb d_Mo_told_132 hl (k := 3) rfl (nI_1 (m)) (by decide) rfl (fun ls hl => ?_)
                  refine lv_goto (tgt := 72) hx hb d_Mo_told_135 (by decide) ?_
                  exact ih_m (m + 1) (by omega) (by omega) _ _ _ hW (by rw [show tdA (m_hear d (8 * ld + t) a s b v) (8 * ld + t) t (m + 1) = (tdA (m_hear d (8 * ld + t) a s b v) (8 * ld + t) t m) &&& (1) from (if_neg c_30).trans (congrArg (tdA (m_hear d (8 * ld + t) a s b v) (8 * ld + t) t m &&& ·) (if_pos c_32)), show tdN (m_hear d (8 * ld + t) a s b v) (8 * ld + t) t (m + 1) = (tdN (m_hear d (8 * ld + t) a s b v) (8 * ld + t) t m) ||| (0) from (if_neg c_30).trans (congrArg (tdN (m_hear d (8 * ld + t) a s b v) (8 * ld + t) t m ||| ·) (if_neg c_31))]; exact lv_sub hl [0, 2, 1, 4, 5, 6, 7, 8, 9, 10, 11, 12] rfl) (show MN (m_hear d (8 * ld + t) a s b v) from hM_m)
              · skip
                refine lv_iconst (v := 1) hx hb d_Mo_told_108 (by decide) ?_
                refine lv_goto (tgt := 113) hx hb d_Mo_told_109 (by decide) ?_
                refine lv_ior hx hb d_Mo_told_113 ?_
                refine lv_istore (lv' := [(10, .int ((tdN (m_hear d (8 * ld + t) a s b v) (8 * ld + t) t m) ||| (1))), (12, .int (dcF (m_hear d (8 * ld + t) a s b v) (8 * ld + t) m 3)), (11, .int (nI m)), (9, .int (tdA (m_hear d (8 * ld + t) a s b v) (8 * ld + t) t m)), (8, .int (nI (9 * (8 * ld + t) + 3 * a + s))), (7, .int (nI (8 * ld + t))), (0, .ref (gad G (600))), (1, .int (nI ld)), (2, .int (nI t)), (3, .int (nI s)), (4, .int (nI a)), (5, .int (b)), (6, .int (v))]) hx hb d_Mo_told_114 hl (by decide) rfl (fun ls hl => ?_)
                refine lv_iload hx hb d_Mo_told_116 (lv_at hl 3 rfl) ?_
                refine lv_iload hx hb d_Mo_told_118 (lv_at hl 1 rfl) ?_
                refine lv_iconst (v := 1) hx hb d_Mo_told_120 (by decide) ?_
                refine lv_icmp_ne (tgt := 128) hx hb d_Mo_told_121 (by decide) (fun c_33 => ?_) (fun c_33 => ?_)
                · skip
                  refine lv_iconst (v := 0) hx hb d_Mo_told_128 (by decide) ?_
                  refine lv_iand hx hb d_Mo_told_129 ?_
                  refine lv_istore (lv' := [(9, .int ((tdA (m_hear d (8 * ld + t) a s b v) (8 * ld + t) t m) &&& (0))), (10, .int ((tdN (m_hear d (8 * ld + t) a s b v) (8 * ld + t) t m) ||| (1))), (12, .int (dcF (m_hear d (8 * ld + t) a s b v) (8 * ld + t) m 3)), (11, .int (nI m)), (8, .int (nI (9 * (8 * ld + t) + 3 * a + s))), (7, .int (nI (8 * ld + t))), (0, .ref (gad G (600))), (1, .int (nI ld)), (2, .int (nI t)), (3, .int (nI s)), (4, .int (nI a)), (5, .int (b)), (6, .int (v))]) hx hb d_Mo_told_130 hl (by decide) rfl (fun ls hl => ?_)
                  refine lv_iinc (v := nI (m + 1)) (lv' := [(11, .int (nI (m + 1))), (9, .int ((tdA (m_hear d (8 * ld + t) a s b v) (8 * ld + t) t m) &&& (0))), (10, .int ((tdN (m_hear d (8 * ld + t) a s b v) (8 * ld + t) t m) ||| (1))), (12, .int (dcF (m_hear d (8 * ld + t) a s b v) (8 * ld + t) m 3)), (8, .int (nI (9 * (8 * ld + t) + 3 * a + s))), (7, .int (nI (8 * ld + t))), (0, .ref (gad G (600))), (1, .int (nI ld)), (2, .int (nI t)), (3, .int (nI s)), (4, .int (nI a)), (5, .int (b)), (6, .int (v))]) hx hb d_Mo_told_132 hl (k := 3) rfl (nI_1 (m)) (by decide) rfl (fun ls hl => ?_)
                  refine lv_goto (tgt := 72) hx hb d_Mo_told_135 (by decide) ?_
                  exact ih_m (m + 1) (by omega) (by omega) _ _ _ hW (by rw [show tdA (m_hear d (8 * ld + t) a s b v) (8 * ld + t) t (m + 1) = (tdA (m_hear d (8 * ld + t) a s b v) (8 * ld + t) t m) &&& (0) from (if_neg c_30).trans (congrArg (tdA (m_hear d (8 * ld + t) a s b v) (8 * ld + t) t m &&& ·) (if_neg c_33)), show tdN (m_hear d (8 * ld + t) a s b v) (8 * ld + t) t (m + 1) = (tdN (m_hear d (8 * ld + t) a s b v) (8 * ld + t) t m) ||| (1) from (if_neg c_30).trans (congrArg (tdN (m_hear d (8 * ld + t) a s b v) (8 * ld + t) t m ||| ·) (if_pos c_31))]; exact lv_sub hl [0, 2, 1, 4, 5, 6, 7, 8, 9, 10, 11, 12] rfl) (show MN (m_hear d (8 * ld + t) a s b v) from hM_m)
                · skip
                  refine lv_iconst (v := 1) hx hb d_Mo_told_124 (by decide) ?_
                  refine lv_goto (tgt := 129) hx hb d_Mo_told_125 (by decide) ?_
                  refine lv_iand hx hb d_Mo_told_129 ?_
                  refine lv_istore (lv' := [(9, .int ((tdA (m_hear d (8 * ld + t) a s b v) (8 * ld + t) t m) &&& (1))), (10, .int ((tdN (m_hear d (8 * ld + t) a s b v) (8 * ld + t) t m) ||| (1))), (12, .int (dcF (m_hear d (8 * ld + t) a s b v) (8 * ld + t) m 3)), (11, .int (nI m)), (8, .int (nI (9 * (8 * ld + t) + 3 * a + s))), (7, .int (nI (8 * ld + t))), (0, .ref (gad G (600))), (1, .int (nI ld)), (2, .int (nI t)), (3, .int (nI s)), (4, .int (nI a)), (5, .int (b)), (6, .int (v))]) hx hb d_Mo_told_130 hl (by decide) rfl (fun ls hl => ?_)
                  refine lv_iinc (v := nI (m + 1)) (lv' := [(11, .int (nI (m + 1))), (9, .int ((tdA (m_hear d (8 * ld + t) a s b v) (8 * ld + t) t m) &&& (1))), (10, .int ((tdN (m_hear d (8 * ld + t) a s b v) (8 * ld + t) t m) ||| (1))), (12, .int (dcF (m_hear d (8 * ld + t) a s b v) (8 * ld + t) m 3)), (8, .int (nI (9 * (8 * ld + t) + 3 * a + s))), (7, .int (nI (8 * ld + t))), (0, .ref (gad G (600))), (1, .int (nI ld)), (2, .int (nI t)), (3, .int (nI s)), (4, .int (nI a)), (5, .int (b)), (6, .int (v))]) hx hb d_Mo_told_132 hl (k := 3) rfl (nI_1 (m)) (by decide) rfl (fun ls hl => ?_)
                  refine lv_goto (tgt := 72) hx hb d_Mo_told_135 (by decide) ?_
                  exact ih_m (m + 1) (by omega) (by omega) _ _ _ hW (by rw [show tdA (m_hear d (8 * ld + t) a s b v) (8 * ld + t) t (m + 1) = (tdA (m_hear d (8 * ld + t) a s b v) (8 * ld + t) t m) &&& (1) from (if_neg c_30).trans (congrArg (tdA (m_hear d (8 * ld + t) a s b v) (8 * ld + t) t m &&& ·) (if_pos c_33)), show tdN (m_hear d (8 * ld + t) a s b v) (8 * ld + t) t (m + 1) = (tdN (m_hear d (8 * ld + t) a s b v) (8 * ld + t) t m) ||| (1) from (if_neg c_30).trans (congrArg (tdN (m_hear d (8 * ld + t) a s b v) (8 * ld + t) t m ||| ·) (if_pos c_31))]; exact lv_sub hl [0, 2, 1, 4, 5, 6, 7, 8, 9, 10, 11, 12] rfl) (show MN (m_hear d (8 * ld + t) a s b v) from hM_m)
            · skip
              refine lv_goto (tgt := 132) hx hb d_Mo_told_88 (by decide) ?_
              refine lv_iinc (v := nI (m + 1)) (lv' := [(11, .int (nI (m + 1))), (10, .int (tdN (m_hear d (8 * ld + t) a s b v) (8 * ld + t) t m)), (9, .int (tdA (m_hear d (8 * ld + t) a s b v) (8 * ld + t) t m)), (8, .int (nI (9 * (8 * ld + t) + 3 * a + s))), (7, .int (nI (8 * ld + t))), (0, .ref (gad G (600))), (1, .int (nI ld)), (2, .int (nI t)), (3, .int (nI s)), (4, .int (nI a)), (5, .int (b)), (6, .int (v))]) hx hb d_Mo_told_132 hl (k := 0) rfl (nI_1 (m)) (by decide) rfl (fun ls hl => ?_)
              refine lv_goto (tgt := 72) hx hb d_Mo_told_135 (by decide) ?_
              exact ih_m (m + 1) (by omega) (by omega) _ _ _ hW (by rw [show tdA (m_hear d (8 * ld + t) a s b v) (8 * ld + t) t (m + 1) = tdA (m_hear d (8 * ld + t) a s b v) (8 * ld + t) t m from if_pos c_30, show tdN (m_hear d (8 * ld + t) a s b v) (8 * ld + t) t (m + 1) = tdN (m_hear d (8 * ld + t) a s b v) (8 * ld + t) t m from if_pos c_30]; exact lv_sub hl [0, 1, 2, 3, 4, 5, 6, 7, 8, 9, 10, 11] rfl) (show MN (m_hear d (8 * ld + t) a s b v) from hM_m)
      exact L_72 (3 + 1) 0 (by omega) (by omega) _ _ _ hW (lv_sub hl [0, 1, 2, 3, 4, 5, 6, 7, 8, 9, 10, 11] rfl) (show MN (m_hear d (8 * ld + t) a s b v) from (MN_keep hN (congrFun (m_hear_off (by omega) (by omega)) _)))
    · skip
      exact e_vret hx hb hr hlk hW (by unfold m_told; rw [if_neg c_18]) (Nat.zero_le _) (Nat.zero_le _) d_Mo_told_62
set_option maxHeartbeats 4000000 in
set_option maxRecDepth 100000 in
theorem c_M_finish (l : Launch) (G : GT) (hG : GOK G) (d : DD) (t s : Nat) (ht : t < 8) (hs : s < 3) (v : Int32) : Met l y_Mo_finish (.code y_Mo_finish b_Mo_finish 7 none :: WS) { frames := 2, cells := 0, slots := 0, locals := 45 } (cPre G [.ref (gad G (600)), .int (nI t), .int (nI s), .int (v)] d) (cQv G (fun u9 => u9 = m_fin d t s v)) 0 0 (gAb G) := by
  refine c_start (own := R_Mo) (by decide +kernel) rfl (Nat.le_of_ble_eq_true rfl) ?_
  intro p e zs zm below meth zc ls C hW hl
  obtain ⟨hx, hb, hr, hml, hown, hts, hlk, hE, hbs⟩ := C
  have hK := hE.1
  have hn3 := hG.1
  have hl : lv_has ls 7 [(0, .ref (gad G (600))), (1, .int (nI t)), (2, .int (nI s)), (3, .int (v))] := hl
  refine lv_iconst (v := 3) hx hb d_Mo_finish_0 (by decide) ?_
  refine lv_iload_n hx hb d_Mo_finish_1 rfl (lv_at hl 1 rfl) ?_
  refine lv_imul hx hb d_Mo_finish_2 ?_
  refine e_top (v := nI (3 * t)) (pk_mul (3) (t)) ?_
  refine lv_iload_n hx hb d_Mo_finish_3 rfl (lv_at hl 2 rfl) ?_
  refine lv_iadd hx hb d_Mo_finish_4 ?_
  refine e_top (v := nI (3 * t + s)) (nI_add (3 * t) (s)) ?_
  refine lv_istore (lv' := [(4, .int (nI (3 * t + s))), (0, .ref (gad G (600))), (1, .int (nI t)), (2, .int (nI s)), (3, .int (v))]) hx hb d_Mo_finish_5 hl (by decide) rfl (fun ls hl => ?_)
  refine lv_aload_n hx hb d_Mo_finish_7 rfl (lv_at hl 1 rfl) ?_
  refine e_get (v := .ref (gad G (610))) hx hb hts hown hK hW (F_Mo G hG) i_Mo rfl 10 (by decide) (hts _ kw_410) (fun _ h => h) rfl d_Mo_finish_8 ?_
  refine lv_iload hx hb d_Mo_finish_11 (lv_at hl 0 rfl) ?_
  refine e_iald hx hb hK hW (F_Mstate G hG) (j := 3 * t + s) (by omega) (x := d (610) (3 * t + s)) (rfl) rfl d_Mo_finish_13 ?_
  refine lv_istore (lv' := [(5, .int (d (610) (3 * t + s))), (4, .int (nI (3 * t + s))), (0, .ref (gad G (600))), (1, .int (nI t)), (2, .int (nI s)), (3, .int (v))]) hx hb d_Mo_finish_14 hl (by decide) rfl (fun ls hl => ?_)
  refine lv_iload hx hb d_Mo_finish_16 (lv_at hl 0 rfl) ?_
  refine lv_iconst (v := 2) hx hb d_Mo_finish_18 (by decide) ?_
  refine lv_icmp_ne (tgt := 97) hx hb d_Mo_finish_19 (by decide) (fun c_1 => ?_) (fun c_1 => ?_)
  · skip
    refine lv_iload hx hb d_Mo_finish_97 (lv_at hl 0 rfl) ?_
    refine lv_iconst (v := 2) hx hb d_Mo_finish_99 (by decide) ?_
    refine lv_icmp_gt (tgt := 113) hx hb d_Mo_finish_100 (by decide) (fun c_2 => ?_) (fun c_2 => ?_)
    · skip
      exact e_vret hx hb hr hlk hW (by unfold m_fin; rw [if_neg c_1, if_pos c_2] <;> rfl) (Nat.zero_le _) (Nat.zero_le _) d_Mo_finish_113
    · skip
      refine lv_iload_n hx hb d_Mo_finish_103 rfl (lv_at hl 5 rfl) ?_
      refine lv_if_ne (tgt := 113) hx hb d_Mo_finish_104 (by decide) (fun c_3 => ?_) (fun c_3 => ?_)
      · skip
        exact e_vret hx hb hr hlk hW (by unfold m_fin; rw [if_neg c_1, if_neg c_2, if_neg c_3] <;> rfl) (Nat.zero_le _) (Nat.zero_le _) d_Mo_finish_113
      · skip
        refine lv_aload_n hx hb d_Mo_finish_107 rfl (lv_at hl 2 rfl) ?_
        refine lv_iload_n hx hb d_Mo_finish_108 rfl (lv_at hl 3 rfl) ?_
        refine lv_iload_n hx hb d_Mo_finish_109 rfl (lv_at hl 4 rfl) ?_
        refine e_cv (e_runV hx hb hml hown hts hE hbs hW (F_Mo G hG) rfl (c_M_abort l G hG d t s ht hs) kw_430 kw_431 kw_432 kw_412 kw_429 rfl rfl hd_Mo_abort ⟨Nat.le_of_ble_eq_true rfl, Nat.le_of_ble_eq_true rfl⟩ (As := [.int (nI t), .int (nI s)]) (rest := []) rfl hl.1 rfl (Nat.le_of_ble_eq_true rfl) d_Mo_finish_110 ⟨Nat.le_of_ble_eq_true rfl, Nat.le_of_ble_eq_true rfl⟩) hW (fun d' H locs hp hW => ?_)
        have hp := hp.symm; subst hp
        exact e_vret hx hb hr hlk hW (by unfold m_fin; rw [if_neg c_1, if_neg c_2, if_pos c_3] <;> rfl) (Nat.zero_le _) (Nat.zero_le _) d_Mo_finish_113
  · skip
    refine lv_iload_n hx hb d_Mo_finish_22 rfl (lv_at hl 5 rfl) ?_
    refine lv_iconst (v := 1) hx hb d_Mo_finish_23 (by decide) ?_
    refine lv_icmp_ne (tgt := 97) hx hb d_Mo_finish_24 (by decide) (fun c_4 => ?_) (fun c_4 => ?_)
    · skip
      refine lv_iload hx hb d_Mo_finish_97 (lv_at hl 0 rfl) ?_
      refine lv_iconst (v := 2) hx hb d_Mo_finish_99 (by decide) ?_
      refine lv_icmp_gt (tgt := 113) hx hb d_Mo_finish_100 (by decide) (fun c_5 => ?_) (fun c_5 => ?_)
      · skip
        exact e_vret hx hb hr hlk hW (by unfold m_fin; rw [if_pos c_1, if_neg c_4, if_pos c_5] <;> rfl) (Nat.zero_le _) (Nat.zero_le _) d_Mo_finish_113
      · skip
        refine lv_iload_n hx hb d_Mo_finish_103 rfl (lv_at hl 5 rfl) ?_
        refine lv_if_ne (tgt := 113) hx hb d_Mo_finish_104 (by decide) (fun c_6 => ?_) (fun c_6 => ?_)
        · skip
          exact e_vret hx hb hr hlk hW (by unfold m_fin; rw [if_pos c_1, if_neg c_4, if_neg c_5, if_neg c_6] <;> rfl) (Nat.zero_le _) (Nat.zero_le _) d_Mo_finish_113
        · skip
          refine lv_aload_n hx hb d_Mo_finish_107 rfl (lv_at hl 2 rfl) ?_
          refine lv_iload_n hx hb d_Mo_finish_108 rfl (lv_at hl 3 rfl) ?_
          refine lv_iload_n hx hb d_Mo_finish_109 rfl (lv_at hl 4 rfl) ?_
          refine e_cv (e_runV hx hb hml hown hts hE hbs hW (F_Mo G hG) rfl (c_M_abort l G hG d t s ht hs) kw_430 kw_431 kw_432 kw_412 kw_429 rfl rfl hd_Mo_abort ⟨Nat.le_of_ble_eq_true rfl, Nat.le_of_ble_eq_true rfl⟩ (As := [.int (nI t), .int (nI s)]) (rest := []) rfl hl.1 rfl (Nat.le_of_ble_eq_true rfl) d_Mo_finish_110 ⟨Nat.le_of_ble_eq_true rfl, Nat.le_of_ble_eq_true rfl⟩) hW (fun d' H locs hp hW => ?_)
          have hp := hp.symm; subst hp
          exact e_vret hx hb hr hlk hW (by unfold m_fin; rw [if_pos c_1, if_neg c_4, if_neg c_5, if_pos c_6] <;> rfl) (Nat.zero_le _) (Nat.zero_le _) d_Mo_finish_113
    · skip
      refine lv_iconst (v := 0) hx hb d_Mo_finish_27 (by decide) ?_
      refine lv_istore (lv' := [(6, .int (0)), (5, .int (d (610) (3 * t + s))), (4, .int (nI (3 * t + s))), (0, .ref (gad G (600))), (1, .int (nI t)), (2, .int (nI s)), (3, .int (v))]) hx hb d_Mo_finish_28 hl (by decide) rfl (fun ls hl => ?_)
      have L_30 : ∀ (N k : Nat), k ≤ 4 → 4 + 1 ≤ k + N → ∀ (H : Heap) (locs : List Loc) (ls : Array Slot), WD G zs.heap (lpMC d t s k) H locs → lv_has ls 7 [(6, .int (nI k)), (5, .int (d (610) (3 * t + s))), (4, .int (nI (3 * t + s))), (0, .ref (gad G (600))), (1, .int (nI t)), (2, .int (nI s)), (3, .int (v))] → W p l e { frames := 2, cells := 0, slots := 0, locals := 45 } zs zm [.ref (gad G (600)), .int (nI t), .int (nI s), .int (v)].toArray below meth zc H locs 0 0 (MQ below (cQv G (fun u9 => u9 = m_fin d t s v)) [.ref (gad G (600)), .int (nI t), .int (nI s), .int (v)].toArray zs 0 0 (gAb G)) (F0 zm 30 ls []) := by
        intro N
        induction N with
        | zero => intro k h1 h2; exact absurd h2 (by omega)
        | succ N ih_k =>
          intro k hi_k hN_k H locs ls hW hl
          refine lv_iload hx hb d_Mo_finish_30 (lv_at hl 0 rfl) ?_
          refine lv_iconst (v := 4) hx hb d_Mo_finish_32 (by decide) ?_
          refine lv_icmp_ge (tgt := 80) hx hb d_Mo_finish_33 (by decide) (fun c_7 => ?_) (fun c_7 => ?_)
          · skip
            have e_k : 4 = k := (lp_out rfl (by omega) hi_k c_7).symm
            subst e_k
            refine lv_aload_n hx hb d_Mo_finish_80 rfl (lv_at hl 3 rfl) ?_
            refine e_get (v := .ref (gad G (610))) hx hb hts hown hK hW (F_Mo G hG) i_Mo rfl 10 (by decide) (hts _ kw_410) (fun _ h => h) rfl d_Mo_finish_81 ?_
            refine lv_iload hx hb d_Mo_finish_84 (lv_at hl 2 rfl) ?_
            refine lv_iconst (v := 3) hx hb d_Mo_finish_86 (by decide) ?_
            refine e_iast hx hb hK hW (F_Mstate G hG) (j := 3 * t + s) (by omega) rfl d_Mo_finish_87 (fun H locs hW => ?_)
            refine lv_aload_n hx hb d_Mo_finish_88 rfl (lv_at hl 3 rfl) ?_
            refine lv_iload_n hx hb d_Mo_finish_89 rfl (lv_at hl 4 rfl) ?_
            refine lv_iload_n hx hb d_Mo_finish_90 rfl (lv_at hl 5 rfl) ?_
            refine e_cv (e_runV hx hb hml hown hts hE hbs hW (F_Mo G hG) rfl (c_M_unlock l G hG (up2 (lpMC d t s 4) (610) (3 * t + s) (3)) t s ht hs) kw_413 kw_414 kw_415 kw_412 kw_411 rfl rfl hd_Mo_unlock ⟨Nat.le_of_ble_eq_true rfl, Nat.le_of_ble_eq_true rfl⟩ (As := [.int (nI t), .int (nI s)]) (rest := []) rfl hl.1 rfl (Nat.le_of_ble_eq_true rfl) d_Mo_finish_91 ⟨Nat.le_of_ble_eq_true rfl, Nat.le_of_ble_eq_true rfl⟩) hW (fun d' H locs hp hW => ?_)
            have hp := hp.symm; subst hp
            refine lv_goto (tgt := 113) hx hb d_Mo_finish_94 (by decide) ?_
            exact e_vret hx hb hr hlk hW (by unfold m_fin; rw [if_pos c_1, if_pos c_4] <;> rfl) (Nat.zero_le _) (Nat.zero_le _) d_Mo_finish_113
          · skip
            have lt_k : k < 4 := lp_in rfl (by omega) hi_k c_7
            refine lv_aload_n hx hb d_Mo_finish_36 rfl (lv_at hl 3 rfl) ?_
            refine e_get (v := .ref (gad G (611))) hx hb hts hown hK hW (F_Mo G hG) i_Mo rfl 11 (by decide) (hts _ kw_455) (fun _ h => h) rfl d_Mo_finish_37 ?_
            refine lv_iload hx hb d_Mo_finish_40 (lv_at hl 2 rfl) ?_
            refine e_iald hx hb hK hW (F_Mwrites G hG) (j := 3 * t + s) (by omega) (x := (lpMC d t s k) (611) (3 * t + s)) (rfl) rfl d_Mo_finish_42 ?_
            refine lv_iload hx hb d_Mo_finish_43 (lv_at hl 0 rfl) ?_
            refine lv_ishr hx hb d_Mo_finish_45 ?_
            refine lv_iconst (v := 1) hx hb d_Mo_finish_46 (by decide) ?_
            refine lv_iand hx hb d_Mo_finish_47 ?_
            refine lv_if_eq (tgt := 74) hx hb d_Mo_finish_48 (by decide) (fun c_8 => ?_) (fun c_8 => ?_)
            · skip
              refine lv_iinc (v := nI (k + 1)) (lv' := [(6, .int (nI (k + 1))), (5, .int (d (610) (3 * t + s))), (4, .int (nI (3 * t + s))), (0, .ref (gad G (600))), (1, .int (nI t)), (2, .int (nI s)), (3, .int (v))]) hx hb d_Mo_finish_74 hl (k := 0) rfl (nI_1 (k)) (by decide) rfl (fun ls hl => ?_)
              refine lv_goto (tgt := 30) hx hb d_Mo_finish_77 (by decide) ?_
              exact ih_k (k + 1) (by omega) (by omega) _ _ _ (by rw [show lpMC d t s (k + 1) = (lpMC d t s k) from if_pos c_8]; exact hW) (lv_sub hl [0, 1, 2, 3, 4, 5, 6] rfl)
            · skip
              refine lv_aload_n hx hb d_Mo_finish_51 rfl (lv_at hl 3 rfl) ?_
              refine e_get (v := .ref (gad G (605))) hx hb hts hown hK hW (F_Mo G hG) i_Mo rfl 5 (by decide) (hts _ kw_456) (fun _ h => h) rfl d_Mo_finish_52 ?_
              refine lv_iconst (v := 4) hx hb d_Mo_finish_55 (by decide) ?_
              refine lv_iload_n hx hb d_Mo_finish_56 rfl (lv_at hl 5 rfl) ?_
              refine lv_imul hx hb d_Mo_finish_57 ?_
              refine e_top (v := nI (4 * s)) (pk_mul (4) (s)) ?_
              refine lv_iload hx hb d_Mo_finish_58 (lv_at hl 0 rfl) ?_
              refine lv_iadd hx hb d_Mo_finish_60 ?_
              refine e_top (v := nI (4 * s + k)) (nI_add (4 * s) (k)) ?_
              refine lv_aload_n hx hb d_Mo_finish_61 rfl (lv_at hl 3 rfl) ?_
              refine e_get (v := .ref (gad G (612))) hx hb hts hown hK hW (F_Mo G hG) i_Mo rfl 12 (by decide) (hts _ kw_457) (fun _ h => h) rfl d_Mo_finish_62 ?_
              refine lv_iconst (v := 4) hx hb d_Mo_finish_65 (by decide) ?_
              refine lv_iload hx hb d_Mo_finish_66 (lv_at hl 2 rfl) ?_
              refine lv_imul hx hb d_Mo_finish_68 ?_
              refine e_top (v := nI (4 * (3 * t + s))) (pk_mul (4) (3 * t + s)) ?_
              refine lv_iload hx hb d_Mo_finish_69 (lv_at hl 0 rfl) ?_
              refine lv_iadd hx hb d_Mo_finish_71 ?_
              refine e_top (v := nI (4 * (3 * t + s) + k)) (nI_add (4 * (3 * t + s)) (k)) ?_
              refine e_iald hx hb hK hW (F_Mwritten G hG) (j := 4 * (3 * t + s) + k) (by omega) (x := (lpMC d t s k) (612) (4 * (3 * t + s) + k)) (rfl) rfl d_Mo_finish_72 ?_
              refine e_iast hx hb hK hW (F_Mvalue G hG) (j := 4 * s + k) (by omega) rfl d_Mo_finish_73 (fun H locs hW => ?_)
              refine lv_iinc (v := nI (k + 1)) (lv' := [(6, .int (nI (k + 1))), (5, .int (d (610) (3 * t + s))), (4, .int (nI (3 * t + s))), (0, .ref (gad G (600))), (1, .int (nI t)), (2, .int (nI s)), (3, .int (v))]) hx hb d_Mo_finish_74 hl (k := 0) rfl (nI_1 (k)) (by decide) rfl (fun ls hl => ?_)
              refine lv_goto (tgt := 30) hx hb d_Mo_finish_77 (by decide) ?_
              exact ih_k (k + 1) (by omega) (by omega) _ _ _ (by rw [show lpMC d t s (k + 1) = (up2 (lpMC d t s k) (605) (4 * s + k) ((lpMC d t s k) (612) (4 * (3 * t + s) + k))) from if_neg c_8]; exact hW) (lv_sub hl [0, 1, 2, 3, 4, 5, 6] rfl)
      exact L_30 (4 + 1) 0 (by omega) (by omega) _ _ _ hW (lv_sub hl [0, 1, 2, 3, 4, 5, 6] rfl)
