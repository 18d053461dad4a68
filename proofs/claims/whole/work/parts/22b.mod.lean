theorem kw_425 : .code y_Mo_send b_Mo_send 9 (some .boolean) ∈ WS := List.mem_filter.mpr ⟨List.mem_append_right _ (List.mem_of_getElem? (i := 1029) (by decide +kernel)), by decide +kernel⟩
theorem kw_426 : .methodLink R_Mo 94 y_Mo_send ∈ WS := List.mem_filter.mpr ⟨List.mem_append_right _ (List.mem_of_getElem? (i := 1026) (by decide +kernel)), by decide +kernel⟩
theorem kw_427 : .instanceMethod y_Mo_send ∈ WS := List.mem_filter.mpr ⟨List.mem_append_right _ (List.mem_of_getElem? (i := 1028) (by decide +kernel)), by decide +kernel⟩
theorem kw_428 : .selects R_Mo y_Mo_send y_Mo_send ∈ WS := List.mem_filter.mpr ⟨List.mem_append_left _ (List.mem_of_getElem? (i := 25) (by decide +kernel)), by decide +kernel⟩
theorem hd_Mo_send : y_Mo_send.cls ≠ "java/lang/invoke/MethodHandle" ∧ y_Mo_send.cls ≠ "java/lang/invoke/VarHandle" ∧ (parseMethodDescriptor y_Mo_send.desc).map (fun d => d.parameters.length) = some 7 := by decide +kernel
set_option maxHeartbeats 4000000 in
set_option maxRecDepth 100000 in
theorem c_M_vote (l : Launch) (G : GT) (hG : GOK G) (d : DD) (t s b v : Int32) (hN : MN d) (fn : d 600 1 = nI (gn G)) : Met l y_Mo_vote (.code y_Mo_vote b_Mo_vote 7 none :: WS) { frames := 1, cells := 0, slots := 0, locals := 28 } (cPre G [.ref (gad G (600)), .int (t), .int (s), .int (b), .int (v)] d) (cQv G (fun u9 => u9 = lpMV d t s b v (gn G))) 0 0 (gAb G) := by
  refine c_start (own := R_Mo) (by decide +kernel) rfl (Nat.le_of_ble_eq_true rfl) ?_
  intro p e zs zm below meth zc ls C hW hl
  obtain ⟨hx, hb, hr, hml, hown, hts, hlk, hE, hbs⟩ := C
  have hK := hE.1
  have hn3 := hG.1
  have hl : lv_has ls 7 [(0, .ref (gad G (600))), (1, .int (t)), (2, .int (s)), (3, .int (b)), (4, .int (v))] := hl
  refine lv_iconst (v := 0) hx hb d_Mo_vote_0 (by decide) ?_
  refine lv_istore (lv' := [(5, .int (0)), (0, .ref (gad G (600))), (1, .int (t)), (2, .int (s)), (3, .int (b)), (4, .int (v))]) hx hb d_Mo_vote_1 hl (by decide) rfl (fun ls hl => ?_)
  have L_3 : ∀ (N a : Nat), a ≤ gn G → gn G + 1 ≤ a + N → ∀ (H : Heap) (locs : List Loc) (ls : Array Slot), WD G zs.heap (lpMV d t s b v a) H locs → lv_has ls 7 [(5, .int (nI a)), (0, .ref (gad G (600))), (1, .int (t)), (2, .int (s)), (3, .int (b)), (4, .int (v))] → (MN (lpMV d t s b v a)) → ((lpMV d t s b v a) (600) (1) = nI (gn G)) → W p l e { frames := 1, cells := 0, slots := 0, locals := 28 } zs zm [.ref (gad G (600)), .int (t), .int (s), .int (b), .int (v)].toArray below meth zc H locs 0 0 (MQ below (cQv G (fun u9 => u9 = lpMV d t s b v (gn G))) [.ref (gad G (600)), .int (t), .int (s), .int (b), .int (v)].toArray zs 0 0 (gAb G)) (F0 zm 3 ls []) := by
    intro N
    induction N with
    | zero => intro a h1 h2; exact absurd h2 (by omega)
    | succ N ih_a =>
      intro a hi_a hN_a H locs ls hW hl hM_a f0_a
      refine lv_iload hx hb d_Mo_vote_3 (lv_at hl 0 rfl) ?_
      refine lv_aload_n hx hb d_Mo_vote_5 rfl (lv_at hl 1 rfl) ?_
      refine e_get (v := .int ((lpMV d t s b v a) (600) (1))) hx hb hts hown hK hW (F_Mo G hG) i_Mo rfl 1 (by decide) (hts _ kw_404) (fun _ h => h) rfl d_Mo_vote_6 ?_
      refine e_top (v := nI (gn G)) (f0_a) ?_
      refine lv_icmp_ge (tgt := 34) hx hb d_Mo_vote_9 (by decide) (fun c_1 => ?_) (fun c_1 => ?_)
      · skip
        have e_a : gn G = a := (lp_out rfl (by omega) hi_a c_1).symm
        subst e_a
        exact e_vret hx hb hr hlk hW (by exact rfl) (Nat.zero_le _) (Nat.zero_le _) d_Mo_vote_34
      · skip
        have lt_a : a < gn G := lp_in rfl (by omega) hi_a c_1
        refine lv_aload_n hx hb d_Mo_vote_12 rfl (lv_at hl 1 rfl) ?_
        refine lv_bipush (v := 86) hx hb d_Mo_vote_13 (by decide) ?_
        refine lv_iload_n hx hb d_Mo_vote_15 rfl (lv_at hl 2 rfl) ?_
        refine lv_iload_n hx hb d_Mo_vote_16 rfl (lv_at hl 3 rfl) ?_
        refine lv_iload hx hb d_Mo_vote_17 (lv_at hl 0 rfl) ?_
        refine lv_iconst (v := -1) hx hb d_Mo_vote_19 (by decide) ?_
        refine lv_iload_n hx hb d_Mo_vote_20 rfl (lv_at hl 4 rfl) ?_
        refine lv_iload hx hb d_Mo_vote_21 (lv_at hl 5 rfl) ?_
        refine e_ci (e_runV hx hb hml hown hts hE hbs hW (F_Mo G hG) rfl (c_M_send l G hG (lpMV d t s b v a) (86) (t) (s) (nI a) (-1) (b) (v) hM_a) kw_426 kw_427 kw_428 kw_412 kw_425 rfl rfl hd_Mo_send ⟨Nat.le_of_ble_eq_true rfl, Nat.le_of_ble_eq_true rfl⟩ (As := [.int (86), .int (t), .int (s), .int (nI a), .int (-1), .int (b), .int (v)]) (rest := []) rfl hl.1 rfl (Nat.le_of_ble_eq_true rfl) d_Mo_vote_23 ⟨Nat.le_of_ble_eq_true rfl, Nat.le_of_ble_eq_true rfl⟩) hW (fun r d' H locs hp hW => ?_)
        obtain ⟨hp1, hp2⟩ := hp
        have hp1 := hp1.symm; subst hp1
        have hp2 := hp2.symm; subst hp2
        refine lv_istore (lv' := [(6, .int (m_sR (lpMV d t s b v a))), (5, .int (nI a)), (0, .ref (gad G (600))), (1, .int (t)), (2, .int (s)), (3, .int (b)), (4, .int (v))]) hx hb d_Mo_vote_26 hl (by decide) rfl (fun ls hl => ?_)
        refine lv_iinc (v := nI (a + 1)) (lv' := [(5, .int (nI (a + 1))), (6, .int (m_sR (lpMV d t s b v a))), (0, .ref (gad G (600))), (1, .int (t)), (2, .int (s)), (3, .int (b)), (4, .int (v))]) hx hb d_Mo_vote_28 hl (k := 1) rfl (nI_1 (a)) (by decide) rfl (fun ls hl => ?_)
        refine lv_goto (tgt := 3) hx hb d_Mo_vote_31 (by decide) ?_
        exact ih_a (a + 1) (by omega) (by omega) _ _ _ (by rw [show lpMV d t s b v (a + 1) = (m_snd (lpMV d t s b v a) (86) (t) (s) (nI a) (-1) (b) (v)) from rfl]; exact hW) (lv_sub hl [0, 2, 3, 4, 5, 6] rfl) (by rw [show lpMV d t s b v (a + 1) = (m_snd (lpMV d t s b v a) (86) (t) (s) (nI a) (-1) (b) (v)) from rfl]; exact (show MN (m_snd (lpMV d t s b v a) (86) (t) (s) (nI a) (-1) (b) (v)) from ((MS_snd hM_a).1))) (by rw [show lpMV d t s b v (a + 1) = (m_snd (lpMV d t s b v a) (86) (t) (s) (nI a) (-1) (b) (v)) from rfl]; exact (show (m_snd (lpMV d t s b v a) (86) (t) (s) (nI a) (-1) (b) (v)) (600) (1) = nI (gn G) from ((((MS_snd hM_a).2.2 _ (by decide) (by decide)).trans (f0_a)))))
  exact L_3 (gn G + 1) 0 (by omega) (by omega) _ _ _ hW (lv_sub hl [0, 1, 2, 3, 4, 5] rfl) (show MN d from hN) (show d (600) (1) = nI (gn G) from (fn))
