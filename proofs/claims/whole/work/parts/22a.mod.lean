theorem kw_403 : .fieldLink R_Mo 85 "PaxosCommitModel" "failed" "I" ∈ WS := List.mem_filter.mpr ⟨List.mem_append_right _ (List.mem_of_getElem? (i := 912) (by decide +kernel)), by decide +kernel⟩
theorem kw_404 : .fieldLink R_Mo 77 "PaxosCommitModel" "n" "I" ∈ WS := List.mem_filter.mpr ⟨List.mem_append_right _ (List.mem_of_getElem? (i := 913) (by decide +kernel)), by decide +kernel⟩
theorem kw_405 : .fieldLink R_Mo 26 "PaxosCommitModel" "members" "[I" ∈ WS := List.mem_filter.mpr ⟨List.mem_append_right _ (List.mem_of_getElem? (i := 920) (by decide +kernel)), by decide +kernel⟩
theorem kw_406 : .fieldLink R_Mo 88 "PaxosCommitModel" "size" "I" ∈ WS := List.mem_filter.mpr ⟨List.mem_append_right _ (List.mem_of_getElem? (i := 937) (by decide +kernel)), by decide +kernel⟩
theorem kw_407 : .fieldLink R_Mo 74 "PaxosCommitModel" "net" "[I" ∈ WS := List.mem_filter.mpr ⟨List.mem_append_right _ (List.mem_of_getElem? (i := 936) (by decide +kernel)), by decide +kernel⟩
theorem kw_408 : .fieldLink R_Mo 91 "PaxosCommitModel" "lost" "I" ∈ WS := List.mem_filter.mpr ⟨List.mem_append_right _ (List.mem_of_getElem? (i := 938) (by decide +kernel)), by decide +kernel⟩
theorem kw_409 : .fieldLink R_Mo 23 "PaxosCommitModel" "lock" "[I" ∈ WS := List.mem_filter.mpr ⟨List.mem_append_right _ (List.mem_of_getElem? (i := 918) (by decide +kernel)), by decide +kernel⟩
theorem kw_410 : .fieldLink R_Mo 32 "PaxosCommitModel" "state" "[I" ∈ WS := List.mem_filter.mpr ⟨List.mem_append_right _ (List.mem_of_getElem? (i := 922) (by decide +kernel)), by decide +kernel⟩
theorem kw_411 : .code y_Mo_unlock b_Mo_unlock 4 none ∈ WS := List.mem_filter.mpr ⟨List.mem_append_right _ (List.mem_of_getElem? (i := 1041) (by decide +kernel)), by decide +kernel⟩
theorem kw_412 : .initialized R_Mo ∈ WS := List.mem_filter.mpr ⟨List.mem_append_right _ (List.mem_of_getElem? (i := 8) (by decide +kernel)), by decide +kernel⟩
theorem kw_413 : .methodLink R_Mo 98 y_Mo_unlock ∈ WS := List.mem_filter.mpr ⟨List.mem_append_right _ (List.mem_of_getElem? (i := 1038) (by decide +kernel)), by decide +kernel⟩
theorem kw_414 : .instanceMethod y_Mo_unlock ∈ WS := List.mem_filter.mpr ⟨List.mem_append_right _ (List.mem_of_getElem? (i := 1040) (by decide +kernel)), by decide +kernel⟩
theorem kw_415 : .selects R_Mo y_Mo_unlock y_Mo_unlock ∈ WS := List.mem_filter.mpr ⟨List.mem_append_left _ (List.mem_of_getElem? (i := 27) (by decide +kernel)), by decide +kernel⟩
theorem kw_416 : .fieldLink R_Mo 59 "PaxosCommitModel" "replied" "[Z" ∈ WS := List.mem_filter.mpr ⟨List.mem_append_right _ (List.mem_of_getElem? (i := 931) (by decide +kernel)), by decide +kernel⟩
theorem kw_417 : .fieldLink R_Mo 62 "PaxosCommitModel" "replyBallot" "[I" ∈ WS := List.mem_filter.mpr ⟨List.mem_append_right _ (List.mem_of_getElem? (i := 932) (by decide +kernel)), by decide +kernel⟩
theorem kw_418 : .fieldLink R_Mo 65 "PaxosCommitModel" "replyVote" "[I" ∈ WS := List.mem_filter.mpr ⟨List.mem_append_right _ (List.mem_of_getElem? (i := 933) (by decide +kernel)), by decide +kernel⟩
theorem kw_419 : .code y_Mo_most b_Mo_most 1 (some .int) ∈ WS := List.mem_filter.mpr ⟨List.mem_append_right _ (List.mem_of_getElem? (i := 1077) (by decide +kernel)), by decide +kernel⟩
theorem kw_420 : .methodLink R_Mo 126 y_Mo_most ∈ WS := List.mem_filter.mpr ⟨List.mem_append_right _ (List.mem_of_getElem? (i := 1074) (by decide +kernel)), by decide +kernel⟩
theorem kw_421 : .instanceMethod y_Mo_most ∈ WS := List.mem_filter.mpr ⟨List.mem_append_right _ (List.mem_of_getElem? (i := 1076) (by decide +kernel)), by decide +kernel⟩
theorem kw_422 : .selects R_Mo y_Mo_most y_Mo_most ∈ WS := List.mem_filter.mpr ⟨List.mem_append_left _ (List.mem_of_getElem? (i := 34) (by decide +kernel)), by decide +kernel⟩
theorem kw_423 : .fieldLink R_Mo 71 "PaxosCommitModel" "latestVote" "[I" ∈ WS := List.mem_filter.mpr ⟨List.mem_append_right _ (List.mem_of_getElem? (i := 935) (by decide +kernel)), by decide +kernel⟩
theorem kw_424 : .fieldLink R_Mo 68 "PaxosCommitModel" "latestBallot" "[I" ∈ WS := List.mem_filter.mpr ⟨List.mem_append_right _ (List.mem_of_getElem? (i := 934) (by decide +kernel)), by decide +kernel⟩
theorem hd_Mo_unlock : y_Mo_unlock.cls ≠ "java/lang/invoke/MethodHandle" ∧ y_Mo_unlock.cls ≠ "java/lang/invoke/VarHandle" ∧ (parseMethodDescriptor y_Mo_unlock.desc).map (fun d => d.parameters.length) = some 2 := by decide +kernel
theorem hd_Mo_most : y_Mo_most.cls ≠ "java/lang/invoke/MethodHandle" ∧ y_Mo_most.cls ≠ "java/lang/invoke/VarHandle" ∧ (parseMethodDescriptor y_Mo_most.desc).map (fun d => d.parameters.length) = some 0 := by decide +kernel
set_option maxHeartbeats 4000000 in
set_option maxRecDepth 100000 in
theorem c_M_thrown (l : Launch) (G : GT) (hG : GOK G) (d : DD) : Met l y_Mo_thrown (.code y_Mo_thrown b_Mo_thrown 1 (some .int) :: WS) { frames := 0, cells := 0, slots := 0, locals := 0 } (cPre G [.ref (gad G (600))] d) (cQi G (fun r9 u9 => r9 = d 600 0 ∧ u9 = d)) 0 0 (gAb G) := by
  refine c_start (own := R_Mo) (by decide +kernel) rfl (Nat.le_of_ble_eq_true rfl) ?_
  intro p e zs zm below meth zc ls C hW hl
  obtain ⟨hx, hb, hr, hml, hown, hts, hlk, hE, hbs⟩ := C
  have hK := hE.1
  have hn3 := hG.1
  have hl : lv_has ls 1 [(0, .ref (gad G (600)))] := hl
  refine lv_aload_n hx hb d_Mo_thrown_0 rfl (lv_at hl 0 rfl) ?_
  refine e_get (v := .int (d (600) (0))) hx hb hts hown hK hW (F_Mo G hG) i_Mo rfl 0 (by decide) (hts _ kw_403) (fun _ h => h) rfl d_Mo_thrown_1 ?_
  exact e_iret hx hb hr hlk hW ⟨by exact rfl, by exact rfl⟩ (Nat.zero_le _) (Nat.zero_le _) d_Mo_thrown_4
set_option maxHeartbeats 4000000 in
set_option maxRecDepth 100000 in
theorem c_M_fail (l : Launch) (G : GT) (hG : GOK G) (d : DD) (x : Int32) : Met l y_Mo_fail (.code y_Mo_fail b_Mo_fail 2 (some .int) :: WS) { frames := 0, cells := 0, slots := 0, locals := 0 } (cPre G [.ref (gad G (600)), .int (x)] d) (cQi G (fun r9 u9 => r9 = 0 ∧ u9 = up2 d 600 0 x)) 0 0 (gAb G) := by
  refine c_start (own := R_Mo) (by decide +kernel) rfl (Nat.le_of_ble_eq_true rfl) ?_
  intro p e zs zm below meth zc ls C hW hl
  obtain ⟨hx, hb, hr, hml, hown, hts, hlk, hE, hbs⟩ := C
  have hK := hE.1
  have hn3 := hG.1
  have hl : lv_has ls 2 [(0, .ref (gad G (600))), (1, .int (x))] := hl
  refine lv_aload_n hx hb d_Mo_fail_0 rfl (lv_at hl 0 rfl) ?_
  refine lv_iload_n hx hb d_Mo_fail_1 rfl (lv_at hl 1 rfl) ?_
  refine e_put hx hb hts hown hK hW (F_Mo G hG) i_Mo t_Mo t_Mo_ok n_Mo rfl 0 (by decide) (hts _ kw_403) (fun _ h => h) rfl (by decide +kernel) (fun _ => rfl) (fun _ => rfl) d_Mo_fail_2 (fun H locs hW => ?_)
  refine lv_iconst (v := 0) hx hb d_Mo_fail_5 (by decide) ?_
  exact e_iret hx hb hr hlk hW ⟨by exact rfl, by exact rfl⟩ (Nat.zero_le _) (Nat.zero_le _) d_Mo_fail_6
set_option maxHeartbeats 4000000 in
set_option maxRecDepth 100000 in
theorem c_M_out (l : Launch) (G : GT) (hG : GOK G) (d : DD) (x y : Int32) : Met l y_Mo_out (.code y_Mo_out b_Mo_out 3 (some .boolean) :: WS) { frames := 0, cells := 0, slots := 0, locals := 0 } (cPre G [.ref (gad G (600)), .int (x), .int (y)] d) (cQi G (fun r9 u9 => r9 = outI x y ∧ u9 = d)) 0 0 (gAb G) := by
  refine c_start (own := R_Mo) (by decide +kernel) rfl (Nat.le_of_ble_eq_true rfl) ?_
  intro p e zs zm below meth zc ls C hW hl
  obtain ⟨hx, hb, hr, hml, hown, hts, hlk, hE, hbs⟩ := C
  have hK := hE.1
  have hn3 := hG.1
  have hl : lv_has ls 3 [(0, .ref (gad G (600))), (1, .int (x)), (2, .int (y))] := hl
  refine lv_iload_n hx hb d_Mo_out_0 rfl (lv_at hl 1 rfl) ?_
  refine lv_if_lt (tgt := 9) hx hb d_Mo_out_1 (by decide) (fun c_1 => ?_) (fun c_1 => ?_)
  · skip
    refine lv_iconst (v := 1) hx hb d_Mo_out_9 (by decide) ?_
    refine lv_goto (tgt := 14) hx hb d_Mo_out_10 (by decide) ?_
    exact e_zret hx hb hr hlk hW (by decide) ⟨by unfold outI; rw [if_pos c_1], by exact rfl⟩ (Nat.zero_le _) (Nat.zero_le _) d_Mo_out_14
  · skip
    refine lv_iload_n hx hb d_Mo_out_4 rfl (lv_at hl 1 rfl) ?_
    refine lv_iload_n hx hb d_Mo_out_5 rfl (lv_at hl 2 rfl) ?_
    refine lv_icmp_lt (tgt := 13) hx hb d_Mo_out_6 (by decide) (fun c_2 => ?_) (fun c_2 => ?_)
    · skip
      refine lv_iconst (v := 0) hx hb d_Mo_out_13 (by decide) ?_
      exact e_zret hx hb hr hlk hW (by decide) ⟨by unfold outI; rw [if_neg c_1, if_pos c_2], by exact rfl⟩ (Nat.zero_le _) (Nat.zero_le _) d_Mo_out_14
    · skip
      refine lv_iconst (v := 1) hx hb d_Mo_out_9 (by decide) ?_
      refine lv_goto (tgt := 14) hx hb d_Mo_out_10 (by decide) ?_
      exact e_zret hx hb hr hlk hW (by decide) ⟨by unfold outI; rw [if_neg c_1, if_neg c_2], by exact rfl⟩ (Nat.zero_le _) (Nat.zero_le _) d_Mo_out_14
set_option maxHeartbeats 4000000 in
set_option maxRecDepth 100000 in
theorem c_M_most (l : Launch) (G : GT) (hG : GOK G) (d : DD) : Met l y_Mo_most (.code y_Mo_most b_Mo_most 1 (some .int) :: WS) { frames := 0, cells := 0, slots := 0, locals := 0 } (cPre G [.ref (gad G (600))] d) (cQi G (fun r9 u9 => r9 = mostI (d 600 1) ∧ u9 = d)) 0 0 (gAb G) := by
  refine c_start (own := R_Mo) (by decide +kernel) rfl (Nat.le_of_ble_eq_true rfl) ?_
  intro p e zs zm below meth zc ls C hW hl
  obtain ⟨hx, hb, hr, hml, hown, hts, hlk, hE, hbs⟩ := C
  have hK := hE.1
  have hn3 := hG.1
  have hl : lv_has ls 1 [(0, .ref (gad G (600)))] := hl
  refine lv_aload_n hx hb d_Mo_most_0 rfl (lv_at hl 0 rfl) ?_
  refine e_get (v := .int (d (600) (1))) hx hb hts hown hK hW (F_Mo G hG) i_Mo rfl 1 (by decide) (hts _ kw_404) (fun _ h => h) rfl d_Mo_most_1 ?_
  refine lv_iconst (v := 1) hx hb d_Mo_most_4 (by decide) ?_
  refine lv_icmp_ne (tgt := 12) hx hb d_Mo_most_5 (by decide) (fun c_1 => ?_) (fun c_1 => ?_)
  · skip
    refine lv_iconst (v := 2) hx hb d_Mo_most_12 (by decide) ?_
    exact e_iret hx hb hr hlk hW ⟨by unfold mostI; rw [if_neg c_1], by exact rfl⟩ (Nat.zero_le _) (Nat.zero_le _) d_Mo_most_13
  · skip
    refine lv_iconst (v := 1) hx hb d_Mo_most_8 (by decide) ?_
    refine lv_goto (tgt := 13) hx hb d_Mo_most_9 (by decide) ?_
    exact e_iret hx hb hr hlk hW ⟨by unfold mostI; rw [if_pos c_1], by exact rfl⟩ (Nat.zero_le _) (Nat.zero_le _) d_Mo_most_13
set_option maxHeartbeats 4000000 in
set_option maxRecDepth 100000 in
theorem c_M_member (l : Launch) (G : GT) (hG : GOK G) (d : DD) (t s : Nat) (ht : t < 8) : Met l y_Mo_member (.code y_Mo_member b_Mo_member 3 (some .boolean) :: WS) { frames := 0, cells := 0, slots := 0, locals := 0 } (cPre G [.ref (gad G (600)), .int (nI t), .int (nI s)] d) (cQi G (fun r9 u9 => r9 = memI (d 608 t) s ∧ u9 = d)) 0 0 (gAb G) := by
  refine c_start (own := R_Mo) (by decide +kernel) rfl (Nat.le_of_ble_eq_true rfl) ?_
  intro p e zs zm below meth zc ls C hW hl
  obtain ⟨hx, hb, hr, hml, hown, hts, hlk, hE, hbs⟩ := C
  have hK := hE.1
  have hn3 := hG.1
  have hl : lv_has ls 3 [(0, .ref (gad G (600))), (1, .int (nI t)), (2, .int (nI s))] := hl
  refine lv_aload_n hx hb d_Mo_member_0 rfl (lv_at hl 0 rfl) ?_
  refine e_get (v := .ref (gad G (608))) hx hb hts hown hK hW (F_Mo G hG) i_Mo rfl 8 (by decide) (hts _ kw_405) (fun _ h => h) rfl d_Mo_member_1 ?_
  refine lv_iload_n hx hb d_Mo_member_4 rfl (lv_at hl 1 rfl) ?_
  refine e_iald hx hb hK hW (F_Mmembers G hG) (j := t) ht (x := d (608) (t)) (rfl) rfl d_Mo_member_5 ?_
  refine lv_iload_n hx hb d_Mo_member_6 rfl (lv_at hl 2 rfl) ?_
  refine lv_ishr hx hb d_Mo_member_7 ?_
  refine lv_iconst (v := 1) hx hb d_Mo_member_8 (by decide) ?_
  refine lv_iand hx hb d_Mo_member_9 ?_
  refine lv_if_eq (tgt := 17) hx hb d_Mo_member_10 (by decide) (fun c_1 => ?_) (fun c_1 => ?_)
  · skip
    refine lv_iconst (v := 0) hx hb d_Mo_member_17 (by decide) ?_
    exact e_zret hx hb hr hlk hW (by decide) ⟨by unfold memI; rw [if_pos c_1], by exact rfl⟩ (Nat.zero_le _) (Nat.zero_le _) d_Mo_member_18
  · skip
    refine lv_iconst (v := 1) hx hb d_Mo_member_13 (by decide) ?_
    refine lv_goto (tgt := 18) hx hb d_Mo_member_14 (by decide) ?_
    exact e_zret hx hb hr hlk hW (by decide) ⟨by unfold memI; rw [if_neg c_1], by exact rfl⟩ (Nat.zero_le _) (Nat.zero_le _) d_Mo_member_18
set_option maxHeartbeats 4000000 in
set_option maxRecDepth 100000 in
theorem c_M_ones (l : Launch) (G : GT) (hG : GOK G) (d : DD) (x : Int32) : Met l y_Mo_ones (.code y_Mo_ones b_Mo_ones 4 (some .int) :: WS) { frames := 0, cells := 0, slots := 0, locals := 0 } (cPre G [.ref (gad G (600)), .int (x)] d) (cQi G (fun r9 u9 => r9 = onF x 4 ∧ u9 = d)) 0 0 (gAb G) := by
  refine c_start (own := R_Mo) (by decide +kernel) rfl (Nat.le_of_ble_eq_true rfl) ?_
  intro p e zs zm below meth zc ls C hW hl
  obtain ⟨hx, hb, hr, hml, hown, hts, hlk, hE, hbs⟩ := C
  have hK := hE.1
  have hn3 := hG.1
  have hl : lv_has ls 4 [(0, .ref (gad G (600))), (1, .int (x))] := hl
  refine lv_iconst (v := 0) hx hb d_Mo_ones_0 (by decide) ?_
  refine lv_istore_n (lv' := [(2, .int (0)), (0, .ref (gad G (600))), (1, .int (x))]) hx hb d_Mo_ones_1 rfl hl (by decide) rfl (fun ls hl => ?_)
  refine lv_iconst (v := 0) hx hb d_Mo_ones_2 (by decide) ?_
  refine lv_istore_n (lv' := [(3, .int (0)), (2, .int (0)), (0, .ref (gad G (600))), (1, .int (x))]) hx hb d_Mo_ones_3 rfl hl (by decide) rfl (fun ls hl => ?_)
  have L_4 : ∀ (N k : Nat), k ≤ 4 → 4 + 1 ≤ k + N → ∀ (H : Heap) (locs : List Loc) (ls : Array Slot), WD G zs.heap (d) H locs → lv_has ls 4 [(3, .int (nI k)), (2, .int (onF x k)), (0, .ref (gad G (600))), (1, .int (x))] → W p l e { frames := 0, cells := 0, slots := 0, locals := 0 } zs zm [.ref (gad G (600)), .int (x)].toArray below meth zc H locs 0 0 (MQ below (cQi G (fun r9 u9 => r9 = onF x 4 ∧ u9 = d)) [.ref (gad G (600)), .int (x)].toArray zs 0 0 (gAb G)) (F0 zm 4 ls []) := by
    intro N
    induction N with
    | zero => intro k h1 h2; exact absurd h2 (by omega)
    | succ N ih_k =>
      intro k hi_k hN_k H locs ls hW hl
      refine lv_iload_n hx hb d_Mo_ones_4 rfl (lv_at hl 0 rfl) ?_
      refine lv_iconst (v := 4) hx hb d_Mo_ones_5 (by decide) ?_
      refine lv_icmp_ge (tgt := 23) hx hb d_Mo_ones_6 (by decide) (fun c_1 => ?_) (fun c_1 => ?_)
      · skip
        have e_k : 4 = k := (lp_out rfl (by omega) hi_k c_1).symm
        subst e_k
        refine lv_iload_n hx hb d_Mo_ones_23 rfl (lv_at hl 1 rfl) ?_
        exact e_iret hx hb hr hlk hW ⟨by exact rfl, by exact rfl⟩ (Nat.zero_le _) (Nat.zero_le _) d_Mo_ones_24
      · skip
        have lt_k : k < 4 := lp_in rfl (by omega) hi_k c_1
        refine lv_iload_n hx hb d_Mo_ones_9 rfl (lv_at hl 1 rfl) ?_
        refine lv_iload_n hx hb d_Mo_ones_10 rfl (lv_at hl 3 rfl) ?_
        refine lv_iload_n hx hb d_Mo_ones_11 rfl (lv_at hl 0 rfl) ?_
        refine lv_ishr hx hb d_Mo_ones_12 ?_
        refine lv_iconst (v := 1) hx hb d_Mo_ones_13 (by decide) ?_
        refine lv_iand hx hb d_Mo_ones_14 ?_
        refine lv_iadd hx hb d_Mo_ones_15 ?_
        refine lv_istore_n (lv' := [(2, .int ((onF x k) + (((x) >>> ((nI k) &&& 31)) &&& (1)))), (3, .int (nI k)), (0, .ref (gad G (600))), (1, .int (x))]) hx hb d_Mo_ones_16 rfl hl (by decide) rfl (fun ls hl => ?_)
        refine lv_iinc (v := nI (k + 1)) (lv' := [(3, .int (nI (k + 1))), (2, .int ((onF x k) + (((x) >>> ((nI k) &&& 31)) &&& (1)))), (0, .ref (gad G (600))), (1, .int (x))]) hx hb d_Mo_ones_17 hl (k := 1) rfl (nI_1 (k)) (by decide) rfl (fun ls hl => ?_)
        refine lv_goto (tgt := 4) hx hb d_Mo_ones_20 (by decide) ?_
        exact ih_k (k + 1) (by omega) (by omega) _ _ _ hW (by rw [show onF x (k + 1) = (onF x k) + (((x) >>> ((nI k) &&& 31)) &&& (1)) from rfl]; exact lv_sub hl [0, 1, 2, 3] rfl)
  exact L_4 (4 + 1) 0 (by omega) (by omega) _ _ _ hW (lv_sub hl [0, 1, 2, 3] rfl)
set_option maxHeartbeats 4000000 in
set_option maxRecDepth 100000 in
theorem c_M_send (l : Launch) (G : GT) (hG : GOK G) (d : DD) (kd t s a ld b v : Int32) (hN : MN d) : Met l y_Mo_send (.code y_Mo_send b_Mo_send 9 (some .boolean) :: WS) { frames := 0, cells := 0, slots := 0, locals := 0 } (cPre G [.ref (gad G (600)), .int (kd), .int (t), .int (s), .int (a), .int (ld), .int (b), .int (v)] d) (cQi G (fun r9 u9 => r9 = m_sR d ∧ u9 = m_snd d kd t s a ld b v)) 0 0 (gAb G) := by
  refine c_start (own := R_Mo) (by decide +kernel) rfl (Nat.le_of_ble_eq_true rfl) ?_
  intro p e zs zm below meth zc ls C hW hl
  obtain ⟨hx, hb, hr, hml, hown, hts, hlk, hE, hbs⟩ := C
  have hK := hE.1
  have hn3 := hG.1
  have hl : lv_has ls 9 [(0, .ref (gad G (600))), (1, .int (kd)), (2, .int (t)), (3, .int (s)), (4, .int (a)), (5, .int (ld)), (6, .int (b)), (7, .int (v))] := hl
  obtain ⟨z, hz, fz⟩ := id hN
  refine lv_aload_n hx hb d_Mo_send_0 rfl (lv_at hl 0 rfl) ?_
  refine e_get (v := .int (d (600) (25))) hx hb hts hown hK hW (F_Mo G hG) i_Mo rfl 25 (by decide) (hts _ kw_406) (fun _ h => h) rfl d_Mo_send_1 ?_
  refine e_top (v := nI z) (fz) ?_
  refine lv_bipush (v := 60) hx hb d_Mo_send_4 (by decide) ?_
  refine lv_icmp_ne (tgt := 21) hx hb d_Mo_send_6 (by decide) (fun c_1 => ?_) (fun c_1 => ?_)
  · skip
    have hz9 := m_60 hz c_1
    refine lv_bipush (v := 13) hx hb d_Mo_send_21 (by decide) ?_
    refine lv_aload_n hx hb d_Mo_send_23 rfl (lv_at hl 0 rfl) ?_
    refine e_get (v := .int (d (600) (25))) hx hb hts hown hK hW (F_Mo G hG) i_Mo rfl 25 (by decide) (hts _ kw_406) (fun _ h => h) rfl d_Mo_send_24 ?_
    refine e_top (v := nI z) (fz) ?_
    refine lv_imul hx hb d_Mo_send_27 ?_
    refine e_top (v := nI (13 * z)) (pk_mul (13) (z)) ?_
    refine lv_istore (lv' := [(8, .int (nI (13 * z))), (0, .ref (gad G (600))), (1, .int (kd)), (2, .int (t)), (3, .int (s)), (4, .int (a)), (5, .int (ld)), (6, .int (b)), (7, .int (v))]) hx hb d_Mo_send_28 hl (by decide) rfl (fun ls hl => ?_)
    refine lv_aload_n hx hb d_Mo_send_30 rfl (lv_at hl 1 rfl) ?_
    refine e_get (v := .ref (gad G (624))) hx hb hts hown hK hW (F_Mo G hG) i_Mo rfl 24 (by decide) (hts _ kw_407) (fun _ h => h) rfl d_Mo_send_31 ?_
    refine lv_iload hx hb d_Mo_send_34 (lv_at hl 0 rfl) ?_
    refine lv_iload_n hx hb d_Mo_send_36 rfl (lv_at hl 2 rfl) ?_
    refine e_iast hx hb hK hW (F_Mnet G hG) (j := 13 * z) (by omega) rfl d_Mo_send_37 (fun H locs hW => ?_)
    refine lv_aload_n hx hb d_Mo_send_38 rfl (lv_at hl 1 rfl) ?_
    refine e_get (v := .ref (gad G (624))) hx hb hts hown hK hW (F_Mo G hG) i_Mo rfl 24 (by decide) (hts _ kw_407) (fun _ h => h) rfl d_Mo_send_39 ?_
    refine lv_iload hx hb d_Mo_send_42 (lv_at hl 0 rfl) ?_
    refine lv_iconst (v := 1) hx hb d_Mo_send_44 (by decide) ?_
    refine lv_iadd hx hb d_Mo_send_45 ?_
    refine e_top (v := nI (13 * z + 1)) (nI_add (13 * z) (1)) ?_
    refine lv_iload_n hx hb d_Mo_send_46 rfl (lv_at hl 3 rfl) ?_
    refine e_iast hx hb hK hW (F_Mnet G hG) (j := 13 * z + 1) (by omega) rfl d_Mo_send_47 (fun H locs hW => ?_)
    refine lv_aload_n hx hb d_Mo_send_48 rfl (lv_at hl 1 rfl) ?_
    refine e_get (v := .ref (gad G (624))) hx hb hts hown hK hW (F_Mo G hG) i_Mo rfl 24 (by decide) (hts _ kw_407) (fun _ h => h) rfl d_Mo_send_49 ?_
    refine lv_iload hx hb d_Mo_send_52 (lv_at hl 0 rfl) ?_
    refine lv_iconst (v := 2) hx hb d_Mo_send_54 (by decide) ?_
    refine lv_iadd hx hb d_Mo_send_55 ?_
    refine e_top (v := nI (13 * z + 2)) (nI_add (13 * z) (2)) ?_
    refine lv_iload_n hx hb d_Mo_send_56 rfl (lv_at hl 4 rfl) ?_
    refine e_iast hx hb hK hW (F_Mnet G hG) (j := 13 * z + 2) (by omega) rfl d_Mo_send_57 (fun H locs hW => ?_)
    refine lv_aload_n hx hb d_Mo_send_58 rfl (lv_at hl 1 rfl) ?_
    refine e_get (v := .ref (gad G (624))) hx hb hts hown hK hW (F_Mo G hG) i_Mo rfl 24 (by decide) (hts _ kw_407) (fun _ h => h) rfl d_Mo_send_59 ?_
    refine lv_iload hx hb d_Mo_send_62 (lv_at hl 0 rfl) ?_
    refine lv_iconst (v := 3) hx hb d_Mo_send_64 (by decide) ?_
    refine lv_iadd hx hb d_Mo_send_65 ?_
    refine e_top (v := nI (13 * z + 3)) (nI_add (13 * z) (3)) ?_
    refine lv_iload hx hb d_Mo_send_66 (lv_at hl 5 rfl) ?_
    refine e_iast hx hb hK hW (F_Mnet G hG) (j := 13 * z + 3) (by omega) rfl d_Mo_send_68 (fun H locs hW => ?_)
    refine lv_aload_n hx hb d_Mo_send_69 rfl (lv_at hl 1 rfl) ?_
    refine e_get (v := .ref (gad G (624))) hx hb hts hown hK hW (F_Mo G hG) i_Mo rfl 24 (by decide) (hts _ kw_407) (fun _ h => h) rfl d_Mo_send_70 ?_
    refine lv_iload hx hb d_Mo_send_73 (lv_at hl 0 rfl) ?_
    refine lv_iconst (v := 4) hx hb d_Mo_send_75 (by decide) ?_
    refine lv_iadd hx hb d_Mo_send_76 ?_
    refine e_top (v := nI (13 * z + 4)) (nI_add (13 * z) (4)) ?_
    refine lv_iload hx hb d_Mo_send_77 (lv_at hl 6 rfl) ?_
    refine e_iast hx hb hK hW (F_Mnet G hG) (j := 13 * z + 4) (by omega) rfl d_Mo_send_79 (fun H locs hW => ?_)
    refine lv_aload_n hx hb d_Mo_send_80 rfl (lv_at hl 1 rfl) ?_
    refine e_get (v := .ref (gad G (624))) hx hb hts hown hK hW (F_Mo G hG) i_Mo rfl 24 (by decide) (hts _ kw_407) (fun _ h => h) rfl d_Mo_send_81 ?_
    refine lv_iload hx hb d_Mo_send_84 (lv_at hl 0 rfl) ?_
    refine lv_iconst (v := 5) hx hb d_Mo_send_86 (by decide) ?_
    refine lv_iadd hx hb d_Mo_send_87 ?_
    refine e_top (v := nI (13 * z + 5)) (nI_add (13 * z) (5)) ?_
    refine lv_iload hx hb d_Mo_send_88 (lv_at hl 7 rfl) ?_
    refine e_iast hx hb hK hW (F_Mnet G hG) (j := 13 * z + 5) (by omega) rfl d_Mo_send_90 (fun H locs hW => ?_)
    refine lv_aload_n hx hb d_Mo_send_91 rfl (lv_at hl 1 rfl) ?_
    refine e_get (v := .ref (gad G (624))) hx hb hts hown hK hW (F_Mo G hG) i_Mo rfl 24 (by decide) (hts _ kw_407) (fun _ h => h) rfl d_Mo_send_92 ?_
    refine lv_iload hx hb d_Mo_send_95 (lv_at hl 0 rfl) ?_
    refine lv_bipush (v := 6) hx hb d_Mo_send_97 (by decide) ?_
    refine lv_iadd hx hb d_Mo_send_99 ?_
    refine e_top (v := nI (13 * z + 6)) (nI_add (13 * z) (6)) ?_
    refine lv_iload hx hb d_Mo_send_100 (lv_at hl 8 rfl) ?_
    refine e_iast hx hb hK hW (F_Mnet G hG) (j := 13 * z + 6) (by omega) rfl d_Mo_send_102 (fun H locs hW => ?_)
    refine lv_aload_n hx hb d_Mo_send_103 rfl (lv_at hl 1 rfl) ?_
    refine lv_dup hx hb d_Mo_send_104 rfl ?_
    refine e_get (v := .int ((up2 (up2 (up2 (up2 (up2 (up2 (up2 d (624) (13 * z) (kd)) (624) (13 * z + 1) (t)) (624) (13 * z + 2) (s)) (624) (13 * z + 3) (a)) (624) (13 * z + 4) (ld)) (624) (13 * z + 5) (b)) (624) (13 * z + 6) (v)) (600) (25))) hx hb hts hown hK hW (F_Mo G hG) i_Mo rfl 25 (by decide) (hts _ kw_406) (fun _ h => h) rfl d_Mo_send_105 ?_
    refine e_top (v := nI z) ((up2_nc (by omega)).trans ((up2_nc (by omega)).trans ((up2_nc (by omega)).trans ((up2_nc (by omega)).trans ((up2_nc (by omega)).trans ((up2_nc (by omega)).trans ((up2_nc (by omega)).trans (fz)))))))) ?_
    refine lv_iconst (v := 1) hx hb d_Mo_send_108 (by decide) ?_
    refine lv_iadd hx hb d_Mo_send_109 ?_
    refine e_top (v := nI (z + 1)) (nI_add (z) (1)) ?_
    refine e_put hx hb hts hown hK hW (F_Mo G hG) i_Mo t_Mo t_Mo_ok n_Mo rfl 25 (by decide) (hts _ kw_406) (fun _ h => h) rfl (by decide +kernel) (fun _ => rfl) (fun _ => rfl) d_Mo_send_110 (fun H locs hW => ?_)
    refine lv_iconst (v := 1) hx hb d_Mo_send_113 (by decide) ?_
    exact e_zret hx hb hr hlk hW (by decide) ⟨by unfold m_sR; rw [fz, if_neg c_1], by unfold m_snd; rw [fz, if_neg c_1, cl_nI (show z < 2147483648 by omega)]; exact rfl⟩ (Nat.zero_le _) (Nat.zero_le _) d_Mo_send_114
  · skip
    refine lv_aload_n hx hb d_Mo_send_9 rfl (lv_at hl 0 rfl) ?_
    refine lv_dup hx hb d_Mo_send_10 rfl ?_
    refine e_get (v := .int (d (600) (26))) hx hb hts hown hK hW (F_Mo G hG) i_Mo rfl 26 (by decide) (hts _ kw_408) (fun _ h => h) rfl d_Mo_send_11 ?_
    refine lv_iconst (v := 1) hx hb d_Mo_send_14 (by decide) ?_
    refine lv_iadd hx hb d_Mo_send_15 ?_
    refine e_put hx hb hts hown hK hW (F_Mo G hG) i_Mo t_Mo t_Mo_ok n_Mo rfl 26 (by decide) (hts _ kw_408) (fun _ h => h) rfl (by decide +kernel) (fun _ => rfl) (fun _ => rfl) d_Mo_send_16 (fun H locs hW => ?_)
    refine lv_iconst (v := 0) hx hb d_Mo_send_19 (by decide) ?_
    exact e_zret hx hb hr hlk hW (by decide) ⟨by unfold m_sR; rw [fz, if_pos c_1], by unfold m_snd; rw [fz, if_pos c_1]⟩ (Nat.zero_le _) (Nat.zero_le _) d_Mo_send_20
set_option maxHeartbeats 4000000 in
set_option maxRecDepth 100000 in
theorem c_M_unlock (l : Launch) (G : GT) (hG : GOK G) (d : DD) (t s : Nat) (ht : t < 8) (hs : s < 3) : Met l y_Mo_unlock (.code y_Mo_unlock b_Mo_unlock 4 none :: WS) { frames := 0, cells := 0, slots := 0, locals := 0 } (cPre G [.ref (gad G (600)), .int (nI t), .int (nI s)] d) (cQv G (fun u9 => u9 = lpMU d (nI t) s 4)) 0 0 (gAb G) := by
  refine c_start (own := R_Mo) (by decide +kernel) rfl (Nat.le_of_ble_eq_true rfl) ?_
  intro p e zs zm below meth zc ls C hW hl
  obtain ⟨hx, hb, hr, hml, hown, hts, hlk, hE, hbs⟩ := C
  have hK := hE.1
  have hn3 := hG.1
  have hl : lv_has ls 4 [(0, .ref (gad G (600))), (1, .int (nI t)), (2, .int (nI s))] := hl
  refine lv_iconst (v := 0) hx hb d_Mo_unlock_0 (by decide) ?_
  refine lv_istore_n (lv' := [(3, .int (0)), (0, .ref (gad G (600))), (1, .int (nI t)), (2, .int (nI s))]) hx hb d_Mo_unlock_1 rfl hl (by decide) rfl (fun ls hl => ?_)
  have L_2 : ∀ (N k : Nat), k ≤ 4 → 4 + 1 ≤ k + N → ∀ (H : Heap) (locs : List Loc) (ls : Array Slot), WD G zs.heap (lpMU d (nI t) s k) H locs → lv_has ls 4 [(3, .int (nI k)), (0, .ref (gad G (600))), (1, .int (nI t)), (2, .int (nI s))] → W p l e { frames := 0, cells := 0, slots := 0, locals := 0 } zs zm [.ref (gad G (600)), .int (nI t), .int (nI s)].toArray below meth zc H locs 0 0 (MQ below (cQv G (fun u9 => u9 = lpMU d (nI t) s 4)) [.ref (gad G (600)), .int (nI t), .int (nI s)].toArray zs 0 0 (gAb G)) (F0 zm 2 ls []) := by
    intro N
    induction N with
    | zero => intro k h1 h2; exact absurd h2 (by omega)
    | succ N ih_k =>
      intro k hi_k hN_k H locs ls hW hl
      refine lv_iload_n hx hb d_Mo_unlock_2 rfl (lv_at hl 0 rfl) ?_
      refine lv_iconst (v := 4) hx hb d_Mo_unlock_3 (by decide) ?_
      refine lv_icmp_ge (tgt := 38) hx hb d_Mo_unlock_4 (by decide) (fun c_1 => ?_) (fun c_1 => ?_)
      · skip
        have e_k : 4 = k := (lp_out rfl (by omega) hi_k c_1).symm
        subst e_k
        exact e_vret hx hb hr hlk hW (by exact rfl) (Nat.zero_le _) (Nat.zero_le _) d_Mo_unlock_38
      · skip
        have lt_k : k < 4 := lp_in rfl (by omega) hi_k c_1
        refine lv_aload_n hx hb d_Mo_unlock_7 rfl (lv_at hl 1 rfl) ?_
        refine e_get (v := .ref (gad G (606))) hx hb hts hown hK hW (F_Mo G hG) i_Mo rfl 6 (by decide) (hts _ kw_409) (fun _ h => h) rfl d_Mo_unlock_8 ?_
        refine lv_iconst (v := 4) hx hb d_Mo_unlock_11 (by decide) ?_
        refine lv_iload_n hx hb d_Mo_unlock_12 rfl (lv_at hl 3 rfl) ?_
        refine lv_imul hx hb d_Mo_unlock_13 ?_
        refine e_top (v := nI (4 * s)) (pk_mul (4) (s)) ?_
        refine lv_iload_n hx hb d_Mo_unlock_14 rfl (lv_at hl 0 rfl) ?_
        refine lv_iadd hx hb d_Mo_unlock_15 ?_
        refine e_top (v := nI (4 * s + k)) (nI_add (4 * s) (k)) ?_
        refine e_iald hx hb hK hW (F_Mlock G hG) (j := 4 * s + k) (by omega) (x := (lpMU d (nI t) s k) (606) (4 * s + k)) (rfl) rfl d_Mo_unlock_16 ?_
        refine lv_iload_n hx hb d_Mo_unlock_17 rfl (lv_at hl 2 rfl) ?_
        refine lv_icmp_ne (tgt := 32) hx hb d_Mo_unlock_18 (by decide) (fun c_2 => ?_) (fun c_2 => ?_)
        · skip
          refine lv_iinc (v := nI (k + 1)) (lv' := [(3, .int (nI (k + 1))), (0, .ref (gad G (600))), (1, .int (nI t)), (2, .int (nI s))]) hx hb d_Mo_unlock_32 hl (k := 0) rfl (nI_1 (k)) (by decide) rfl (fun ls hl => ?_)
          refine lv_goto (tgt := 2) hx hb d_Mo_unlock_35 (by decide) ?_
          exact ih_k (k + 1) (by omega) (by omega) _ _ _ (by rw [show lpMU d (nI t) s (k + 1) = (lpMU d (nI t) s k) from if_neg c_2]; exact hW) (lv_sub hl [0, 1, 2, 3] rfl)
        · skip
          refine lv_aload_n hx hb d_Mo_unlock_21 rfl (lv_at hl 1 rfl) ?_
          refine e_get (v := .ref (gad G (606))) hx hb hts hown hK hW (F_Mo G hG) i_Mo rfl 6 (by decide) (hts _ kw_409) (fun _ h => h) rfl d_Mo_unlock_22 ?_
          refine lv_iconst (v := 4) hx hb d_Mo_unlock_25 (by decide) ?_
          refine lv_iload_n hx hb d_Mo_unlock_26 rfl (lv_at hl 3 rfl) ?_
          refine lv_imul hx hb d_Mo_unlock_27 ?_
          refine e_top (v := nI (4 * s)) (pk_mul (4) (s)) ?_
          refine lv_iload_n hx hb d_Mo_unlock_28 rfl (lv_at hl 0 rfl) ?_
          refine lv_iadd hx hb d_Mo_unlock_29 ?_
          refine e_top (v := nI (4 * s + k)) (nI_add (4 * s) (k)) ?_
          refine lv_iconst (v := -1) hx hb d_Mo_unlock_30 (by decide) ?_
          refine e_iast hx hb hK hW (F_Mlock G hG) (j := 4 * s + k) (by omega) rfl d_Mo_unlock_31 (fun H locs hW => ?_)
          refine lv_iinc (v := nI (k + 1)) (lv' := [(3, .int (nI (k + 1))), (0, .ref (gad G (600))), (1, .int (nI t)), (2, .int (nI s))]) hx hb d_Mo_unlock_32 hl (k := 0) rfl (nI_1 (k)) (by decide) rfl (fun ls hl => ?_)
          refine lv_goto (tgt := 2) hx hb d_Mo_unlock_35 (by decide) ?_
          exact ih_k (k + 1) (by omega) (by omega) _ _ _ (by rw [show lpMU d (nI t) s (k + 1) = (up2 (lpMU d (nI t) s k) (606) (4 * s + k) (-1)) from if_pos c_2]; exact hW) (lv_sub hl [0, 1, 2, 3] rfl)
  exact L_2 (4 + 1) 0 (by omega) (by omega) _ _ _ hW (lv_sub hl [0, 1, 2, 3] rfl)
set_option maxHeartbeats 4000000 in
set_option maxRecDepth 100000 in
theorem c_M_abort (l : Launch) (G : GT) (hG : GOK G) (d : DD) (t s : Nat) (ht : t < 8) (hs : s < 3) : Met l y_Mo_abort (.code y_Mo_abort b_Mo_abort 3 none :: WS) { frames := 1, cells := 0, slots := 0, locals := 23 } (cPre G [.ref (gad G (600)), .int (nI t), .int (nI s)] d) (cQv G (fun u9 => u9 = m_abort d t s)) 0 0 (gAb G) := by
  refine c_start (own := R_Mo) (by decide +kernel) rfl (Nat.le_of_ble_eq_true rfl) ?_
  intro p e zs zm below meth zc ls C hW hl
  obtain ⟨hx, hb, hr, hml, hown, hts, hlk, hE, hbs⟩ := C
  have hK := hE.1
  have hn3 := hG.1
  have hl : lv_has ls 3 [(0, .ref (gad G (600))), (1, .int (nI t)), (2, .int (nI s))] := hl
  refine lv_aload_n hx hb d_Mo_abort_0 rfl (lv_at hl 0 rfl) ?_
  refine e_get (v := .ref (gad G (610))) hx hb hts hown hK hW (F_Mo G hG) i_Mo rfl 10 (by decide) (hts _ kw_410) (fun _ h => h) rfl d_Mo_abort_1 ?_
  refine lv_iconst (v := 3) hx hb d_Mo_abort_4 (by decide) ?_
  refine lv_iload_n hx hb d_Mo_abort_5 rfl (lv_at hl 1 rfl) ?_
  refine lv_imul hx hb d_Mo_abort_6 ?_
  refine e_top (v := nI (3 * t)) (pk_mul (3) (t)) ?_
  refine lv_iload_n hx hb d_Mo_abort_7 rfl (lv_at hl 2 rfl) ?_
  refine lv_iadd hx hb d_Mo_abort_8 ?_
  refine e_top (v := nI (3 * t + s)) (nI_add (3 * t) (s)) ?_
  refine lv_iconst (v := 4) hx hb d_Mo_abort_9 (by decide) ?_
  refine e_iast hx hb hK hW (F_Mstate G hG) (j := 3 * t + s) (by omega) rfl d_Mo_abort_10 (fun H locs hW => ?_)
  refine lv_aload_n hx hb d_Mo_abort_11 rfl (lv_at hl 0 rfl) ?_
  refine lv_iload_n hx hb d_Mo_abort_12 rfl (lv_at hl 1 rfl) ?_
  refine lv_iload_n hx hb d_Mo_abort_13 rfl (lv_at hl 2 rfl) ?_
  refine e_cv (e_runV hx hb hml hown hts hE hbs hW (F_Mo G hG) rfl (c_M_unlock l G hG (up2 d (610) (3 * t + s) (4)) t s ht hs) kw_413 kw_414 kw_415 kw_412 kw_411 rfl rfl hd_Mo_unlock ⟨Nat.le_of_ble_eq_true rfl, Nat.le_of_ble_eq_true rfl⟩ (As := [.int (nI t), .int (nI s)]) (rest := []) rfl hl.1 rfl (Nat.le_of_ble_eq_true rfl) d_Mo_abort_14 ⟨Nat.le_of_ble_eq_true rfl, Nat.le_of_ble_eq_true rfl⟩) hW (fun d' H locs hp hW => ?_)
  have hp := hp.symm; subst hp
  exact e_vret hx hb hr hlk hW (by exact rfl) (Nat.zero_le _) (Nat.zero_le _) d_Mo_abort_17
set_option maxHeartbeats 4000000 in
set_option maxRecDepth 100000 in
theorem c_M_proposal (l : Launch) (G : GT) (hG : GOK G) (d : DD) (i s : Nat) (hi : i < 16) (hs : s < 3) : Met l y_Mo_proposal (.code y_Mo_proposal b_Mo_proposal 7 (some .int) :: WS) { frames := 0, cells := 0, slots := 0, locals := 0 } (cPre G [.ref (gad G (600)), .int (nI i), .int (nI s)] d) (cQi G (fun r9 u9 => r9 = prV d i s 3 ∧ u9 = d)) 0 0 (gAb G) := by
  refine c_start (own := R_Mo) (by decide +kernel) rfl (Nat.le_of_ble_eq_true rfl) ?_
  intro p e zs zm below meth zc ls C hW hl
  obtain ⟨hx, hb, hr, hml, hown, hts, hlk, hE, hbs⟩ := C
  have hK := hE.1
  have hn3 := hG.1
  have hl : lv_has ls 7 [(0, .ref (gad G (600))), (1, .int (nI i)), (2, .int (nI s))] := hl
  refine lv_iconst (v := -1) hx hb d_Mo_proposal_0 (by decide) ?_
  refine lv_istore_n (lv' := [(3, .int (-1)), (0, .ref (gad G (600))), (1, .int (nI i)), (2, .int (nI s))]) hx hb d_Mo_proposal_1 rfl hl (by decide) rfl (fun ls hl => ?_)
  refine lv_iconst (v := 0) hx hb d_Mo_proposal_2 (by decide) ?_
  refine lv_istore (lv' := [(4, .int (0)), (3, .int (-1)), (0, .ref (gad G (600))), (1, .int (nI i)), (2, .int (nI s))]) hx hb d_Mo_proposal_3 hl (by decide) rfl (fun ls hl => ?_)
  refine lv_iconst (v := 0) hx hb d_Mo_proposal_5 (by decide) ?_
  refine lv_istore (lv' := [(5, .int (0)), (4, .int (0)), (3, .int (-1)), (0, .ref (gad G (600))), (1, .int (nI i)), (2, .int (nI s))]) hx hb d_Mo_proposal_6 hl (by decide) rfl (fun ls hl => ?_)
  have L_8 : ∀ (N a : Nat), a ≤ 3 → 3 + 1 ≤ a + N → ∀ (H : Heap) (locs : List Loc) (ls : Array Slot), WD G zs.heap (d) H locs → lv_has ls 7 [(5, .int (nI a)), (4, .int (prV d i s a)), (3, .int (prB d i s a)), (0, .ref (gad G (600))), (1, .int (nI i)), (2, .int (nI s))] → W p l e { frames := 0, cells := 0, slots := 0, locals := 0 } zs zm [.ref (gad G (600)), .int (nI i), .int (nI s)].toArray below meth zc H locs 0 0 (MQ below (cQi G (fun r9 u9 => r9 = prV d i s 3 ∧ u9 = d)) [.ref (gad G (600)), .int (nI i), .int (nI s)].toArray zs 0 0 (gAb G)) (F0 zm 8 ls []) := by
    intro N
    induction N with
    | zero => intro a h1 h2; exact absurd h2 (by omega)
    | succ N ih_a =>
      intro a hi_a hN_a H locs ls hW hl
      refine lv_iload hx hb d_Mo_proposal_8 (lv_at hl 0 rfl) ?_
      refine lv_iconst (v := 3) hx hb d_Mo_proposal_10 (by decide) ?_
      refine lv_icmp_ge (tgt := 78) hx hb d_Mo_proposal_11 (by decide) (fun c_1 => ?_) (fun c_1 => ?_)
      · skip
        have e_a : 3 = a := (lp_out rfl (by omega) hi_a c_1).symm
        subst e_a
        refine lv_iload hx hb d_Mo_proposal_78 (lv_at hl 1 rfl) ?_
        exact e_iret hx hb hr hlk hW ⟨by exact rfl, by exact rfl⟩ (Nat.zero_le _) (Nat.zero_le _) d_Mo_proposal_80
      · skip
        have lt_a : a < 3 := lp_in rfl (by omega) hi_a c_1
        refine lv_bipush (v := 9) hx hb d_Mo_proposal_14 (by decide) ?_
        refine lv_iload_n hx hb d_Mo_proposal_16 rfl (lv_at hl 4 rfl) ?_
        refine lv_imul hx hb d_Mo_proposal_17 ?_
        refine e_top (v := nI (9 * i)) (pk_mul (9) (i)) ?_
        refine lv_iconst (v := 3) hx hb d_Mo_proposal_18 (by decide) ?_
        refine lv_iload hx hb d_Mo_proposal_19 (lv_at hl 0 rfl) ?_
        refine lv_imul hx hb d_Mo_proposal_21 ?_
        refine e_top (v := nI (3 * a)) (pk_mul (3) (a)) ?_
        refine lv_iadd hx hb d_Mo_proposal_22 ?_
        refine e_top (v := nI (9 * i + 3 * a)) (nI_add (9 * i) (3 * a)) ?_
        refine lv_iload_n hx hb d_Mo_proposal_23 rfl (lv_at hl 5 rfl) ?_
        refine lv_iadd hx hb d_Mo_proposal_24 ?_
        refine e_top (v := nI (9 * i + 3 * a + s)) (nI_add (9 * i + 3 * a) (s)) ?_
        refine lv_istore (lv' := [(6, .int (nI (9 * i + 3 * a + s))), (5, .int (nI a)), (4, .int (prV d i s a)), (3, .int (prB d i s a)), (0, .ref (gad G (600))), (1, .int (nI i)), (2, .int (nI s))]) hx hb d_Mo_proposal_25 hl (by decide) rfl (fun ls hl => ?_)
        refine lv_aload_n hx hb d_Mo_proposal_27 rfl (lv_at hl 4 rfl) ?_
        refine e_get (v := .ref (gad G (619))) hx hb hts hown hK hW (F_Mo G hG) i_Mo rfl 19 (by decide) (hts _ kw_416) (fun _ h => h) rfl d_Mo_proposal_28 ?_
        refine lv_iconst (v := 3) hx hb d_Mo_proposal_31 (by decide) ?_
        refine lv_iload_n hx hb d_Mo_proposal_32 rfl (lv_at hl 5 rfl) ?_
        refine lv_imul hx hb d_Mo_proposal_33 ?_
        refine e_top (v := nI (3 * i)) (pk_mul (3) (i)) ?_
        refine lv_iload hx hb d_Mo_proposal_34 (lv_at hl 1 rfl) ?_
        refine lv_iadd hx hb d_Mo_proposal_36 ?_
        refine e_top (v := nI (3 * i + a)) (nI_add (3 * i) (a)) ?_
        refine e_zald hx hb hK hW (F_Mreplied G hG) (j := 3 * i + a) (by omega) (x := d (619) (3 * i + a)) (rfl) rfl d_Mo_proposal_37 ?_
        refine lv_if_eq (tgt := 72) hx hb d_Mo_proposal_38 (by decide) (fun c_2 => ?_) (fun c_2 => ?_)
        · skip
          refine lv_iinc (v := nI (a + 1)) (lv' := [(5, .int (nI (a + 1))), (6, .int (nI (9 * i + 3 * a + s))), (4, .int (prV d i s a)), (3, .int (prB d i s a)), (0, .ref (gad G (600))), (1, .int (nI i)), (2, .int (nI s))]) hx hb d_Mo_proposal_72 hl (k := 1) rfl (nI_1 (a)) (by decide) rfl (fun ls hl => ?_)
          refine lv_goto (tgt := 8) hx hb d_Mo_proposal_75 (by decide) ?_
          exact ih_a (a + 1) (by omega) (by omega) _ _ _ hW (by rw [show prB d i s (a + 1) = prB d i s a from if_pos c_2, show prV d i s (a + 1) = prV d i s a from if_pos c_2]; exact lv_sub hl [0, 2, 3, 4, 5, 6] rfl)
        · skip
          refine lv_aload_n hx hb d_Mo_proposal_41 rfl (lv_at hl 4 rfl) ?_
          refine e_get (v := .ref (gad G (620))) hx hb hts hown hK hW (F_Mo G hG) i_Mo rfl 20 (by decide) (hts _ kw_417) (fun _ h => h) rfl d_Mo_proposal_42 ?_
          refine lv_iload hx hb d_Mo_proposal_45 (lv_at hl 0 rfl) ?_
          refine e_iald hx hb hK hW (F_MreplyBallot G hG) (j := 9 * i + 3 * a + s) (by omega) (x := d (620) (9 * i + 3 * a + s)) (rfl) rfl d_Mo_proposal_47 ?_
          refine lv_iload_n hx hb d_Mo_proposal_48 rfl (lv_at hl 3 rfl) ?_
          refine lv_icmp_gt (tgt := 55) hx hb d_Mo_proposal_49 (by decide) (fun c_3 => ?_) (fun c_3 => ?_)
          · skip
            refine lv_aload_n hx hb d_Mo_proposal_55 rfl (lv_at hl 4 rfl) ?_
            refine e_get (v := .ref (gad G (620))) hx hb hts hown hK hW (F_Mo G hG) i_Mo rfl 20 (by decide) (hts _ kw_417) (fun _ h => h) rfl d_Mo_proposal_56 ?_
            refine lv_iload hx hb d_Mo_proposal_59 (lv_at hl 0 rfl) ?_
            refine e_iald hx hb hK hW (F_MreplyBallot G hG) (j := 9 * i + 3 * a + s) (by omega) (x := d (620) (9 * i + 3 * a + s)) (rfl) rfl d_Mo_proposal_61 ?_
            refine lv_istore_n (lv' := [(3, .int (d (620) (9 * i + 3 * a + s))), (6, .int (nI (9 * i + 3 * a + s))), (5, .int (nI a)), (4, .int (prV d i s a)), (0, .ref (gad G (600))), (1, .int (nI i)), (2, .int (nI s))]) hx hb d_Mo_proposal_62 rfl hl (by decide) rfl (fun ls hl => ?_)
            refine lv_aload_n hx hb d_Mo_proposal_63 rfl (lv_at hl 4 rfl) ?_
            refine e_get (v := .ref (gad G (621))) hx hb hts hown hK hW (F_Mo G hG) i_Mo rfl 21 (by decide) (hts _ kw_418) (fun _ h => h) rfl d_Mo_proposal_64 ?_
            refine lv_iload hx hb d_Mo_proposal_67 (lv_at hl 1 rfl) ?_
            refine e_iald hx hb hK hW (F_MreplyVote G hG) (j := 9 * i + 3 * a + s) (by omega) (x := d (621) (9 * i + 3 * a + s)) (rfl) rfl d_Mo_proposal_69 ?_
            refine lv_istore (lv' := [(4, .int (d (621) (9 * i + 3 * a + s))), (3, .int (d (620) (9 * i + 3 * a + s))), (6, .int (nI (9 * i + 3 * a + s))), (5, .int (nI a)), (0, .ref (gad G (600))), (1, .int (nI i)), (2, .int (nI s))]) hx hb d_Mo_proposal_70 hl (by decide) rfl (fun ls hl => ?_)
            refine lv_iinc (v := nI (a + 1)) (lv' := [(5, .int (nI (a + 1))), (4, .int (d (621) (9 * i + 3 * a + s))), (3, .int (d (620) (9 * i + 3 * a + s))), (6, .int (nI (9 * i + 3 * a + s))), (0, .ref (gad G (600))), (1, .int (nI i)), (2, .int (nI s))]) hx hb d_Mo_proposal_72 hl (k := 3) rfl (nI_1 (a)) (by decide) rfl (fun ls hl => ?_)
            refine lv_goto (tgt := 8) hx hb d_Mo_proposal_75 (by decide) ?_
            exact ih_a (a + 1) (by omega) (by omega) _ _ _ hW (by rw [show prB d i s (a + 1) = d (620) (9 * i + 3 * a + s) from (if_neg c_2).trans (if_pos c_3), show prV d i s (a + 1) = d (621) (9 * i + 3 * a + s) from (if_neg c_2).trans (if_pos c_3)]; exact lv_sub hl [0, 1, 2, 4, 5, 6] rfl)
          · skip
            refine lv_goto (tgt := 72) hx hb d_Mo_proposal_52 (by decide) ?_
            refine lv_iinc (v := nI (a + 1)) (lv' := [(5, .int (nI (a + 1))), (6, .int (nI (9 * i + 3 * a + s))), (4, .int (prV d i s a)), (3, .int (prB d i s a)), (0, .ref (gad G (600))), (1, .int (nI i)), (2, .int (nI s))]) hx hb d_Mo_proposal_72 hl (k := 1) rfl (nI_1 (a)) (by decide) rfl (fun ls hl => ?_)
            refine lv_goto (tgt := 8) hx hb d_Mo_proposal_75 (by decide) ?_
            exact ih_a (a + 1) (by omega) (by omega) _ _ _ hW (by rw [show prB d i s (a + 1) = prB d i s a from (if_neg c_2).trans (if_neg c_3), show prV d i s (a + 1) = prV d i s a from (if_neg c_2).trans (if_neg c_3)]; exact lv_sub hl [0, 2, 3, 4, 5, 6] rfl)
  exact L_8 (3 + 1) 0 (by omega) (by omega) _ _ _ hW (lv_sub hl [0, 1, 2, 3, 4, 5] rfl)
set_option maxHeartbeats 4000000 in
set_option maxRecDepth 100000 in
theorem c_M_decided (l : Launch) (G : GT) (hG : GOK G) (d : DD) (i s : Nat) (hi : i < 16) (hs : s < 3) : Met l y_Mo_decided (.code y_Mo_decided b_Mo_decided 8 (some .int) :: WS) { frames := 1, cells := 0, slots := 0, locals := 20 } (cPre G [.ref (gad G (600)), .int (nI i), .int (nI s)] d) (cQi G (fun r9 u9 => r9 = dcF d i s 3 ∧ u9 = d)) 0 0 (gAb G) := by
  refine c_start (own := R_Mo) (by decide +kernel) rfl (Nat.le_of_ble_eq_true rfl) ?_
  intro p e zs zm below meth zc ls C hW hl
  obtain ⟨hx, hb, hr, hml, hown, hts, hlk, hE, hbs⟩ := C
  have hK := hE.1
  have hn3 := hG.1
  have hl : lv_has ls 8 [(0, .ref (gad G (600))), (1, .int (nI i)), (2, .int (nI s))] := hl
  refine lv_iconst (v := 0) hx hb d_Mo_decided_0 (by decide) ?_
  refine lv_istore_n (lv' := [(3, .int (0)), (0, .ref (gad G (600))), (1, .int (nI i)), (2, .int (nI s))]) hx hb d_Mo_decided_1 rfl hl (by decide) rfl (fun ls hl => ?_)
  have L_2 : ∀ (N a : Nat), a ≤ 3 → 3 + 1 ≤ a + N → ∀ (H : Heap) (locs : List Loc) (ls : Array Slot), WD G zs.heap (d) H locs → lv_has ls 8 [(3, .int (nI a)), (0, .ref (gad G (600))), (1, .int (nI i)), (2, .int (nI s))] → (dcF d i s 3 = dcF d i s (3 - a)) → W p l e { frames := 1, cells := 0, slots := 0, locals := 20 } zs zm [.ref (gad G (600)), .int (nI i), .int (nI s)].toArray below meth zc H locs 0 0 (MQ below (cQi G (fun r9 u9 => r9 = dcF d i s 3 ∧ u9 = d)) [.ref (gad G (600)), .int (nI i), .int (nI s)].toArray zs 0 0 (gAb G)) (F0 zm 2 ls []) := by
    intro N
    induction N with
    | zero => intro a h1 h2; exact absurd h2 (by omega)
    | succ N ih_a =>
      intro a hi_a hN_a H locs ls hW hl hv
      refine lv_iload_n hx hb d_Mo_decided_2 rfl (lv_at hl 0 rfl) ?_
      refine lv_iconst (v := 3) hx hb d_Mo_decided_3 (by decide) ?_
      refine lv_icmp_ge (tgt := 120) hx hb d_Mo_decided_4 (by decide) (fun c_1 => ?_) (fun c_1 => ?_)
      · skip
        have e_a : 3 = a := (lp_out rfl (by omega) hi_a c_1).symm
        subst e_a
        refine lv_iconst (v := -1) hx hb d_Mo_decided_120 (by decide) ?_
        exact e_iret hx hb hr hlk hW ⟨(hv.trans (by rw [Nat.sub_self]; rfl)).symm, rfl⟩ (Nat.zero_le _) (Nat.zero_le _) d_Mo_decided_121
      · skip
        have lt_a : a < 3 := lp_in rfl (by omega) hi_a c_1
        refine lv_bipush (v := 9) hx hb d_Mo_decided_7 (by decide) ?_
        refine lv_iload_n hx hb d_Mo_decided_9 rfl (lv_at hl 2 rfl) ?_
        refine lv_imul hx hb d_Mo_decided_10 ?_
        refine e_top (v := nI (9 * i)) (pk_mul (9) (i)) ?_
        refine lv_iconst (v := 3) hx hb d_Mo_decided_11 (by decide) ?_
        refine lv_iload_n hx hb d_Mo_decided_12 rfl (lv_at hl 0 rfl) ?_
        refine lv_imul hx hb d_Mo_decided_13 ?_
        refine e_top (v := nI (3 * a)) (pk_mul (3) (a)) ?_
        refine lv_iadd hx hb d_Mo_decided_14 ?_
        refine e_top (v := nI (9 * i + 3 * a)) (nI_add (9 * i) (3 * a)) ?_
        refine lv_iload_n hx hb d_Mo_decided_15 rfl (lv_at hl 3 rfl) ?_
        refine lv_iadd hx hb d_Mo_decided_16 ?_
        refine e_top (v := nI (9 * i + 3 * a + s)) (nI_add (9 * i + 3 * a) (s)) ?_
        refine lv_istore (lv' := [(4, .int (nI (9 * i + 3 * a + s))), (3, .int (nI a)), (0, .ref (gad G (600))), (1, .int (nI i)), (2, .int (nI s))]) hx hb d_Mo_decided_17 hl (by decide) rfl (fun ls hl => ?_)
        refine lv_iconst (v := 0) hx hb d_Mo_decided_19 (by decide) ?_
        refine lv_istore (lv' := [(5, .int (0)), (4, .int (nI (9 * i + 3 * a + s))), (3, .int (nI a)), (0, .ref (gad G (600))), (1, .int (nI i)), (2, .int (nI s))]) hx hb d_Mo_decided_20 hl (by decide) rfl (fun ls hl => ?_)
        refine lv_iconst (v := 0) hx hb d_Mo_decided_22 (by decide) ?_
        refine lv_istore (lv' := [(6, .int (0)), (5, .int (0)), (4, .int (nI (9 * i + 3 * a + s))), (3, .int (nI a)), (0, .ref (gad G (600))), (1, .int (nI i)), (2, .int (nI s))]) hx hb d_Mo_decided_23 hl (by decide) rfl (fun ls hl => ?_)
        have L_25 : ∀ (N o : Nat), o ≤ 3 → 3 + 1 ≤ o + N → ∀ (H : Heap) (locs : List Loc) (ls : Array Slot), WD G zs.heap (d) H locs → lv_has ls 8 [(6, .int (nI o)), (5, .int (smM d i s (9 * i + 3 * a + s) o)), (4, .int (nI (9 * i + 3 * a + s))), (3, .int (nI a)), (0, .ref (gad G (600))), (1, .int (nI i)), (2, .int (nI s))] → W p l e { frames := 1, cells := 0, slots := 0, locals := 20 } zs zm [.ref (gad G (600)), .int (nI i), .int (nI s)].toArray below meth zc H locs 0 0 (MQ below (cQi G (fun r9 u9 => r9 = dcF d i s 3 ∧ u9 = d)) [.ref (gad G (600)), .int (nI i), .int (nI s)].toArray zs 0 0 (gAb G)) (F0 zm 25 ls []) := by
          intro N
          induction N with
          | zero => intro o h1 h2; exact absurd h2 (by omega)
          | succ N ih_o =>
            intro o hi_o hN_o H locs ls hW hl
            refine lv_iload hx hb d_Mo_decided_25 (lv_at hl 0 rfl) ?_
            refine lv_iconst (v := 3) hx hb d_Mo_decided_27 (by decide) ?_
            refine lv_icmp_ge (tgt := 97) hx hb d_Mo_decided_28 (by decide) (fun c_2 => ?_) (fun c_2 => ?_)
            · skip
              have e_o : 3 = o := (lp_out rfl (by omega) hi_o c_2).symm
              subst e_o
              refine lv_iload hx hb d_Mo_decided_97 (lv_at hl 1 rfl) ?_
              refine lv_aload_n hx hb d_Mo_decided_99 rfl (lv_at hl 4 rfl) ?_
              refine e_ci (e_runV hx hb hml hown hts hE hbs hW (F_Mo G hG) rfl (c_M_most l G hG d ) kw_420 kw_421 kw_422 kw_412 kw_419 rfl rfl hd_Mo_most ⟨Nat.le_of_ble_eq_true rfl, Nat.le_of_ble_eq_true rfl⟩ (As := []) (rest := [.int (smM d i s (9 * i + 3 * a + s) 3)]) rfl hl.1 rfl (Nat.le_of_ble_eq_true rfl) d_Mo_decided_100 ⟨Nat.le_of_ble_eq_true rfl, Nat.le_of_ble_eq_true rfl⟩) hW (fun r d' H locs hp hW => ?_)
              obtain ⟨hp1, hp2⟩ := hp
              have hp1 := hp1.symm; subst hp1
              have hp2 := hp2.symm; subst hp2
              refine lv_icmp_lt (tgt := 114) hx hb d_Mo_decided_103 (by decide) (fun c_3 => ?_) (fun c_3 => ?_)
              · skip
                refine lv_iinc (v := nI (a + 1)) (lv' := [(3, .int (nI (a + 1))), (6, .int (nI 3)), (5, .int (smM d i s (9 * i + 3 * a + s) 3)), (4, .int (nI (9 * i + 3 * a + s))), (0, .ref (gad G (600))), (1, .int (nI i)), (2, .int (nI s))]) hx hb d_Mo_decided_114 hl (k := 3) rfl (nI_1 (a)) (by decide) rfl (fun ls hl => ?_)
                refine lv_goto (tgt := 2) hx hb d_Mo_decided_117 (by decide) ?_
                exact ih_a (a + 1) (by omega) (by omega) _ _ _ hW (lv_sub hl [0, 4, 5, 6] rfl) (hv.trans (dcF_skip lt_a c_3))
              · skip
                refine lv_aload_n hx hb d_Mo_decided_106 rfl (lv_at hl 4 rfl) ?_
                refine e_get (v := .ref (gad G (623))) hx hb hts hown hK hW (F_Mo G hG) i_Mo rfl 23 (by decide) (hts _ kw_423) (fun _ h => h) rfl d_Mo_decided_107 ?_
                refine lv_iload hx hb d_Mo_decided_110 (lv_at hl 2 rfl) ?_
                refine e_iald hx hb hK hW (F_MlatestVote G hG) (j := 9 * i + 3 * a + s) (by omega) (x := d (623) (9 * i + 3 * a + s)) (rfl) rfl d_Mo_decided_112 ?_
                exact e_iret hx hb hr hlk hW ⟨(hv.trans (dcF_hit lt_a c_3)).symm, rfl⟩ (Nat.zero_le _) (Nat.zero_le _) d_Mo_decided_113
            · skip
              have lt_o : o < 3 := lp_in rfl (by omega) hi_o c_2
              refine lv_bipush (v := 9) hx hb d_Mo_decided_31 (by decide) ?_
              refine lv_iload_n hx hb d_Mo_decided_33 rfl (lv_at hl 5 rfl) ?_
              refine lv_imul hx hb d_Mo_decided_34 ?_
              refine e_top (v := nI (9 * i)) (pk_mul (9) (i)) ?_
              refine lv_iconst (v := 3) hx hb d_Mo_decided_35 (by decide) ?_
              refine lv_iload hx hb d_Mo_decided_36 (lv_at hl 0 rfl) ?_
              refine lv_imul hx hb d_Mo_decided_38 ?_
              refine e_top (v := nI (3 * o)) (pk_mul (3) (o)) ?_
              refine lv_iadd hx hb d_Mo_decided_39 ?_
              refine e_top (v := nI (9 * i + 3 * o)) (nI_add (9 * i) (3 * o)) ?_
              refine lv_iload_n hx hb d_Mo_decided_40 rfl (lv_at hl 6 rfl) ?_
              refine lv_iadd hx hb d_Mo_decided_41 ?_
              refine e_top (v := nI (9 * i + 3 * o + s)) (nI_add (9 * i + 3 * o) (s)) ?_
              refine lv_istore (lv' := [(7, .int (nI (9 * i + 3 * o + s))), (6, .int (nI o)), (5, .int (smM d i s (9 * i + 3 * a + s) o)), (4, .int (nI (9 * i + 3 * a + s))), (3, .int (nI a)), (0, .ref (gad G (600))), (1, .int (nI i)), (2, .int (nI s))]) hx hb d_Mo_decided_42 hl (by decide) rfl (fun ls hl => ?_)
              refine lv_aload_n hx hb d_Mo_decided_44 rfl (lv_at hl 5 rfl) ?_
              refine e_get (v := .ref (gad G (622))) hx hb hts hown hK hW (F_Mo G hG) i_Mo rfl 22 (by decide) (hts _ kw_424) (fun _ h => h) rfl d_Mo_decided_45 ?_
              refine lv_iload hx hb d_Mo_decided_48 (lv_at hl 3 rfl) ?_
              refine e_iald hx hb hK hW (F_MlatestBallot G hG) (j := 9 * i + 3 * a + s) (by omega) (x := d (622) (9 * i + 3 * a + s)) (rfl) rfl d_Mo_decided_50 ?_
              refine lv_if_lt (tgt := 91) hx hb d_Mo_decided_51 (by decide) (fun c_4 => ?_) (fun c_4 => ?_)
              · skip
                refine lv_iinc (v := nI (o + 1)) (lv' := [(6, .int (nI (o + 1))), (7, .int (nI (9 * i + 3 * o + s))), (5, .int (smM d i s (9 * i + 3 * a + s) o)), (4, .int (nI (9 * i + 3 * a + s))), (3, .int (nI a)), (0, .ref (gad G (600))), (1, .int (nI i)), (2, .int (nI s))]) hx hb d_Mo_decided_91 hl (k := 1) rfl (nI_1 (o)) (by decide) rfl (fun ls hl => ?_)
                refine lv_goto (tgt := 25) hx hb d_Mo_decided_94 (by decide) ?_
                exact ih_o (o + 1) (by omega) (by omega) _ _ _ hW (by rw [show smM d i s (9 * i + 3 * a + s) (o + 1) = smM d i s (9 * i + 3 * a + s) o from if_pos c_4]; exact lv_sub hl [0, 2, 3, 4, 5, 6, 7] rfl)
              · skip
                refine lv_aload_n hx hb d_Mo_decided_54 rfl (lv_at hl 5 rfl) ?_
                refine e_get (v := .ref (gad G (622))) hx hb hts hown hK hW (F_Mo G hG) i_Mo rfl 22 (by decide) (hts _ kw_424) (fun _ h => h) rfl d_Mo_decided_55 ?_
                refine lv_iload hx hb d_Mo_decided_58 (lv_at hl 0 rfl) ?_
                refine e_iald hx hb hK hW (F_MlatestBallot G hG) (j := 9 * i + 3 * o + s) (by omega) (x := d (622) (9 * i + 3 * o + s)) (rfl) rfl d_Mo_decided_60 ?_
                refine lv_aload_n hx hb d_Mo_decided_61 rfl (lv_at hl 5 rfl) ?_
                refine e_get (v := .ref (gad G (622))) hx hb hts hown hK hW (F_Mo G hG) i_Mo rfl 22 (by decide) (hts _ kw_424) (fun _ h => h) rfl d_Mo_decided_62 ?_
                refine lv_iload hx hb d_Mo_decided_65 (lv_at hl 3 rfl) ?_
                refine e_iald hx hb hK hW (F_MlatestBallot G hG) (j := 9 * i + 3 * a + s) (by omega) (x := d (622) (9 * i + 3 * a + s)) (rfl) rfl d_Mo_decided_67 ?_
                refine lv_icmp_ne (tgt := 91) hx hb d_Mo_decided_68 (by decide) (fun c_5 => ?_) (fun c_5 => ?_)
                · skip
                  refine lv_iinc (v := nI (o + 1)) (lv' := [(6, .int (nI (o + 1))), (7, .int (nI (9 * i + 3 * o + s))), (5, .int (smM d i s (9 * i + 3 * a + s) o)), (4, .int (nI (9 * i + 3 * a + s))), (3, .int (nI a)), (0, .ref (gad G (600))), (1, .int (nI i)), (2, .int (nI s))]) hx hb d_Mo_decided_91 hl (k := 1) rfl (nI_1 (o)) (by decide) rfl (fun ls hl => ?_)
                  refine lv_goto (tgt := 25) hx hb d_Mo_decided_94 (by decide) ?_
                  exact ih_o (o + 1) (by omega) (by omega) _ _ _ hW (by rw [show smM d i s (9 * i + 3 * a + s) (o + 1) = smM d i s (9 * i + 3 * a + s) o from (if_neg c_4).trans (if_neg c_5)]; exact lv_sub hl [0, 2, 3, 4, 5, 6, 7] rfl)
                · skip
                  refine lv_aload_n hx hb d_Mo_decided_71 rfl (lv_at hl 5 rfl) ?_
                  refine e_get (v := .ref (gad G (623))) hx hb hts hown hK hW (F_Mo G hG) i_Mo rfl 23 (by decide) (hts _ kw_423) (fun _ h => h) rfl d_Mo_decided_72 ?_
                  refine lv_iload hx hb d_Mo_decided_75 (lv_at hl 0 rfl) ?_
                  refine e_iald hx hb hK hW (F_MlatestVote G hG) (j := 9 * i + 3 * o + s) (by omega) (x := d (623) (9 * i + 3 * o + s)) (rfl) rfl d_Mo_decided_77 ?_
                  refine lv_aload_n hx hb d_Mo_decided_78 rfl (lv_at hl 5 rfl) ?_
                  refine e_get (v := .ref (gad G (623))) hx hb hts hown hK hW (F_Mo G hG) i_Mo rfl 23 (by decide) (hts _ kw_423) (fun _ h => h) rfl d_Mo_decided_79 ?_
                  refine lv_iload hx hb d_Mo_decided_82 (lv_at hl 3 rfl) ?_
                  refine e_iald hx hb hK hW (F_MlatestVote G hG) (j := 9 * i + 3 * a + s) (by omega) (x := d (623) (9 * i + 3 * a + s)) (rfl) rfl d_Mo_decided_84 ?_
                  refine lv_icmp_ne (tgt := 91) hx hb d_Mo_decided_85 (by decide) (fun c_6 => ?_) (fun c_6 => ?_)
                  · skip
                    refine lv_iinc (v := nI (o + 1)) (lv' := [(6, .int (nI (o + 1))), (7, .int (nI (9 * i + 3 * o + s))), (5, .int (smM d i s (9 * i + 3 * a + s) o)), (4, .int (nI (9 * i + 3 * a + s))), (3, .int (nI a)), (0, .ref (gad G (600))), (1, .int (nI i)), (2, .int (nI s))]) hx hb d_Mo_decided_91 hl (k := 1) rfl (nI_1 (o)) (by decide) rfl (fun ls hl => ?_)
                    refine lv_goto (tgt := 25) hx hb d_Mo_decided_94 (by decide) ?_
                    exact ih_o (o + 1) (by omega) (by omega) _ _ _ hW (by rw [show smM d i s (9 * i + 3 * a + s) (o + 1) = smM d i s (9 * i + 3 * a + s) o from (if_neg c_4).trans ((if_pos c_5).trans (if_neg c_6))]; exact lv_sub hl [0, 2, 3, 4, 5, 6, 7] rfl)
                  · skip
                    refine lv_iinc (v := smM d i s (9 * i + 3 * a + s) o + 1) (lv' := [(5, .int (smM d i s (9 * i + 3 * a + s) o + 1)), (7, .int (nI (9 * i + 3 * o + s))), (6, .int (nI o)), (4, .int (nI (9 * i + 3 * a + s))), (3, .int (nI a)), (0, .ref (gad G (600))), (1, .int (nI i)), (2, .int (nI s))]) hx hb d_Mo_decided_88 hl (k := 2) rfl rfl (by decide) rfl (fun ls hl => ?_)
                    refine lv_iinc (v := nI (o + 1)) (lv' := [(6, .int (nI (o + 1))), (5, .int (smM d i s (9 * i + 3 * a + s) o + 1)), (7, .int (nI (9 * i + 3 * o + s))), (4, .int (nI (9 * i + 3 * a + s))), (3, .int (nI a)), (0, .ref (gad G (600))), (1, .int (nI i)), (2, .int (nI s))]) hx hb d_Mo_decided_91 hl (k := 2) rfl (nI_1 (o)) (by decide) rfl (fun ls hl => ?_)
                    refine lv_goto (tgt := 25) hx hb d_Mo_decided_94 (by decide) ?_
                    exact ih_o (o + 1) (by omega) (by omega) _ _ _ hW (by rw [show smM d i s (9 * i + 3 * a + s) (o + 1) = smM d i s (9 * i + 3 * a + s) o + 1 from (if_neg c_4).trans ((if_pos c_5).trans (if_pos c_6))]; exact lv_sub hl [0, 1, 3, 4, 5, 6, 7] rfl)
        exact L_25 (3 + 1) 0 (by omega) (by omega) _ _ _ hW (lv_sub hl [0, 1, 2, 3, 4, 5, 6] rfl)
  exact L_2 (3 + 1) 0 (by omega) (by omega) _ _ _ hW (lv_sub hl [0, 1, 2, 3] rfl) rfl
