theorem kw_130 : .fieldLink R_Store 18 "PaxosCommit$Store" "states" "[I" ∈ WS := List.mem_filter.mpr ⟨List.mem_append_right _ (List.mem_of_getElem? (i := 121) (by decide +kernel)), by decide +kernel⟩
theorem kw_131 : .fieldLink R_Store 15 "PaxosCommit$Store" "locks" "[I" ∈ WS := List.mem_filter.mpr ⟨List.mem_append_right _ (List.mem_of_getElem? (i := 119) (by decide +kernel)), by decide +kernel⟩
theorem kw_132 : .fieldLink R_Store 21 "PaxosCommit$Store" "written" "[I" ∈ WS := List.mem_filter.mpr ⟨List.mem_append_right _ (List.mem_of_getElem? (i := 123) (by decide +kernel)), by decide +kernel⟩
theorem kw_133 : .code y_PC_with b_PC_with 2 (some .int) ∈ WS := List.mem_filter.mpr ⟨List.mem_append_right _ (List.mem_of_getElem? (i := 379) (by decide +kernel)), by decide +kernel⟩
theorem kw_134 : .static y_PC_with ∈ WS := List.mem_filter.mpr ⟨List.mem_append_right _ (List.mem_of_getElem? (i := 378) (by decide +kernel)), by decide +kernel⟩
theorem kw_135 : .fieldLink R_Store 26 "PaxosCommit$Store" "writes" "[[I" ∈ WS := List.mem_filter.mpr ⟨List.mem_append_right _ (List.mem_of_getElem? (i := 124) (by decide +kernel)), by decide +kernel⟩
theorem kw_136 : .code y_Store_unlock b_Store_unlock 3 none ∈ WS := List.mem_filter.mpr ⟨List.mem_append_right _ (List.mem_of_getElem? (i := 440) (by decide +kernel)), by decide +kernel⟩
theorem kw_137 : .initialized R_Store ∈ WS := List.mem_filter.mpr ⟨List.mem_append_right _ (List.mem_of_getElem? (i := 4) (by decide +kernel)), by decide +kernel⟩
theorem kw_138 : .methodLink R_Store 49 y_Store_unlock ∈ WS := List.mem_filter.mpr ⟨List.mem_append_right _ (List.mem_of_getElem? (i := 437) (by decide +kernel)), by decide +kernel⟩
theorem kw_139 : .instanceMethod y_Store_unlock ∈ WS := List.mem_filter.mpr ⟨List.mem_append_right _ (List.mem_of_getElem? (i := 438) (by decide +kernel)), by decide +kernel⟩
theorem kw_140 : .selects R_Store y_Store_unlock y_Store_unlock ∈ WS := List.mem_filter.mpr ⟨List.mem_append_right _ (List.mem_of_getElem? (i := 439) (by decide +kernel)), by decide +kernel⟩
theorem kw_141 : .code y_PC_has b_PC_has 2 (some .boolean) ∈ WS := List.mem_filter.mpr ⟨List.mem_append_right _ (List.mem_of_getElem? (i := 346) (by decide +kernel)), by decide +kernel⟩
theorem kw_142 : .static y_PC_has ∈ WS := List.mem_filter.mpr ⟨List.mem_append_right _ (List.mem_of_getElem? (i := 345) (by decide +kernel)), by decide +kernel⟩
theorem kw_143 : .fieldLink R_Store 9 "PaxosCommit$Store" "values" "[I" ∈ WS := List.mem_filter.mpr ⟨List.mem_append_right _ (List.mem_of_getElem? (i := 117) (by decide +kernel)), by decide +kernel⟩
theorem kw_144 : .code y_Store_abort b_Store_abort 2 none ∈ WS := List.mem_filter.mpr ⟨List.mem_append_right _ (List.mem_of_getElem? (i := 436) (by decide +kernel)), by decide +kernel⟩
theorem kw_145 : .methodLink R_Store 53 y_Store_abort ∈ WS := List.mem_filter.mpr ⟨List.mem_append_right _ (List.mem_of_getElem? (i := 640) (by decide +kernel)), by decide +kernel⟩
theorem kw_146 : .instanceMethod y_Store_abort ∈ WS := List.mem_filter.mpr ⟨List.mem_append_right _ (List.mem_of_getElem? (i := 434) (by decide +kernel)), by decide +kernel⟩
theorem kw_147 : .selects R_Store y_Store_abort y_Store_abort ∈ WS := List.mem_filter.mpr ⟨List.mem_append_right _ (List.mem_of_getElem? (i := 435) (by decide +kernel)), by decide +kernel⟩
theorem kw_148 : .fieldLink R_Acc 11 "PaxosCommit$Acceptor" "promises" "[[I" ∈ WS := List.mem_filter.mpr ⟨List.mem_append_right _ (List.mem_of_getElem? (i := 144) (by decide +kernel)), by decide +kernel⟩
theorem kw_149 : .fieldLink R_Acc 16 "PaxosCommit$Acceptor" "accepted" "[[I" ∈ WS := List.mem_filter.mpr ⟨List.mem_append_right _ (List.mem_of_getElem? (i := 146) (by decide +kernel)), by decide +kernel⟩
theorem kw_150 : .code y_PC_pack b_PC_pack 2 (some .int) ∈ WS := List.mem_filter.mpr ⟨List.mem_append_right _ (List.mem_of_getElem? (i := 575) (by decide +kernel)), by decide +kernel⟩
theorem kw_151 : .static y_PC_pack ∈ WS := List.mem_filter.mpr ⟨List.mem_append_right _ (List.mem_of_getElem? (i := 574) (by decide +kernel)), by decide +kernel⟩
theorem kw_152 : .fieldLink R_Led 22 "PaxosCommit$Ledger" "hasReply" "[Z" ∈ WS := List.mem_filter.mpr ⟨List.mem_append_right _ (List.mem_of_getElem? (i := 166) (by decide +kernel)), by decide +kernel⟩
theorem kw_153 : .fieldLink R_Led 31 "PaxosCommit$Ledger" "latest" "[[I" ∈ WS := List.mem_filter.mpr ⟨List.mem_append_right _ (List.mem_of_getElem? (i := 168) (by decide +kernel)), by decide +kernel⟩
theorem kw_154 : .fieldLink R_Led 28 "PaxosCommit$Ledger" "replies" "[[I" ∈ WS := List.mem_filter.mpr ⟨List.mem_append_right _ (List.mem_of_getElem? (i := 167) (by decide +kernel)), by decide +kernel⟩
theorem kw_155 : .code y_Led_decidedVote b_Led_decidedVote 7 (some .int) ∈ WS := List.mem_filter.mpr ⟨List.mem_append_right _ (List.mem_of_getElem? (i := 597) (by decide +kernel)), by decide +kernel⟩
theorem kw_156 : .initialized R_Led ∈ WS := List.mem_filter.mpr ⟨List.mem_append_right _ (List.mem_of_getElem? (i := 7) (by decide +kernel)), by decide +kernel⟩
theorem kw_157 : .methodLink R_Led 63 y_Led_decidedVote ∈ WS := List.mem_filter.mpr ⟨List.mem_append_right _ (List.mem_of_getElem? (i := 594) (by decide +kernel)), by decide +kernel⟩
theorem kw_158 : .instanceMethod y_Led_decidedVote ∈ WS := List.mem_filter.mpr ⟨List.mem_append_right _ (List.mem_of_getElem? (i := 595) (by decide +kernel)), by decide +kernel⟩
theorem kw_159 : .selects R_Led y_Led_decidedVote y_Led_decidedVote ∈ WS := List.mem_filter.mpr ⟨List.mem_append_right _ (List.mem_of_getElem? (i := 596) (by decide +kernel)), by decide +kernel⟩
theorem hd_PC_with : y_PC_with.cls ≠ "java/lang/invoke/MethodHandle" ∧ y_PC_with.cls ≠ "java/lang/invoke/VarHandle" ∧ (parseMethodDescriptor y_PC_with.desc).map (fun d => d.parameters.length) = some 2 := by decide +kernel
theorem hd_Store_unlock : y_Store_unlock.cls ≠ "java/lang/invoke/MethodHandle" ∧ y_Store_unlock.cls ≠ "java/lang/invoke/VarHandle" ∧ (parseMethodDescriptor y_Store_unlock.desc).map (fun d => d.parameters.length) = some 1 := by decide +kernel
theorem hd_PC_has : y_PC_has.cls ≠ "java/lang/invoke/MethodHandle" ∧ y_PC_has.cls ≠ "java/lang/invoke/VarHandle" ∧ (parseMethodDescriptor y_PC_has.desc).map (fun d => d.parameters.length) = some 2 := by decide +kernel
theorem hd_Store_abort : y_Store_abort.cls ≠ "java/lang/invoke/MethodHandle" ∧ y_Store_abort.cls ≠ "java/lang/invoke/VarHandle" ∧ (parseMethodDescriptor y_Store_abort.desc).map (fun d => d.parameters.length) = some 1 := by decide +kernel
theorem hd_PC_pack : y_PC_pack.cls ≠ "java/lang/invoke/MethodHandle" ∧ y_PC_pack.cls ≠ "java/lang/invoke/VarHandle" ∧ (parseMethodDescriptor y_PC_pack.desc).map (fun d => d.parameters.length) = some 2 := by decide +kernel
theorem hd_Led_decidedVote : y_Led_decidedVote.cls ≠ "java/lang/invoke/MethodHandle" ∧ y_Led_decidedVote.cls ≠ "java/lang/invoke/VarHandle" ∧ (parseMethodDescriptor y_Led_decidedVote.desc).map (fun d => d.parameters.length) = some 2 := by decide +kernel
set_option maxHeartbeats 4000000 in
set_option maxRecDepth 100000 in
theorem c_has (l : Launch) (G : GT) (hG : GOK G) (d : DD) (i : Nat) (x : Int32) : Met l y_PC_has (.code y_PC_has b_PC_has 2 (some .boolean) :: WS) { frames := 0, cells := 0, slots := 0, locals := 0 } (cPre G [.int (x), .int (nI i)] d) (cQi G (fun r9 u9 => r9 = hasI x i ∧ u9 = d)) 0 0 (gAb G) := by
  refine c_start (own := R_PC) (by decide +kernel) rfl (Nat.le_of_ble_eq_true rfl) ?_
  intro p e zs zm below meth zc ls C hW hl
  obtain ⟨hx, hb, hr, hml, hown, hts, hlk, hE, hbs⟩ := C
  have hK := hE.1
  have hn3 := hG.1
  have hl : lv_has ls 2 [(0, .int (x)), (1, .int (nI i))] := hl
  refine lv_iload_n hx hb d_PC_has_0 rfl (lv_at hl 0 rfl) ?_
  refine lv_iload_n hx hb d_PC_has_1 rfl (lv_at hl 1 rfl) ?_
  refine lv_ishr hx hb d_PC_has_2 ?_
  refine lv_iconst (v := 1) hx hb d_PC_has_3 (by decide) ?_
  refine lv_iand hx hb d_PC_has_4 ?_
  refine lv_iconst (v := 1) hx hb d_PC_has_5 (by decide) ?_
  refine lv_icmp_ne (tgt := 13) hx hb d_PC_has_6 (by decide) (fun c_1 => ?_) (fun c_1 => ?_)
  · skip
    refine lv_iconst (v := 0) hx hb d_PC_has_13 (by decide) ?_
    exact e_zret hx hb hr hlk hW (by decide) ⟨by unfold hasI; rw [if_neg c_1], rfl⟩ (Nat.zero_le _) (Nat.zero_le _) d_PC_has_14
  · skip
    refine lv_iconst (v := 1) hx hb d_PC_has_9 (by decide) ?_
    refine lv_goto (tgt := 14) hx hb d_PC_has_10 (by decide) ?_
    exact e_zret hx hb hr hlk hW (by decide) ⟨by unfold hasI; rw [if_pos c_1], rfl⟩ (Nat.zero_le _) (Nat.zero_le _) d_PC_has_14
set_option maxHeartbeats 4000000 in
set_option maxRecDepth 100000 in
theorem c_with (l : Launch) (G : GT) (hG : GOK G) (d : DD) (i : Nat) (x : Int32) : Met l y_PC_with (.code y_PC_with b_PC_with 2 (some .int) :: WS) { frames := 0, cells := 0, slots := 0, locals := 0 } (cPre G [.int (x), .int (nI i)] d) (cQi G (fun r9 u9 => r9 = withI x i ∧ u9 = d)) 0 0 (gAb G) := by
  refine c_start (own := R_PC) (by decide +kernel) rfl (Nat.le_of_ble_eq_true rfl) ?_
  intro p e zs zm below meth zc ls C hW hl
  obtain ⟨hx, hb, hr, hml, hown, hts, hlk, hE, hbs⟩ := C
  have hK := hE.1
  have hn3 := hG.1
  have hl : lv_has ls 2 [(0, .int (x)), (1, .int (nI i))] := hl
  refine lv_iload_n hx hb d_PC_with_0 rfl (lv_at hl 0 rfl) ?_
  refine lv_iconst (v := 1) hx hb d_PC_with_1 (by decide) ?_
  refine lv_iload_n hx hb d_PC_with_2 rfl (lv_at hl 1 rfl) ?_
  refine lv_ishl hx hb d_PC_with_3 ?_
  refine lv_ior hx hb d_PC_with_4 ?_
  exact e_iret hx hb hr hlk hW ⟨by exact rfl, by exact rfl⟩ (Nat.zero_le _) (Nat.zero_le _) d_PC_with_5
set_option maxHeartbeats 4000000 in
set_option maxRecDepth 100000 in
theorem c_without (l : Launch) (G : GT) (hG : GOK G) (d : DD) (i : Nat) (x : Int32) : Met l y_PC_without (.code y_PC_without b_PC_without 2 (some .int) :: WS) { frames := 0, cells := 0, slots := 0, locals := 0 } (cPre G [.int (x), .int (nI i)] d) (cQi G (fun r9 u9 => r9 = woutI x i ∧ u9 = d)) 0 0 (gAb G) := by
  refine c_start (own := R_PC) (by decide +kernel) rfl (Nat.le_of_ble_eq_true rfl) ?_
  intro p e zs zm below meth zc ls C hW hl
  obtain ⟨hx, hb, hr, hml, hown, hts, hlk, hE, hbs⟩ := C
  have hK := hE.1
  have hn3 := hG.1
  have hl : lv_has ls 2 [(0, .int (x)), (1, .int (nI i))] := hl
  refine lv_iload_n hx hb d_PC_without_0 rfl (lv_at hl 0 rfl) ?_
  refine lv_iconst (v := 1) hx hb d_PC_without_1 (by decide) ?_
  refine lv_iload_n hx hb d_PC_without_2 rfl (lv_at hl 1 rfl) ?_
  refine lv_ishl hx hb d_PC_without_3 ?_
  refine lv_iconst (v := -1) hx hb d_PC_without_4 (by decide) ?_
  refine lv_ixor hx hb d_PC_without_5 ?_
  refine lv_iand hx hb d_PC_without_6 ?_
  exact e_iret hx hb hr hlk hW ⟨by exact rfl, by exact rfl⟩ (Nat.zero_le _) (Nat.zero_le _) d_PC_without_7
set_option maxHeartbeats 4000000 in
set_option maxRecDepth 100000 in
theorem c_pack (l : Launch) (G : GT) (hG : GOK G) (d : DD) (b v : Int32) : Met l y_PC_pack (.code y_PC_pack b_PC_pack 2 (some .int) :: WS) { frames := 0, cells := 0, slots := 0, locals := 0 } (cPre G [.int (b), .int (v)] d) (cQi G (fun r9 u9 => r9 = packI b v ∧ u9 = d)) 0 0 (gAb G) := by
  refine c_start (own := R_PC) (by decide +kernel) rfl (Nat.le_of_ble_eq_true rfl) ?_
  intro p e zs zm below meth zc ls C hW hl
  obtain ⟨hx, hb, hr, hml, hown, hts, hlk, hE, hbs⟩ := C
  have hK := hE.1
  have hn3 := hG.1
  have hl : lv_has ls 2 [(0, .int (b)), (1, .int (v))] := hl
  refine lv_iconst (v := 2) hx hb d_PC_pack_0 (by decide) ?_
  refine lv_iload_n hx hb d_PC_pack_1 rfl (lv_at hl 0 rfl) ?_
  refine lv_imul hx hb d_PC_pack_2 ?_
  refine lv_iload_n hx hb d_PC_pack_3 rfl (lv_at hl 1 rfl) ?_
  refine lv_iadd hx hb d_PC_pack_4 ?_
  exact e_iret hx hb hr hlk hW ⟨by exact rfl, by exact rfl⟩ (Nat.zero_le _) (Nat.zero_le _) d_PC_pack_5
set_option maxHeartbeats 4000000 in
set_option maxRecDepth 100000 in
theorem c_ballotOf (l : Launch) (G : GT) (hG : GOK G) (d : DD) (x : Int32) : Met l y_PC_ballotOf (.code y_PC_ballotOf b_PC_ballotOf 1 (some .int) :: WS) { frames := 0, cells := 0, slots := 0, locals := 0 } (cPre G [.int (x)] d) (cQi G (fun r9 u9 => r9 = balI x ∧ u9 = d)) 0 0 (gAb G) := by
  refine c_start (own := R_PC) (by decide +kernel) rfl (Nat.le_of_ble_eq_true rfl) ?_
  intro p e zs zm below meth zc ls C hW hl
  obtain ⟨hx, hb, hr, hml, hown, hts, hlk, hE, hbs⟩ := C
  have hK := hE.1
  have hn3 := hG.1
  have hl : lv_has ls 1 [(0, .int (x))] := hl
  refine lv_iload_n hx hb d_PC_ballotOf_0 rfl (lv_at hl 0 rfl) ?_
  refine lv_iconst (v := -1) hx hb d_PC_ballotOf_1 (by decide) ?_
  refine lv_icmp_ne (tgt := 9) hx hb d_PC_ballotOf_2 (by decide) (fun c_1 => ?_) (fun c_1 => ?_)
  · skip
    refine lv_iload_n hx hb d_PC_ballotOf_9 rfl (lv_at hl 0 rfl) ?_
    refine lv_iconst (v := 2) hx hb d_PC_ballotOf_10 (by decide) ?_
    refine lv_idiv hx hb d_PC_ballotOf_11 (by decide) ?_
    exact e_iret hx hb hr hlk hW ⟨by unfold balI; rw [if_neg c_1], rfl⟩ (Nat.zero_le _) (Nat.zero_le _) d_PC_ballotOf_12
  · skip
    refine lv_iconst (v := -1) hx hb d_PC_ballotOf_5 (by decide) ?_
    refine lv_goto (tgt := 12) hx hb d_PC_ballotOf_6 (by decide) ?_
    exact e_iret hx hb hr hlk hW ⟨by unfold balI; rw [if_pos c_1], rfl⟩ (Nat.zero_le _) (Nat.zero_le _) d_PC_ballotOf_12
set_option maxHeartbeats 4000000 in
set_option maxRecDepth 100000 in
theorem c_voteOf (l : Launch) (G : GT) (hG : GOK G) (d : DD) (x : Int32) : Met l y_PC_voteOf (.code y_PC_voteOf b_PC_voteOf 1 (some .int) :: WS) { frames := 0, cells := 0, slots := 0, locals := 0 } (cPre G [.int (x)] d) (cQi G (fun r9 u9 => r9 = votI x ∧ u9 = d)) 0 0 (gAb G) := by
  refine c_start (own := R_PC) (by decide +kernel) rfl (Nat.le_of_ble_eq_true rfl) ?_
  intro p e zs zm below meth zc ls C hW hl
  obtain ⟨hx, hb, hr, hml, hown, hts, hlk, hE, hbs⟩ := C
  have hK := hE.1
  have hn3 := hG.1
  have hl : lv_has ls 1 [(0, .int (x))] := hl
  refine lv_iload_n hx hb d_PC_voteOf_0 rfl (lv_at hl 0 rfl) ?_
  refine lv_iconst (v := 2) hx hb d_PC_voteOf_1 (by decide) ?_
  refine lv_irem hx hb d_PC_voteOf_2 (by decide) ?_
  refine lv_if_ne (tgt := 10) hx hb d_PC_voteOf_3 (by decide) (fun c_1 => ?_) (fun c_1 => ?_)
  · skip
    refine lv_iconst (v := 1) hx hb d_PC_voteOf_10 (by decide) ?_
    exact e_iret hx hb hr hlk hW ⟨by unfold votI; rw [if_neg c_1], rfl⟩ (Nat.zero_le _) (Nat.zero_le _) d_PC_voteOf_11
  · skip
    refine lv_iconst (v := 0) hx hb d_PC_voteOf_6 (by decide) ?_
    refine lv_goto (tgt := 11) hx hb d_PC_voteOf_7 (by decide) ?_
    exact e_iret hx hb hr hlk hW ⟨by unfold votI; rw [if_pos c_1], rfl⟩ (Nat.zero_le _) (Nat.zero_le _) d_PC_voteOf_11
set_option maxHeartbeats 4000000 in
set_option maxRecDepth 100000 in
theorem c_Store_keep (l : Launch) (G : GT) (hG : GOK G) (d : DD) (s t k : Nat) (hs : s < 3) (ht : t < 8) (hk : k < 4) (v : Int32) : Met l y_Store_keep (.code y_Store_keep b_Store_keep 4 none :: WS) { frames := 1, cells := 0, slots := 0, locals := 21 } (cPre G [.ref (gad G (s + 10)), .int (nI t), .int (nI k), .int (v)] d) (cQv G (fun u9 => u9 = f_keep d s t k v)) 0 0 (gAb G) := by
  refine c_start (own := R_Store) (by decide +kernel) rfl (Nat.le_of_ble_eq_true rfl) ?_
  intro p e zs zm below meth zc ls C hW hl
  obtain ⟨hx, hb, hr, hml, hown, hts, hlk, hE, hbs⟩ := C
  have hK := hE.1
  have hn3 := hG.1
  have hl : lv_has ls 4 [(0, .ref (gad G (s + 10))), (1, .int (nI t)), (2, .int (nI k)), (3, .int (v))] := hl
  refine lv_aload_n hx hb d_Store_keep_0 rfl (lv_at hl 0 rfl) ?_
  refine e_get (v := .ref (gad G (s + 40))) hx hb hts hown hK hW (F_Store (i0 := s) G hG hs) i_Store rfl 2 (by decide) (hts _ kw_130) (fun _ h => h) rfl d_Store_keep_1 ?_
  refine lv_iload_n hx hb d_Store_keep_4 rfl (lv_at hl 1 rfl) ?_
  refine lv_iconst (v := 1) hx hb d_Store_keep_5 (by decide) ?_
  refine e_iast hx hb hK hW (F_Sta (i0 := s) G hG hs) (j := t) ht rfl d_Store_keep_6 (fun H locs hW => ?_)
  refine lv_aload_n hx hb d_Store_keep_7 rfl (lv_at hl 0 rfl) ?_
  refine e_get (v := .ref (gad G (s + 30))) hx hb hts hown hK hW (F_Store (i0 := s) G hG hs) i_Store rfl 1 (by decide) (hts _ kw_131) (fun _ h => h) rfl d_Store_keep_8 ?_
  refine lv_iload_n hx hb d_Store_keep_11 rfl (lv_at hl 2 rfl) ?_
  refine lv_iload_n hx hb d_Store_keep_12 rfl (lv_at hl 1 rfl) ?_
  refine e_iast hx hb hK hW (F_Loc (i0 := s) G hG hs) (j := k) hk rfl d_Store_keep_13 (fun H locs hW => ?_)
  refine lv_aload_n hx hb d_Store_keep_14 rfl (lv_at hl 0 rfl) ?_
  refine e_get (v := .ref (gad G (s + 50))) hx hb hts hown hK hW (F_Store (i0 := s) G hG hs) i_Store rfl 3 (by decide) (hts _ kw_132) (fun _ h => h) rfl d_Store_keep_15 ?_
  refine lv_iload_n hx hb d_Store_keep_18 rfl (lv_at hl 1 rfl) ?_
  refine lv_aload_n hx hb d_Store_keep_19 rfl (lv_at hl 0 rfl) ?_
  refine e_get (v := .ref (gad G (s + 50))) hx hb hts hown hK hW (F_Store (i0 := s) G hG hs) i_Store rfl 3 (by decide) (hts _ kw_132) (fun _ h => h) rfl d_Store_keep_20 ?_
  refine lv_iload_n hx hb d_Store_keep_23 rfl (lv_at hl 1 rfl) ?_
  refine e_iald hx hb hK hW (F_Wrt (i0 := s) G hG hs) (j := t) ht (x := d (s + 50) (t)) ((up2_nc (by omega)).trans ((up2_nc (by omega)).trans (rfl))) rfl d_Store_keep_24 ?_
  refine lv_iload_n hx hb d_Store_keep_25 rfl (lv_at hl 2 rfl) ?_
  refine e_ci (e_runSN hx hb hml hown hts hE hbs hW (c_with l G hG (up2 (up2 d (s + 40) (t) (1)) (s + 30) (k) (nI t)) k (d (s + 50) (t))) km_1 kw_134 kw_104 kw_133 rfl rfl hd_PC_with ⟨Nat.le_of_ble_eq_true rfl, Nat.le_of_ble_eq_true rfl⟩ (As := [.int (d (s + 50) (t)), .int (nI k)]) (rest := [.int (nI t), .ref (gad G (s + 50))]) rfl hl.1 rfl (Nat.le_of_ble_eq_true rfl) d_Store_keep_26 ⟨Nat.le_of_ble_eq_true rfl, Nat.le_of_ble_eq_true rfl⟩) hW (fun r d' H locs hp hW => ?_)
  obtain ⟨hp1, hp2⟩ := hp
  have hp1 := hp1.symm; subst hp1
  have hp2 := hp2.symm; subst hp2
  refine e_iast hx hb hK hW (F_Wrt (i0 := s) G hG hs) (j := t) ht rfl d_Store_keep_29 (fun H locs hW => ?_)
  refine lv_aload_n hx hb d_Store_keep_30 rfl (lv_at hl 0 rfl) ?_
  refine e_get (v := .ref (gad G (s + 60))) hx hb hts hown hK hW (F_Store (i0 := s) G hG hs) i_Store rfl 4 (by decide) (hts _ kw_135) (fun _ h => h) rfl d_Store_keep_31 ?_
  refine lv_iload_n hx hb d_Store_keep_34 rfl (lv_at hl 1 rfl) ?_
  refine e_aldA hx hb hK hW (F_Wrs (i0 := s) G hG hs) (j := t) ht (q := 8 * s + t + 70) rfl rfl d_Store_keep_35 ?_
  refine lv_iload_n hx hb d_Store_keep_36 rfl (lv_at hl 2 rfl) ?_
  refine lv_iload_n hx hb d_Store_keep_37 rfl (lv_at hl 3 rfl) ?_
  refine e_iast hx hb hK hW (F_Wr (i0 := s) (i1 := t) G hG hs ht) (j := k) hk rfl d_Store_keep_38 (fun H locs hW => ?_)
  exact e_vret hx hb hr hlk hW (by exact rfl) (Nat.zero_le _) (Nat.zero_le _) d_Store_keep_39
set_option maxHeartbeats 4000000 in
set_option maxRecDepth 100000 in
theorem c_Store_unlock (l : Launch) (G : GT) (hG : GOK G) (d : DD) (s t : Nat) (hs : s < 3) (ht : t < 8) : Met l y_Store_unlock (.code y_Store_unlock b_Store_unlock 3 none :: WS) { frames := 0, cells := 0, slots := 0, locals := 0 } (cPre G [.ref (gad G (s + 10)), .int (nI t)] d) (cQv G (fun u9 => u9 = lpUnlock d s (nI t) 4)) 0 0 (gAb G) := by
  refine c_start (own := R_Store) (by decide +kernel) rfl (Nat.le_of_ble_eq_true rfl) ?_
  intro p e zs zm below meth zc ls C hW hl
  obtain ⟨hx, hb, hr, hml, hown, hts, hlk, hE, hbs⟩ := C
  have hK := hE.1
  have hn3 := hG.1
  have hl : lv_has ls 3 [(0, .ref (gad G (s + 10))), (1, .int (nI t))] := hl
  refine lv_iconst (v := 0) hx hb d_Store_unlock_0 (by decide) ?_
  refine lv_istore_n (lv' := [(2, .int (0)), (0, .ref (gad G (s + 10))), (1, .int (nI t))]) hx hb d_Store_unlock_1 rfl hl (by decide) rfl (fun ls hl => ?_)
  have L_2 : ∀ (N k : Nat), k ≤ 4 → 4 + 1 ≤ k + N → ∀ (H : Heap) (locs : List Loc) (ls : Array Slot), WD G zs.heap (lpUnlock d s (nI t) k) H locs → lv_has ls 3 [(2, .int (nI k)), (0, .ref (gad G (s + 10))), (1, .int (nI t))] → W p l e { frames := 0, cells := 0, slots := 0, locals := 0 } zs zm [.ref (gad G (s + 10)), .int (nI t)].toArray below meth zc H locs 0 0 (MQ below (cQv G (fun u9 => u9 = lpUnlock d s (nI t) 4)) [.ref (gad G (s + 10)), .int (nI t)].toArray zs 0 0 (gAb G)) (F0 zm 2 ls []) := by
    intro N
    induction N with
    | zero => intro k h1 h2; exact absurd h2 (by omega)
    | succ N ih_k =>
      intro k hi_k hN_k H locs ls hW hl
      refine lv_iload_n hx hb d_Store_unlock_2 rfl (lv_at hl 0 rfl) ?_
      refine lv_iconst (v := 4) hx hb d_Store_unlock_3 (by decide) ?_
      refine lv_icmp_ge (tgt := 30) hx hb d_Store_unlock_4 (by decide) (fun c_1 => ?_) (fun c_1 => ?_)
      · skip
        have e_k : 4 = k := (lp_out rfl (by omega) hi_k c_1).symm
        subst e_k
        exact e_vret hx hb hr hlk hW (by exact rfl) (Nat.zero_le _) (Nat.zero_le _) d_Store_unlock_30
      · skip
        have lt_k : k < 4 := lp_in rfl (by omega) hi_k c_1
        refine lv_aload_n hx hb d_Store_unlock_7 rfl (lv_at hl 1 rfl) ?_
        refine e_get (v := .ref (gad G (s + 30))) hx hb hts hown hK hW (F_Store (i0 := s) G hG hs) i_Store rfl 1 (by decide) (hts _ kw_131) (fun _ h => h) rfl d_Store_unlock_8 ?_
        refine lv_iload_n hx hb d_Store_unlock_11 rfl (lv_at hl 0 rfl) ?_
        refine e_iald hx hb hK hW (F_Loc (i0 := s) G hG hs) (j := k) (by omega) (x := (lpUnlock d s (nI t) k) (s + 30) (k)) (rfl) rfl d_Store_unlock_12 ?_
        refine lv_iload_n hx hb d_Store_unlock_13 rfl (lv_at hl 2 rfl) ?_
        refine lv_icmp_ne (tgt := 24) hx hb d_Store_unlock_14 (by decide) (fun c_2 => ?_) (fun c_2 => ?_)
        · skip
          refine lv_iinc (v := nI (k + 1)) (lv' := [(2, .int (nI (k + 1))), (0, .ref (gad G (s + 10))), (1, .int (nI t))]) hx hb d_Store_unlock_24 hl (k := 0) rfl (nI_1 (k)) (by decide) rfl (fun ls hl => ?_)
          refine lv_goto (tgt := 2) hx hb d_Store_unlock_27 (by decide) ?_
          exact ih_k (k + 1) (by omega) (by omega) _ _ _ (by rw [show lpUnlock d s (nI t) (k + 1) = (lpUnlock d s (nI t) k) from if_neg c_2]; exact hW) (lv_sub hl [0, 1, 2] rfl)
        · skip
          refine lv_aload_n hx hb d_Store_unlock_17 rfl (lv_at hl 1 rfl) ?_
          refine e_get (v := .ref (gad G (s + 30))) hx hb hts hown hK hW (F_Store (i0 := s) G hG hs) i_Store rfl 1 (by decide) (hts _ kw_131) (fun _ h => h) rfl d_Store_unlock_18 ?_
          refine lv_iload_n hx hb d_Store_unlock_21 rfl (lv_at hl 0 rfl) ?_
          refine lv_iconst (v := -1) hx hb d_Store_unlock_22 (by decide) ?_
          refine e_iast hx hb hK hW (F_Loc (i0 := s) G hG hs) (j := k) (by omega) rfl d_Store_unlock_23 (fun H locs hW => ?_)
          refine lv_iinc (v := nI (k + 1)) (lv' := [(2, .int (nI (k + 1))), (0, .ref (gad G (s + 10))), (1, .int (nI t))]) hx hb d_Store_unlock_24 hl (k := 0) rfl (nI_1 (k)) (by decide) rfl (fun ls hl => ?_)
          refine lv_goto (tgt := 2) hx hb d_Store_unlock_27 (by decide) ?_
          exact ih_k (k + 1) (by omega) (by omega) _ _ _ (by rw [show lpUnlock d s (nI t) (k + 1) = (up2 (lpUnlock d s (nI t) k) (s + 30) (k) (-1)) from if_pos c_2]; exact hW) (lv_sub hl [0, 1, 2] rfl)
  exact L_2 (4 + 1) 0 (by omega) (by omega) _ _ _ hW (lv_sub hl [0, 1, 2] rfl)
set_option maxHeartbeats 4000000 in
set_option maxRecDepth 100000 in
theorem c_Store_abort (l : Launch) (G : GT) (hG : GOK G) (d : DD) (s t : Nat) (hs : s < 3) (ht : t < 8) : Met l y_Store_abort (.code y_Store_abort b_Store_abort 2 none :: WS) { frames := 1, cells := 0, slots := 0, locals := 22 } (cPre G [.ref (gad G (s + 10)), .int (nI t)] d) (cQv G (fun u9 => u9 = f_abort d s t)) 0 0 (gAb G) := by
  refine c_start (own := R_Store) (by decide +kernel) rfl (Nat.le_of_ble_eq_true rfl) ?_
  intro p e zs zm below meth zc ls C hW hl
  obtain ⟨hx, hb, hr, hml, hown, hts, hlk, hE, hbs⟩ := C
  have hK := hE.1
  have hn3 := hG.1
  have hl : lv_has ls 2 [(0, .ref (gad G (s + 10))), (1, .int (nI t))] := hl
  refine lv_aload_n hx hb d_Store_abort_0 rfl (lv_at hl 0 rfl) ?_
  refine e_get (v := .ref (gad G (s + 40))) hx hb hts hown hK hW (F_Store (i0 := s) G hG hs) i_Store rfl 2 (by decide) (hts _ kw_130) (fun _ h => h) rfl d_Store_abort_1 ?_
  refine lv_iload_n hx hb d_Store_abort_4 rfl (lv_at hl 1 rfl) ?_
  refine lv_iconst (v := 4) hx hb d_Store_abort_5 (by decide) ?_
  refine e_iast hx hb hK hW (F_Sta (i0 := s) G hG hs) (j := t) ht rfl d_Store_abort_6 (fun H locs hW => ?_)
  refine lv_aload_n hx hb d_Store_abort_7 rfl (lv_at hl 0 rfl) ?_
  refine lv_iload_n hx hb d_Store_abort_8 rfl (lv_at hl 1 rfl) ?_
  refine e_cv (e_runV hx hb hml hown hts hE hbs hW (F_Store (i0 := s) G hG hs) rfl (c_Store_unlock l G hG (up2 d (s + 40) (t) (4)) s t hs ht) kw_138 kw_139 kw_140 kw_137 kw_136 rfl rfl hd_Store_unlock ⟨Nat.le_of_ble_eq_true rfl, Nat.le_of_ble_eq_true rfl⟩ (As := [.int (nI t)]) (rest := []) rfl hl.1 rfl (Nat.le_of_ble_eq_true rfl) d_Store_abort_9 ⟨Nat.le_of_ble_eq_true rfl, Nat.le_of_ble_eq_true rfl⟩) hW (fun d' H locs hp hW => ?_)
  have hp := hp.symm; subst hp
  exact e_vret hx hb hr hlk hW (by exact rfl) (Nat.zero_le _) (Nat.zero_le _) d_Store_abort_12
set_option maxHeartbeats 4000000 in
set_option maxRecDepth 100000 in
theorem c_Store_commit (l : Launch) (G : GT) (hG : GOK G) (d : DD) (s t : Nat) (hs : s < 3) (ht : t < 8) : Met l y_Store_commit (.code y_Store_commit b_Store_commit 3 none :: WS) { frames := 1, cells := 0, slots := 0, locals := 22 } (cPre G [.ref (gad G (s + 10)), .int (nI t)] d) (cQv G (fun u9 => u9 = f_commit d s t)) 0 0 (gAb G) := by
  refine c_start (own := R_Store) (by decide +kernel) rfl (Nat.le_of_ble_eq_true rfl) ?_
  intro p e zs zm below meth zc ls C hW hl
  obtain ⟨hx, hb, hr, hml, hown, hts, hlk, hE, hbs⟩ := C
  have hK := hE.1
  have hn3 := hG.1
  have hl : lv_has ls 3 [(0, .ref (gad G (s + 10))), (1, .int (nI t))] := hl
  refine lv_iconst (v := 0) hx hb d_Store_commit_0 (by decide) ?_
  refine lv_istore_n (lv' := [(2, .int (0)), (0, .ref (gad G (s + 10))), (1, .int (nI t))]) hx hb d_Store_commit_1 rfl hl (by decide) rfl (fun ls hl => ?_)
  have L_2 : ∀ (N k : Nat), k ≤ 4 → 4 + 1 ≤ k + N → ∀ (H : Heap) (locs : List Loc) (ls : Array Slot), WD G zs.heap (lpCommit d s t k) H locs → lv_has ls 3 [(2, .int (nI k)), (0, .ref (gad G (s + 10))), (1, .int (nI t))] → W p l e { frames := 1, cells := 0, slots := 0, locals := 22 } zs zm [.ref (gad G (s + 10)), .int (nI t)].toArray below meth zc H locs 0 0 (MQ below (cQv G (fun u9 => u9 = f_commit d s t)) [.ref (gad G (s + 10)), .int (nI t)].toArray zs 0 0 (gAb G)) (F0 zm 2 ls []) := by
    intro N
    induction N with
    | zero => intro k h1 h2; exact absurd h2 (by omega)
    | succ N ih_k =>
      intro k hi_k hN_k H locs ls hW hl
      refine lv_iload_n hx hb d_Store_commit_2 rfl (lv_at hl 0 rfl) ?_
      refine lv_iconst (v := 4) hx hb d_Store_commit_3 (by decide) ?_
      refine lv_icmp_ge (tgt := 40) hx hb d_Store_commit_4 (by decide) (fun c_1 => ?_) (fun c_1 => ?_)
      · skip
        have e_k : 4 = k := (lp_out rfl (by omega) hi_k c_1).symm
        subst e_k
        refine lv_aload_n hx hb d_Store_commit_40 rfl (lv_at hl 1 rfl) ?_
        refine e_get (v := .ref (gad G (s + 40))) hx hb hts hown hK hW (F_Store (i0 := s) G hG hs) i_Store rfl 2 (by decide) (hts _ kw_130) (fun _ h => h) rfl d_Store_commit_41 ?_
        refine lv_iload_n hx hb d_Store_commit_44 rfl (lv_at hl 2 rfl) ?_
        refine lv_iconst (v := 3) hx hb d_Store_commit_45 (by decide) ?_
        refine e_iast hx hb hK hW (F_Sta (i0 := s) G hG hs) (j := t) ht rfl d_Store_commit_46 (fun H locs hW => ?_)
        refine lv_aload_n hx hb d_Store_commit_47 rfl (lv_at hl 1 rfl) ?_
        refine lv_iload_n hx hb d_Store_commit_48 rfl (lv_at hl 2 rfl) ?_
        refine e_cv (e_runV hx hb hml hown hts hE hbs hW (F_Store (i0 := s) G hG hs) rfl (c_Store_unlock l G hG (up2 (lpCommit d s t 4) (s + 40) (t) (3)) s t hs ht) kw_138 kw_139 kw_140 kw_137 kw_136 rfl rfl hd_Store_unlock ⟨Nat.le_of_ble_eq_true rfl, Nat.le_of_ble_eq_true rfl⟩ (As := [.int (nI t)]) (rest := []) rfl hl.1 rfl (Nat.le_of_ble_eq_true rfl) d_Store_commit_49 ⟨Nat.le_of_ble_eq_true rfl, Nat.le_of_ble_eq_true rfl⟩) hW (fun d' H locs hp hW => ?_)
        have hp := hp.symm; subst hp
        exact e_vret hx hb hr hlk hW (by exact rfl) (Nat.zero_le _) (Nat.zero_le _) d_Store_commit_52
      · skip
        have lt_k : k < 4 := lp_in rfl (by omega) hi_k c_1
        refine lv_aload_n hx hb d_Store_commit_7 rfl (lv_at hl 1 rfl) ?_
        refine e_get (v := .ref (gad G (s + 50))) hx hb hts hown hK hW (F_Store (i0 := s) G hG hs) i_Store rfl 3 (by decide) (hts _ kw_132) (fun _ h => h) rfl d_Store_commit_8 ?_
        refine lv_iload_n hx hb d_Store_commit_11 rfl (lv_at hl 2 rfl) ?_
        refine e_iald hx hb hK hW (F_Wrt (i0 := s) G hG hs) (j := t) ht (x := (lpCommit d s t k) (s + 50) (t)) (rfl) rfl d_Store_commit_12 ?_
        refine lv_iload_n hx hb d_Store_commit_13 rfl (lv_at hl 0 rfl) ?_
        refine e_ci (e_runSN hx hb hml hown hts hE hbs hW (c_has l G hG (lpCommit d s t k) k ((lpCommit d s t k) (s + 50) (t))) km_8 kw_142 kw_104 kw_141 rfl rfl hd_PC_has ⟨Nat.le_of_ble_eq_true rfl, Nat.le_of_ble_eq_true rfl⟩ (As := [.int ((lpCommit d s t k) (s + 50) (t)), .int (nI k)]) (rest := []) rfl hl.1 rfl (Nat.le_of_ble_eq_true rfl) d_Store_commit_14 ⟨Nat.le_of_ble_eq_true rfl, Nat.le_of_ble_eq_true rfl⟩) hW (fun r d' H locs hp hW => ?_)
        obtain ⟨hp1, hp2⟩ := hp
        have hp1 := hp1.symm; subst hp1
        have hp2 := hp2.symm; subst hp2
        refine lv_if_eq (tgt := 34) hx hb d_Store_commit_17 (by decide) (fun c_2 => ?_) (fun c_2 => ?_)
        · skip
          refine lv_iinc (v := nI (k + 1)) (lv' := [(2, .int (nI (k + 1))), (0, .ref (gad G (s + 10))), (1, .int (nI t))]) hx hb d_Store_commit_34 hl (k := 0) rfl (nI_1 (k)) (by decide) rfl (fun ls hl => ?_)
          refine lv_goto (tgt := 2) hx hb d_Store_commit_37 (by decide) ?_
          exact ih_k (k + 1) (by omega) (by omega) _ _ _ (by rw [show lpCommit d s t (k + 1) = (lpCommit d s t k) from if_pos c_2]; exact hW) (lv_sub hl [0, 1, 2] rfl)
        · skip
          refine lv_aload_n hx hb d_Store_commit_20 rfl (lv_at hl 1 rfl) ?_
          refine e_get (v := .ref (gad G (s + 20))) hx hb hts hown hK hW (F_Store (i0 := s) G hG hs) i_Store rfl 0 (by decide) (hts _ kw_143) (fun _ h => h) rfl d_Store_commit_21 ?_
          refine lv_iload_n hx hb d_Store_commit_24 rfl (lv_at hl 0 rfl) ?_
          refine lv_aload_n hx hb d_Store_commit_25 rfl (lv_at hl 1 rfl) ?_
          refine e_get (v := .ref (gad G (s + 60))) hx hb hts hown hK hW (F_Store (i0 := s) G hG hs) i_Store rfl 4 (by decide) (hts _ kw_135) (fun _ h => h) rfl d_Store_commit_26 ?_
          refine lv_iload_n hx hb d_Store_commit_29 rfl (lv_at hl 2 rfl) ?_
          refine e_aldA hx hb hK hW (F_Wrs (i0 := s) G hG hs) (j := t) ht (q := 8 * s + t + 70) rfl rfl d_Store_commit_30 ?_
          refine lv_iload_n hx hb d_Store_commit_31 rfl (lv_at hl 0 rfl) ?_
          refine e_iald hx hb hK hW (F_Wr (i0 := s) (i1 := t) G hG hs ht) (j := k) (by omega) (x := (lpCommit d s t k) (8 * s + t + 70) (k)) (rfl) rfl d_Store_commit_32 ?_
          refine e_iast hx hb hK hW (F_Val (i0 := s) G hG hs) (j := k) (by omega) rfl d_Store_commit_33 (fun H locs hW => ?_)
          refine lv_iinc (v := nI (k + 1)) (lv' := [(2, .int (nI (k + 1))), (0, .ref (gad G (s + 10))), (1, .int (nI t))]) hx hb d_Store_commit_34 hl (k := 0) rfl (nI_1 (k)) (by decide) rfl (fun ls hl => ?_)
          refine lv_goto (tgt := 2) hx hb d_Store_commit_37 (by decide) ?_
          exact ih_k (k + 1) (by omega) (by omega) _ _ _ (by rw [show lpCommit d s t (k + 1) = (up2 (lpCommit d s t k) (s + 20) (k) ((lpCommit d s t k) (8 * s + t + 70) (k))) from if_neg c_2]; exact hW) (lv_sub hl [0, 1, 2] rfl)
  exact L_2 (4 + 1) 0 (by omega) (by omega) _ _ _ hW (lv_sub hl [0, 1, 2] rfl)
set_option maxHeartbeats 4000000 in
set_option maxRecDepth 100000 in
theorem c_Store_abortWork (l : Launch) (G : GT) (hG : GOK G) (d : DD) (s : Nat) (hs : s < 3) : Met l y_Store_abortWork (.code y_Store_abortWork b_Store_abortWork 2 none :: WS) { frames := 2, cells := 0, slots := 0, locals := 43 } (cPre G [.ref (gad G (s + 10))] d) (cQv G (fun u9 => u9 = lpAW d s 8)) 0 0 (gAb G) := by
  refine c_start (own := R_Store) (by decide +kernel) rfl (Nat.le_of_ble_eq_true rfl) ?_
  intro p e zs zm below meth zc ls C hW hl
  obtain ⟨hx, hb, hr, hml, hown, hts, hlk, hE, hbs⟩ := C
  have hK := hE.1
  have hn3 := hG.1
  have hl : lv_has ls 2 [(0, .ref (gad G (s + 10)))] := hl
  refine lv_iconst (v := 0) hx hb d_Store_abortWork_0 (by decide) ?_
  refine lv_istore_n (lv' := [(1, .int (0)), (0, .ref (gad G (s + 10)))]) hx hb d_Store_abortWork_1 rfl hl (by decide) rfl (fun ls hl => ?_)
  have L_2 : ∀ (N t : Nat), t ≤ 8 → 8 + 1 ≤ t + N → ∀ (H : Heap) (locs : List Loc) (ls : Array Slot), WD G zs.heap (lpAW d s t) H locs → lv_has ls 2 [(1, .int (nI t)), (0, .ref (gad G (s + 10)))] → W p l e { frames := 2, cells := 0, slots := 0, locals := 43 } zs zm [.ref (gad G (s + 10))].toArray below meth zc H locs 0 0 (MQ below (cQv G (fun u9 => u9 = lpAW d s 8)) [.ref (gad G (s + 10))].toArray zs 0 0 (gAb G)) (F0 zm 2 ls []) := by
    intro N
    induction N with
    | zero => intro t h1 h2; exact absurd h2 (by omega)
    | succ N ih_t =>
      intro t hi_t hN_t H locs ls hW hl
      refine lv_iload_n hx hb d_Store_abortWork_2 rfl (lv_at hl 0 rfl) ?_
      refine lv_bipush (v := 8) hx hb d_Store_abortWork_3 (by decide) ?_
      refine lv_icmp_ge (tgt := 29) hx hb d_Store_abortWork_5 (by decide) (fun c_1 => ?_) (fun c_1 => ?_)
      · skip
        have e_t : 8 = t := (lp_out rfl (by omega) hi_t c_1).symm
        subst e_t
        exact e_vret hx hb hr hlk hW (by exact rfl) (Nat.zero_le _) (Nat.zero_le _) d_Store_abortWork_29
      · skip
        have lt_t : t < 8 := lp_in rfl (by omega) hi_t c_1
        refine lv_aload_n hx hb d_Store_abortWork_8 rfl (lv_at hl 1 rfl) ?_
        refine e_get (v := .ref (gad G (s + 40))) hx hb hts hown hK hW (F_Store (i0 := s) G hG hs) i_Store rfl 2 (by decide) (hts _ kw_130) (fun _ h => h) rfl d_Store_abortWork_9 ?_
        refine lv_iload_n hx hb d_Store_abortWork_12 rfl (lv_at hl 0 rfl) ?_
        refine e_iald hx hb hK hW (F_Sta (i0 := s) G hG hs) (j := t) (by omega) (x := (lpAW d s t) (s + 40) (t)) (rfl) rfl d_Store_abortWork_13 ?_
        refine lv_iconst (v := 1) hx hb d_Store_abortWork_14 (by decide) ?_
        refine lv_icmp_ne (tgt := 23) hx hb d_Store_abortWork_15 (by decide) (fun c_2 => ?_) (fun c_2 => ?_)
        · skip
          refine lv_iinc (v := nI (t + 1)) (lv' := [(1, .int (nI (t + 1))), (0, .ref (gad G (s + 10)))]) hx hb d_Store_abortWork_23 hl (k := 0) rfl (nI_1 (t)) (by decide) rfl (fun ls hl => ?_)
          refine lv_goto (tgt := 2) hx hb d_Store_abortWork_26 (by decide) ?_
          exact ih_t (t + 1) (by omega) (by omega) _ _ _ (by rw [show lpAW d s (t + 1) = (lpAW d s t) from if_neg c_2]; exact hW) (lv_sub hl [0, 1] rfl)
        · skip
          refine lv_aload_n hx hb d_Store_abortWork_18 rfl (lv_at hl 1 rfl) ?_
          refine lv_iload_n hx hb d_Store_abortWork_19 rfl (lv_at hl 0 rfl) ?_
          refine e_cv (e_runV hx hb hml hown hts hE hbs hW (F_Store (i0 := s) G hG hs) rfl (c_Store_abort l G hG (lpAW d s t) s t hs (by omega)) kw_145 kw_146 kw_147 kw_137 kw_144 rfl rfl hd_Store_abort ⟨Nat.le_of_ble_eq_true rfl, Nat.le_of_ble_eq_true rfl⟩ (As := [.int (nI t)]) (rest := []) rfl hl.1 rfl (Nat.le_of_ble_eq_true rfl) d_Store_abortWork_20 ⟨Nat.le_of_ble_eq_true rfl, Nat.le_of_ble_eq_true rfl⟩) hW (fun d' H locs hp hW => ?_)
          have hp := hp.symm; subst hp
          refine lv_iinc (v := nI (t + 1)) (lv' := [(1, .int (nI (t + 1))), (0, .ref (gad G (s + 10)))]) hx hb d_Store_abortWork_23 hl (k := 0) rfl (nI_1 (t)) (by decide) rfl (fun ls hl => ?_)
          refine lv_goto (tgt := 2) hx hb d_Store_abortWork_26 (by decide) ?_
          exact ih_t (t + 1) (by omega) (by omega) _ _ _ (by rw [show lpAW d s (t + 1) = (f_abort (lpAW d s t) s t) from if_pos c_2]; exact hW) (lv_sub hl [0, 1] rfl)
  exact L_2 (8 + 1) 0 (by omega) (by omega) _ _ _ hW (lv_sub hl [0, 1] rfl)
set_option maxHeartbeats 4000000 in
set_option maxRecDepth 100000 in
theorem c_Store_isLocked (l : Launch) (G : GT) (hG : GOK G) (d : DD) (s t k : Nat) (hs : s < 3) (ht : t < 8) (hk : k < 4) : Met l y_Store_isLockedByAnother (.code y_Store_isLockedByAnother b_Store_isLockedByAnother 3 (some .boolean) :: WS) { frames := 0, cells := 0, slots := 0, locals := 0 } (cPre G [.ref (gad G (s + 10)), .int (nI t), .int (nI k)] d) (cQi G (fun r9 u9 => r9 = lockedI d s t k ∧ u9 = d)) 0 0 (gAb G) := by
  refine c_start (own := R_Store) (by decide +kernel) rfl (Nat.le_of_ble_eq_true rfl) ?_
  intro p e zs zm below meth zc ls C hW hl
  obtain ⟨hx, hb, hr, hml, hown, hts, hlk, hE, hbs⟩ := C
  have hK := hE.1
  have hn3 := hG.1
  have hl : lv_has ls 3 [(0, .ref (gad G (s + 10))), (1, .int (nI t)), (2, .int (nI k))] := hl
  refine lv_aload_n hx hb d_Store_isLockedByAnother_0 rfl (lv_at hl 0 rfl) ?_
  refine e_get (v := .ref (gad G (s + 30))) hx hb hts hown hK hW (F_Store (i0 := s) G hG hs) i_Store rfl 1 (by decide) (hts _ kw_131) (fun _ h => h) rfl d_Store_isLockedByAnother_1 ?_
  refine lv_iload_n hx hb d_Store_isLockedByAnother_4 rfl (lv_at hl 2 rfl) ?_
  refine e_iald hx hb hK hW (F_Loc (i0 := s) G hG hs) (j := k) hk (x := d (s + 30) (k)) (rfl) rfl d_Store_isLockedByAnother_5 ?_
  refine lv_iconst (v := -1) hx hb d_Store_isLockedByAnother_6 (by decide) ?_
  refine lv_icmp_eq (tgt := 24) hx hb d_Store_isLockedByAnother_7 (by decide) (fun c_1 => ?_) (fun c_1 => ?_)
  · skip
    refine lv_iconst (v := 0) hx hb d_Store_isLockedByAnother_24 (by decide) ?_
    exact e_zret hx hb hr hlk hW (by decide) ⟨by unfold lockedI; rw [if_pos c_1], rfl⟩ (Nat.zero_le _) (Nat.zero_le _) d_Store_isLockedByAnother_25
  · skip
    refine lv_aload_n hx hb d_Store_isLockedByAnother_10 rfl (lv_at hl 0 rfl) ?_
    refine e_get (v := .ref (gad G (s + 30))) hx hb hts hown hK hW (F_Store (i0 := s) G hG hs) i_Store rfl 1 (by decide) (hts _ kw_131) (fun _ h => h) rfl d_Store_isLockedByAnother_11 ?_
    refine lv_iload_n hx hb d_Store_isLockedByAnother_14 rfl (lv_at hl 2 rfl) ?_
    refine e_iald hx hb hK hW (F_Loc (i0 := s) G hG hs) (j := k) hk (x := d (s + 30) (k)) (rfl) rfl d_Store_isLockedByAnother_15 ?_
    refine lv_iload_n hx hb d_Store_isLockedByAnother_16 rfl (lv_at hl 1 rfl) ?_
    refine lv_icmp_eq (tgt := 24) hx hb d_Store_isLockedByAnother_17 (by decide) (fun c_2 => ?_) (fun c_2 => ?_)
    · skip
      refine lv_iconst (v := 0) hx hb d_Store_isLockedByAnother_24 (by decide) ?_
      exact e_zret hx hb hr hlk hW (by decide) ⟨by unfold lockedI; rw [if_neg c_1, if_pos c_2], rfl⟩ (Nat.zero_le _) (Nat.zero_le _) d_Store_isLockedByAnother_25
    · skip
      refine lv_iconst (v := 1) hx hb d_Store_isLockedByAnother_20 (by decide) ?_
      refine lv_goto (tgt := 25) hx hb d_Store_isLockedByAnother_21 (by decide) ?_
      exact e_zret hx hb hr hlk hW (by decide) ⟨by unfold lockedI; rw [if_neg c_1, if_neg c_2], rfl⟩ (Nat.zero_le _) (Nat.zero_le _) d_Store_isLockedByAnother_25
set_option maxHeartbeats 4000000 in
set_option maxRecDepth 100000 in
theorem c_Store_isOpen (l : Launch) (G : GT) (hG : GOK G) (d : DD) (s t : Nat) (hs : s < 3) (ht : t < 8) : Met l y_Store_isOpenFor (.code y_Store_isOpenFor b_Store_isOpenFor 2 (some .boolean) :: WS) { frames := 0, cells := 0, slots := 0, locals := 0 } (cPre G [.ref (gad G (s + 10)), .int (nI t)] d) (cQi G (fun r9 u9 => r9 = openI d s t ∧ u9 = d)) 0 0 (gAb G) := by
  refine c_start (own := R_Store) (by decide +kernel) rfl (Nat.le_of_ble_eq_true rfl) ?_
  intro p e zs zm below meth zc ls C hW hl
  obtain ⟨hx, hb, hr, hml, hown, hts, hlk, hE, hbs⟩ := C
  have hK := hE.1
  have hn3 := hG.1
  have hl : lv_has ls 2 [(0, .ref (gad G (s + 10))), (1, .int (nI t))] := hl
  refine lv_aload_n hx hb d_Store_isOpenFor_0 rfl (lv_at hl 0 rfl) ?_
  refine e_get (v := .ref (gad G (s + 40))) hx hb hts hown hK hW (F_Store (i0 := s) G hG hs) i_Store rfl 2 (by decide) (hts _ kw_130) (fun _ h => h) rfl d_Store_isOpenFor_1 ?_
  refine lv_iload_n hx hb d_Store_isOpenFor_4 rfl (lv_at hl 1 rfl) ?_
  refine e_iald hx hb hK hW (F_Sta (i0 := s) G hG hs) (j := t) ht (x := d (s + 40) (t)) (rfl) rfl d_Store_isOpenFor_5 ?_
  refine lv_if_eq (tgt := 19) hx hb d_Store_isOpenFor_6 (by decide) (fun c_1 => ?_) (fun c_1 => ?_)
  · skip
    refine lv_iconst (v := 1) hx hb d_Store_isOpenFor_19 (by decide) ?_
    refine lv_goto (tgt := 24) hx hb d_Store_isOpenFor_20 (by decide) ?_
    exact e_zret hx hb hr hlk hW (by decide) ⟨by unfold openI; rw [if_pos c_1], rfl⟩ (Nat.zero_le _) (Nat.zero_le _) d_Store_isOpenFor_24
  · skip
    refine lv_aload_n hx hb d_Store_isOpenFor_9 rfl (lv_at hl 0 rfl) ?_
    refine e_get (v := .ref (gad G (s + 40))) hx hb hts hown hK hW (F_Store (i0 := s) G hG hs) i_Store rfl 2 (by decide) (hts _ kw_130) (fun _ h => h) rfl d_Store_isOpenFor_10 ?_
    refine lv_iload_n hx hb d_Store_isOpenFor_13 rfl (lv_at hl 1 rfl) ?_
    refine e_iald hx hb hK hW (F_Sta (i0 := s) G hG hs) (j := t) ht (x := d (s + 40) (t)) (rfl) rfl d_Store_isOpenFor_14 ?_
    refine lv_iconst (v := 1) hx hb d_Store_isOpenFor_15 (by decide) ?_
    refine lv_icmp_ne (tgt := 23) hx hb d_Store_isOpenFor_16 (by decide) (fun c_2 => ?_) (fun c_2 => ?_)
    · skip
      refine lv_iconst (v := 0) hx hb d_Store_isOpenFor_23 (by decide) ?_
      exact e_zret hx hb hr hlk hW (by decide) ⟨by unfold openI; rw [if_neg c_1, if_neg c_2], rfl⟩ (Nat.zero_le _) (Nat.zero_le _) d_Store_isOpenFor_24
    · skip
      refine lv_iconst (v := 1) hx hb d_Store_isOpenFor_19 (by decide) ?_
      refine lv_goto (tgt := 24) hx hb d_Store_isOpenFor_20 (by decide) ?_
      exact e_zret hx hb hr hlk hW (by decide) ⟨by unfold openI; rw [if_neg c_1, if_pos c_2], rfl⟩ (Nat.zero_le _) (Nat.zero_le _) d_Store_isOpenFor_24
set_option maxHeartbeats 4000000 in
set_option maxRecDepth 100000 in
theorem c_Acc_above (l : Launch) (G : GT) (hG : GOK G) (d : DD) (a t : Nat) (ha : a < gn G) (ht : t < 8) (mem b : Int32) : Met l y_Acc_hasPromisedAbove (.code y_Acc_hasPromisedAbove b_Acc_hasPromisedAbove 6 (some .boolean) :: WS) { frames := 1, cells := 0, slots := 0, locals := 21 } (cPre G [.ref (gad G (a + 100)), .int (nI t), .int (mem), .int (b)] d) (cQi G (fun r9 u9 => r9 = abvI d a t mem b 3 ∧ u9 = d)) 0 0 (gAb G) := by
  refine c_start (own := R_Acc) (by decide +kernel) rfl (Nat.le_of_ble_eq_true rfl) ?_
  intro p e zs zm below meth zc ls C hW hl
  obtain ⟨hx, hb, hr, hml, hown, hts, hlk, hE, hbs⟩ := C
  have hK := hE.1
  have hn3 := hG.1
  have hl : lv_has ls 6 [(0, .ref (gad G (a + 100))), (1, .int (nI t)), (2, .int (mem)), (3, .int (b))] := hl
  refine lv_iconst (v := 0) hx hb d_Acc_hasPromisedAbove_0 (by decide) ?_
  refine lv_istore (lv' := [(4, .int (0)), (0, .ref (gad G (a + 100))), (1, .int (nI t)), (2, .int (mem)), (3, .int (b))]) hx hb d_Acc_hasPromisedAbove_1 hl (by decide) rfl (fun ls hl => ?_)
  refine lv_iconst (v := 0) hx hb d_Acc_hasPromisedAbove_3 (by decide) ?_
  refine lv_istore (lv' := [(5, .int (0)), (4, .int (0)), (0, .ref (gad G (a + 100))), (1, .int (nI t)), (2, .int (mem)), (3, .int (b))]) hx hb d_Acc_hasPromisedAbove_4 hl (by decide) rfl (fun ls hl => ?_)
  have L_6 : ∀ (N i : Nat), i ≤ 3 → 3 + 1 ≤ i + N → ∀ (H : Heap) (locs : List Loc) (ls : Array Slot), WD G zs.heap (d) H locs → lv_has ls 6 [(5, .int (nI i)), (4, .int (abvI d a t mem b i)), (0, .ref (gad G (a + 100))), (1, .int (nI t)), (2, .int (mem)), (3, .int (b))] → W p l e { frames := 1, cells := 0, slots := 0, locals := 21 } zs zm [.ref (gad G (a + 100)), .int (nI t), .int (mem), .int (b)].toArray below meth zc H locs 0 0 (MQ below (cQi G (fun r9 u9 => r9 = abvI d a t mem b 3 ∧ u9 = d)) [.ref (gad G (a + 100)), .int (nI t), .int (mem), .int (b)].toArray zs 0 0 (gAb G)) (F0 zm 6 ls []) := by
    intro N
    induction N with
    | zero => intro i h1 h2; exact absurd h2 (by omega)
    | succ N ih_i =>
      intro i hi_i hN_i H locs ls hW hl
      refine lv_iload hx hb d_Acc_hasPromisedAbove_6 (lv_at hl 0 rfl) ?_
      refine lv_iconst (v := 3) hx hb d_Acc_hasPromisedAbove_8 (by decide) ?_
      refine lv_icmp_ge (tgt := 43) hx hb d_Acc_hasPromisedAbove_9 (by decide) (fun c_1 => ?_) (fun c_1 => ?_)
      · skip
        have e_i : 3 = i := (lp_out rfl (by omega) hi_i c_1).symm
        subst e_i
        refine lv_iload hx hb d_Acc_hasPromisedAbove_43 (lv_at hl 1 rfl) ?_
        exact e_zret hx hb hr hlk hW (abvI_01 _ _ _ _ _ _) ⟨by exact rfl, by exact rfl⟩ (Nat.zero_le _) (Nat.zero_le _) d_Acc_hasPromisedAbove_45
      · skip
        have lt_i : i < 3 := lp_in rfl (by omega) hi_i c_1
        refine lv_iload_n hx hb d_Acc_hasPromisedAbove_12 rfl (lv_at hl 4 rfl) ?_
        refine lv_iload hx hb d_Acc_hasPromisedAbove_13 (lv_at hl 0 rfl) ?_
        refine e_ci (e_runSN hx hb hml hown hts hE hbs hW (c_has l G hG d i (mem)) km_2 kw_142 kw_104 kw_141 rfl rfl hd_PC_has ⟨Nat.le_of_ble_eq_true rfl, Nat.le_of_ble_eq_true rfl⟩ (As := [.int (mem), .int (nI i)]) (rest := []) rfl hl.1 rfl (Nat.le_of_ble_eq_true rfl) d_Acc_hasPromisedAbove_15 ⟨Nat.le_of_ble_eq_true rfl, Nat.le_of_ble_eq_true rfl⟩) hW (fun r d' H locs hp hW => ?_)
        obtain ⟨hp1, hp2⟩ := hp
        have hp1 := hp1.symm; subst hp1
        have hp2 := hp2.symm; subst hp2
        refine lv_if_eq (tgt := 37) hx hb d_Acc_hasPromisedAbove_18 (by decide) (fun c_2 => ?_) (fun c_2 => ?_)
        · skip
          refine lv_iinc (v := nI (i + 1)) (lv' := [(5, .int (nI (i + 1))), (4, .int (abvI d a t mem b i)), (0, .ref (gad G (a + 100))), (1, .int (nI t)), (2, .int (mem)), (3, .int (b))]) hx hb d_Acc_hasPromisedAbove_37 hl (k := 0) rfl (nI_1 (i)) (by decide) rfl (fun ls hl => ?_)
          refine lv_goto (tgt := 6) hx hb d_Acc_hasPromisedAbove_40 (by decide) ?_
          exact ih_i (i + 1) (by omega) (by omega) _ _ _ hW (by rw [show abvI d a t mem b (i + 1) = abvI d a t mem b i from if_pos c_2]; exact lv_sub hl [0, 1, 2, 3, 4, 5] rfl)
        · skip
          refine lv_aload_n hx hb d_Acc_hasPromisedAbove_21 rfl (lv_at hl 2 rfl) ?_
          refine e_get (v := .ref (gad G (a + 110))) hx hb hts hown hK hW (F_Acc (i0 := a) G hG ha) i_Acc rfl 0 (by decide) (hts _ kw_148) (fun _ h => h) rfl d_Acc_hasPromisedAbove_22 ?_
          refine lv_iload_n hx hb d_Acc_hasPromisedAbove_25 rfl (lv_at hl 3 rfl) ?_
          refine e_aldA hx hb hK hW (F_Pro (i0 := a) G hG ha) (j := t) ht (q := 8 * a + t + 130) rfl rfl d_Acc_hasPromisedAbove_26 ?_
          refine lv_iload hx hb d_Acc_hasPromisedAbove_27 (lv_at hl 0 rfl) ?_
          refine e_iald hx hb hK hW (F_PrR (i0 := a) (i1 := t) G hG ha ht) (j := i) (by omega) (x := d (8 * a + t + 130) (i)) (rfl) rfl d_Acc_hasPromisedAbove_29 ?_
          refine lv_iload_n hx hb d_Acc_hasPromisedAbove_30 rfl (lv_at hl 5 rfl) ?_
          refine lv_icmp_le (tgt := 37) hx hb d_Acc_hasPromisedAbove_31 (by decide) (fun c_3 => ?_) (fun c_3 => ?_)
          · skip
            refine lv_iinc (v := nI (i + 1)) (lv' := [(5, .int (nI (i + 1))), (4, .int (abvI d a t mem b i)), (0, .ref (gad G (a + 100))), (1, .int (nI t)), (2, .int (mem)), (3, .int (b))]) hx hb d_Acc_hasPromisedAbove_37 hl (k := 0) rfl (nI_1 (i)) (by decide) rfl (fun ls hl => ?_)
            refine lv_goto (tgt := 6) hx hb d_Acc_hasPromisedAbove_40 (by decide) ?_
            exact ih_i (i + 1) (by omega) (by omega) _ _ _ hW (by rw [show abvI d a t mem b (i + 1) = abvI d a t mem b i from (if_neg c_2).trans (if_pos c_3)]; exact lv_sub hl [0, 1, 2, 3, 4, 5] rfl)
          · skip
            refine lv_iconst (v := 1) hx hb d_Acc_hasPromisedAbove_34 (by decide) ?_
            refine lv_istore (lv' := [(4, .int (1)), (5, .int (nI i)), (0, .ref (gad G (a + 100))), (1, .int (nI t)), (2, .int (mem)), (3, .int (b))]) hx hb d_Acc_hasPromisedAbove_35 hl (by decide) rfl (fun ls hl => ?_)
            refine lv_iinc (v := nI (i + 1)) (lv' := [(5, .int (nI (i + 1))), (4, .int (1)), (0, .ref (gad G (a + 100))), (1, .int (nI t)), (2, .int (mem)), (3, .int (b))]) hx hb d_Acc_hasPromisedAbove_37 hl (k := 1) rfl (nI_1 (i)) (by decide) rfl (fun ls hl => ?_)
            refine lv_goto (tgt := 6) hx hb d_Acc_hasPromisedAbove_40 (by decide) ?_
            exact ih_i (i + 1) (by omega) (by omega) _ _ _ hW (by rw [show abvI d a t mem b (i + 1) = 1 from (if_neg c_2).trans (if_neg c_3)]; exact lv_sub hl [0, 1, 2, 3, 4, 5] rfl)
  exact L_6 (3 + 1) 0 (by omega) (by omega) _ _ _ hW (lv_sub hl [0, 1, 2, 3, 4, 5] rfl)
set_option maxHeartbeats 4000000 in
set_option maxRecDepth 100000 in
theorem c_Acc_promise (l : Launch) (G : GT) (hG : GOK G) (d : DD) (a t : Nat) (ha : a < gn G) (ht : t < 8) (mem b : Int32) : Met l y_Acc_promise (.code y_Acc_promise b_Acc_promise 5 none :: WS) { frames := 1, cells := 0, slots := 0, locals := 21 } (cPre G [.ref (gad G (a + 100)), .int (nI t), .int (mem), .int (b)] d) (cQv G (fun u9 => u9 = lpProm d a t mem b 3)) 0 0 (gAb G) := by
  refine c_start (own := R_Acc) (by decide +kernel) rfl (Nat.le_of_ble_eq_true rfl) ?_
  intro p e zs zm below meth zc ls C hW hl
  obtain ⟨hx, hb, hr, hml, hown, hts, hlk, hE, hbs⟩ := C
  have hK := hE.1
  have hn3 := hG.1
  have hl : lv_has ls 5 [(0, .ref (gad G (a + 100))), (1, .int (nI t)), (2, .int (mem)), (3, .int (b))] := hl
  refine lv_iconst (v := 0) hx hb d_Acc_promise_0 (by decide) ?_
  refine lv_istore (lv' := [(4, .int (0)), (0, .ref (gad G (a + 100))), (1, .int (nI t)), (2, .int (mem)), (3, .int (b))]) hx hb d_Acc_promise_1 hl (by decide) rfl (fun ls hl => ?_)
  have L_3 : ∀ (N i : Nat), i ≤ 3 → 3 + 1 ≤ i + N → ∀ (H : Heap) (locs : List Loc) (ls : Array Slot), WD G zs.heap (lpProm d a t mem b i) H locs → lv_has ls 5 [(4, .int (nI i)), (0, .ref (gad G (a + 100))), (1, .int (nI t)), (2, .int (mem)), (3, .int (b))] → W p l e { frames := 1, cells := 0, slots := 0, locals := 21 } zs zm [.ref (gad G (a + 100)), .int (nI t), .int (mem), .int (b)].toArray below meth zc H locs 0 0 (MQ below (cQv G (fun u9 => u9 = lpProm d a t mem b 3)) [.ref (gad G (a + 100)), .int (nI t), .int (mem), .int (b)].toArray zs 0 0 (gAb G)) (F0 zm 3 ls []) := by
    intro N
    induction N with
    | zero => intro i h1 h2; exact absurd h2 (by omega)
    | succ N ih_i =>
      intro i hi_i hN_i H locs ls hW hl
      refine lv_iload hx hb d_Acc_promise_3 (lv_at hl 0 rfl) ?_
      refine lv_iconst (v := 3) hx hb d_Acc_promise_5 (by decide) ?_
      refine lv_icmp_ge (tgt := 34) hx hb d_Acc_promise_6 (by decide) (fun c_1 => ?_) (fun c_1 => ?_)
      · skip
        have e_i : 3 = i := (lp_out rfl (by omega) hi_i c_1).symm
        subst e_i
        exact e_vret hx hb hr hlk hW (by exact rfl) (Nat.zero_le _) (Nat.zero_le _) d_Acc_promise_34
      · skip
        have lt_i : i < 3 := lp_in rfl (by omega) hi_i c_1
        refine lv_iload_n hx hb d_Acc_promise_9 rfl (lv_at hl 3 rfl) ?_
        refine lv_iload hx hb d_Acc_promise_10 (lv_at hl 0 rfl) ?_
        refine e_ci (e_runSN hx hb hml hown hts hE hbs hW (c_has l G hG (lpProm d a t mem b i) i (mem)) km_2 kw_142 kw_104 kw_141 rfl rfl hd_PC_has ⟨Nat.le_of_ble_eq_true rfl, Nat.le_of_ble_eq_true rfl⟩ (As := [.int (mem), .int (nI i)]) (rest := []) rfl hl.1 rfl (Nat.le_of_ble_eq_true rfl) d_Acc_promise_12 ⟨Nat.le_of_ble_eq_true rfl, Nat.le_of_ble_eq_true rfl⟩) hW (fun r d' H locs hp hW => ?_)
        obtain ⟨hp1, hp2⟩ := hp
        have hp1 := hp1.symm; subst hp1
        have hp2 := hp2.symm; subst hp2
        refine lv_if_eq (tgt := 28) hx hb d_Acc_promise_15 (by decide) (fun c_2 => ?_) (fun c_2 => ?_)
        · skip
          refine lv_iinc (v := nI (i + 1)) (lv' := [(4, .int (nI (i + 1))), (0, .ref (gad G (a + 100))), (1, .int (nI t)), (2, .int (mem)), (3, .int (b))]) hx hb d_Acc_promise_28 hl (k := 0) rfl (nI_1 (i)) (by decide) rfl (fun ls hl => ?_)
          refine lv_goto (tgt := 3) hx hb d_Acc_promise_31 (by decide) ?_
          exact ih_i (i + 1) (by omega) (by omega) _ _ _ (by rw [show lpProm d a t mem b (i + 1) = (lpProm d a t mem b i) from if_pos c_2]; exact hW) (lv_sub hl [0, 1, 2, 3, 4] rfl)
        · skip
          refine lv_aload_n hx hb d_Acc_promise_18 rfl (lv_at hl 1 rfl) ?_
          refine e_get (v := .ref (gad G (a + 110))) hx hb hts hown hK hW (F_Acc (i0 := a) G hG ha) i_Acc rfl 0 (by decide) (hts _ kw_148) (fun _ h => h) rfl d_Acc_promise_19 ?_
          refine lv_iload_n hx hb d_Acc_promise_22 rfl (lv_at hl 2 rfl) ?_
          refine e_aldA hx hb hK hW (F_Pro (i0 := a) G hG ha) (j := t) ht (q := 8 * a + t + 130) rfl rfl d_Acc_promise_23 ?_
          refine lv_iload hx hb d_Acc_promise_24 (lv_at hl 0 rfl) ?_
          refine lv_iload_n hx hb d_Acc_promise_26 rfl (lv_at hl 4 rfl) ?_
          refine e_iast hx hb hK hW (F_PrR (i0 := a) (i1 := t) G hG ha ht) (j := i) (by omega) rfl d_Acc_promise_27 (fun H locs hW => ?_)
          refine lv_iinc (v := nI (i + 1)) (lv' := [(4, .int (nI (i + 1))), (0, .ref (gad G (a + 100))), (1, .int (nI t)), (2, .int (mem)), (3, .int (b))]) hx hb d_Acc_promise_28 hl (k := 0) rfl (nI_1 (i)) (by decide) rfl (fun ls hl => ?_)
          refine lv_goto (tgt := 3) hx hb d_Acc_promise_31 (by decide) ?_
          exact ih_i (i + 1) (by omega) (by omega) _ _ _ (by rw [show lpProm d a t mem b (i + 1) = (up2 (lpProm d a t mem b i) (8 * a + t + 130) (i) (b)) from if_neg c_2]; exact hW) (lv_sub hl [0, 1, 2, 3, 4] rfl)
  exact L_3 (3 + 1) 0 (by omega) (by omega) _ _ _ hW (lv_sub hl [0, 1, 2, 3, 4] rfl)
set_option maxHeartbeats 4000000 in
set_option maxRecDepth 100000 in
theorem c_Acc_accept (l : Launch) (G : GT) (hG : GOK G) (d : DD) (a t s : Nat) (ha : a < gn G) (ht : t < 8) (hs : s < 3) (b v : Int32) : Met l y_Acc_accept (.code y_Acc_accept b_Acc_accept 5 none :: WS) { frames := 1, cells := 0, slots := 0, locals := 21 } (cPre G [.ref (gad G (a + 100)), .int (nI t), .int (nI s), .int (b), .int (v)] d) (cQv G (fun u9 => u9 = f_accept d a t s b v)) 0 0 (gAb G) := by
  refine c_start (own := R_Acc) (by decide +kernel) rfl (Nat.le_of_ble_eq_true rfl) ?_
  intro p e zs zm below meth zc ls C hW hl
  obtain ⟨hx, hb, hr, hml, hown, hts, hlk, hE, hbs⟩ := C
  have hK := hE.1
  have hn3 := hG.1
  have hl : lv_has ls 5 [(0, .ref (gad G (a + 100))), (1, .int (nI t)), (2, .int (nI s)), (3, .int (b)), (4, .int (v))] := hl
  refine lv_aload_n hx hb d_Acc_accept_0 rfl (lv_at hl 0 rfl) ?_
  refine e_get (v := .ref (gad G (a + 110))) hx hb hts hown hK hW (F_Acc (i0 := a) G hG ha) i_Acc rfl 0 (by decide) (hts _ kw_148) (fun _ h => h) rfl d_Acc_accept_1 ?_
  refine lv_iload_n hx hb d_Acc_accept_4 rfl (lv_at hl 1 rfl) ?_
  refine e_aldA hx hb hK hW (F_Pro (i0 := a) G hG ha) (j := t) ht (q := 8 * a + t + 130) rfl rfl d_Acc_accept_5 ?_
  refine lv_iload_n hx hb d_Acc_accept_6 rfl (lv_at hl 2 rfl) ?_
  refine lv_iload_n hx hb d_Acc_accept_7 rfl (lv_at hl 3 rfl) ?_
  refine e_iast hx hb hK hW (F_PrR (i0 := a) (i1 := t) G hG ha ht) (j := s) hs rfl d_Acc_accept_8 (fun H locs hW => ?_)
  refine lv_aload_n hx hb d_Acc_accept_9 rfl (lv_at hl 0 rfl) ?_
  refine e_get (v := .ref (gad G (a + 120))) hx hb hts hown hK hW (F_Acc (i0 := a) G hG ha) i_Acc rfl 1 (by decide) (hts _ kw_149) (fun _ h => h) rfl d_Acc_accept_10 ?_
  refine lv_iload_n hx hb d_Acc_accept_13 rfl (lv_at hl 1 rfl) ?_
  refine e_aldA hx hb hK hW (F_Tak (i0 := a) G hG ha) (j := t) ht (q := 8 * a + t + 160) rfl rfl d_Acc_accept_14 ?_
  refine lv_iload_n hx hb d_Acc_accept_15 rfl (lv_at hl 2 rfl) ?_
  refine lv_iload_n hx hb d_Acc_accept_16 rfl (lv_at hl 3 rfl) ?_
  refine lv_iload hx hb d_Acc_accept_17 (lv_at hl 4 rfl) ?_
  refine e_ci (e_runSN hx hb hml hown hts hE hbs hW (c_pack l G hG (up2 d (8 * a + t + 130) (s) (b)) (b) (v)) km_5 kw_151 kw_104 kw_150 rfl rfl hd_PC_pack ⟨Nat.le_of_ble_eq_true rfl, Nat.le_of_ble_eq_true rfl⟩ (As := [.int (b), .int (v)]) (rest := [.int (nI s), .ref (gad G (8 * a + t + 160))]) rfl hl.1 rfl (Nat.le_of_ble_eq_true rfl) d_Acc_accept_19 ⟨Nat.le_of_ble_eq_true rfl, Nat.le_of_ble_eq_true rfl⟩) hW (fun r d' H locs hp hW => ?_)
  obtain ⟨hp1, hp2⟩ := hp
  have hp1 := hp1.symm; subst hp1
  have hp2 := hp2.symm; subst hp2
  refine e_iast hx hb hK hW (F_TkR (i0 := a) (i1 := t) G hG ha ht) (j := s) hs rfl d_Acc_accept_22 (fun H locs hW => ?_)
  exact e_vret hx hb hr hlk hW (by exact rfl) (Nat.zero_le _) (Nat.zero_le _) d_Acc_accept_23
set_option maxHeartbeats 4000000 in
set_option maxRecDepth 100000 in
theorem c_Led_drop (l : Launch) (G : GT) (hG : GOK G) (d : DD) (i : Nat) (hi : i < 16) : Met l y_Led_dropReplies (.code y_Led_dropReplies b_Led_dropReplies 2 none :: WS) { frames := 0, cells := 0, slots := 0, locals := 0 } (cPre G [.ref (gad G (i + 200))] d) (cQv G (fun u9 => u9 = lpDrop d i (gn G))) 0 0 (gAb G) := by
  refine c_start (own := R_Led) (by decide +kernel) rfl (Nat.le_of_ble_eq_true rfl) ?_
  intro p e zs zm below meth zc ls C hW hl
  obtain ⟨hx, hb, hr, hml, hown, hts, hlk, hE, hbs⟩ := C
  have hK := hE.1
  have hn3 := hG.1
  have hl : lv_has ls 2 [(0, .ref (gad G (i + 200)))] := hl
  refine lv_iconst (v := 0) hx hb d_Led_dropReplies_0 (by decide) ?_
  refine lv_istore_n (lv' := [(1, .int (0)), (0, .ref (gad G (i + 200)))]) hx hb d_Led_dropReplies_1 rfl hl (by decide) rfl (fun ls hl => ?_)
  have L_2 : ∀ (N a : Nat), a ≤ gn G → gn G + 1 ≤ a + N → ∀ (H : Heap) (locs : List Loc) (ls : Array Slot), WD G zs.heap (lpDrop d i a) H locs → lv_has ls 2 [(1, .int (nI a)), (0, .ref (gad G (i + 200)))] → W p l e { frames := 0, cells := 0, slots := 0, locals := 0 } zs zm [.ref (gad G (i + 200))].toArray below meth zc H locs 0 0 (MQ below (cQv G (fun u9 => u9 = lpDrop d i (gn G))) [.ref (gad G (i + 200))].toArray zs 0 0 (gAb G)) (F0 zm 2 ls []) := by
    intro N
    induction N with
    | zero => intro a h1 h2; exact absurd h2 (by omega)
    | succ N ih_a =>
      intro a hi_a hN_a H locs ls hW hl
      refine lv_iload_n hx hb d_Led_dropReplies_2 rfl (lv_at hl 0 rfl) ?_
      refine lv_aload_n hx hb d_Led_dropReplies_3 rfl (lv_at hl 1 rfl) ?_
      refine e_get (v := .ref (gad G (i + 220))) hx hb hts hown hK hW (F_Led (i0 := i) G hG hi) i_Led rfl 3 (by decide) (hts _ kw_152) (fun _ h => h) rfl d_Led_dropReplies_4 ?_
      refine e_lenZ hx hb hK hW (F_HR (i0 := i) G hG hi) d_Led_dropReplies_7 ?_
      refine lv_icmp_ge (tgt := 24) hx hb d_Led_dropReplies_8 (by decide) (fun c_1 => ?_) (fun c_1 => ?_)
      · skip
        have e_a : gn G = a := (lp_out rfl (by omega) hi_a c_1).symm
        subst e_a
        exact e_vret hx hb hr hlk hW (by exact rfl) (Nat.zero_le _) (Nat.zero_le _) d_Led_dropReplies_24
      · skip
        have lt_a : a < gn G := lp_in rfl (by omega) hi_a c_1
        refine lv_aload_n hx hb d_Led_dropReplies_11 rfl (lv_at hl 1 rfl) ?_
        refine e_get (v := .ref (gad G (i + 220))) hx hb hts hown hK hW (F_Led (i0 := i) G hG hi) i_Led rfl 3 (by decide) (hts _ kw_152) (fun _ h => h) rfl d_Led_dropReplies_12 ?_
        refine lv_iload_n hx hb d_Led_dropReplies_15 rfl (lv_at hl 0 rfl) ?_
        refine lv_iconst (v := 0) hx hb d_Led_dropReplies_16 (by decide) ?_
        refine e_zast hx hb hK hW (F_HR (i0 := i) G hG hi) (j := a) (by omega) rfl (by decide) d_Led_dropReplies_17 (fun H locs hW => ?_)
        refine lv_iinc (v := nI (a + 1)) (lv' := [(1, .int (nI (a + 1))), (0, .ref (gad G (i + 200)))]) hx hb d_Led_dropReplies_18 hl (k := 0) rfl (nI_1 (a)) (by decide) rfl (fun ls hl => ?_)
        refine lv_goto (tgt := 2) hx hb d_Led_dropReplies_21 (by decide) ?_
        exact ih_a (a + 1) (by omega) (by omega) _ _ _ hW (lv_sub hl [0, 1] rfl)
  exact L_2 (gn G + 1) 0 (by omega) (by omega) _ _ _ hW (lv_sub hl [0, 1] rfl)
set_option maxHeartbeats 4000000 in
set_option maxRecDepth 100000 in
theorem c_Led_hear (l : Launch) (G : GT) (hG : GOK G) (d : DD) (i a s : Nat) (hi : i < 16) (ha : a < gn G) (hs : s < 3) (b v : Int32) : Met l y_Led_hear (.code y_Led_hear b_Led_hear 5 none :: WS) { frames := 1, cells := 0, slots := 0, locals := 21 } (cPre G [.ref (gad G (i + 200)), .int (nI a), .int (nI s), .int (b), .int (v)] d) (cQv G (fun u9 => u9 = f_hear d i a s b v)) 0 0 (gAb G) := by
  refine c_start (own := R_Led) (by decide +kernel) rfl (Nat.le_of_ble_eq_true rfl) ?_
  intro p e zs zm below meth zc ls C hW hl
  obtain ⟨hx, hb, hr, hml, hown, hts, hlk, hE, hbs⟩ := C
  have hK := hE.1
  have hn3 := hG.1
  have hl : lv_has ls 5 [(0, .ref (gad G (i + 200))), (1, .int (nI a)), (2, .int (nI s)), (3, .int (b)), (4, .int (v))] := hl
  refine lv_aload_n hx hb d_Led_hear_0 rfl (lv_at hl 0 rfl) ?_
  refine e_get (v := .ref (gad G (i + 260))) hx hb hts hown hK hW (F_Led (i0 := i) G hG hi) i_Led rfl 5 (by decide) (hts _ kw_153) (fun _ h => h) rfl d_Led_hear_1 ?_
  refine lv_iload_n hx hb d_Led_hear_4 rfl (lv_at hl 1 rfl) ?_
  refine e_aldA hx hb hK hW (F_Lat (i0 := i) G hG hi) (j := a) ha (q := 4 * i + a + 350) rfl rfl d_Led_hear_5 ?_
  refine lv_iload_n hx hb d_Led_hear_6 rfl (lv_at hl 2 rfl) ?_
  refine e_iald hx hb hK hW (F_LtR (i0 := i) (i1 := a) G hG hi ha) (j := s) hs (x := d (4 * i + a + 350) (s)) (rfl) rfl d_Led_hear_7 ?_
  refine e_ci (e_runSN hx hb hml hown hts hE hbs hW (c_ballotOf l G hG d (d (4 * i + a + 350) (s))) km_3 kw_105 kw_104 kw_103 rfl rfl hd_PC_ballotOf ⟨Nat.le_of_ble_eq_true rfl, Nat.le_of_ble_eq_true rfl⟩ (As := [.int (d (4 * i + a + 350) (s))]) (rest := []) rfl hl.1 rfl (Nat.le_of_ble_eq_true rfl) d_Led_hear_8 ⟨Nat.le_of_ble_eq_true rfl, Nat.le_of_ble_eq_true rfl⟩) hW (fun r d' H locs hp hW => ?_)
  obtain ⟨hp1, hp2⟩ := hp
  have hp1 := hp1.symm; subst hp1
  have hp2 := hp2.symm; subst hp2
  refine lv_iload_n hx hb d_Led_hear_11 rfl (lv_at hl 3 rfl) ?_
  refine lv_icmp_ge (tgt := 29) hx hb d_Led_hear_12 (by decide) (fun c_1 => ?_) (fun c_1 => ?_)
  · skip
    exact e_vret hx hb hr hlk hW (show _ = f_hear d i a s b v from (by unfold f_hear; rw [if_pos c_1])) (Nat.zero_le _) (Nat.zero_le _) d_Led_hear_29
  · skip
    refine lv_aload_n hx hb d_Led_hear_15 rfl (lv_at hl 0 rfl) ?_
    refine e_get (v := .ref (gad G (i + 260))) hx hb hts hown hK hW (F_Led (i0 := i) G hG hi) i_Led rfl 5 (by decide) (hts _ kw_153) (fun _ h => h) rfl d_Led_hear_16 ?_
    refine lv_iload_n hx hb d_Led_hear_19 rfl (lv_at hl 1 rfl) ?_
    refine e_aldA hx hb hK hW (F_Lat (i0 := i) G hG hi) (j := a) ha (q := 4 * i + a + 350) rfl rfl d_Led_hear_20 ?_
    refine lv_iload_n hx hb d_Led_hear_21 rfl (lv_at hl 2 rfl) ?_
    refine lv_iload_n hx hb d_Led_hear_22 rfl (lv_at hl 3 rfl) ?_
    refine lv_iload hx hb d_Led_hear_23 (lv_at hl 4 rfl) ?_
    refine e_ci (e_runSN hx hb hml hown hts hE hbs hW (c_pack l G hG d (b) (v)) km_6 kw_151 kw_104 kw_150 rfl rfl hd_PC_pack ⟨Nat.le_of_ble_eq_true rfl, Nat.le_of_ble_eq_true rfl⟩ (As := [.int (b), .int (v)]) (rest := [.int (nI s), .ref (gad G (4 * i + a + 350))]) rfl hl.1 rfl (Nat.le_of_ble_eq_true rfl) d_Led_hear_25 ⟨Nat.le_of_ble_eq_true rfl, Nat.le_of_ble_eq_true rfl⟩) hW (fun r d' H locs hp hW => ?_)
    obtain ⟨hp1, hp2⟩ := hp
    have hp1 := hp1.symm; subst hp1
    have hp2 := hp2.symm; subst hp2
    refine e_iast hx hb hK hW (F_LtR (i0 := i) (i1 := a) G hG hi ha) (j := s) hs rfl d_Led_hear_28 (fun H locs hW => ?_)
    exact e_vret hx hb hr hlk hW (show _ = f_hear d i a s b v from (by unfold f_hear; rw [if_neg c_1])) (Nat.zero_le _) (Nat.zero_le _) d_Led_hear_29
set_option maxHeartbeats 4000000 in
set_option maxRecDepth 100000 in
theorem c_Led_keepReply (l : Launch) (G : GT) (hG : GOK G) (d : DD) (i a : Nat) (hi : i < 16) (ha : a < gn G) : Met l y_Led_keepReply (.code y_Led_keepReply b_Led_keepReply 4 none :: WS) { frames := 0, cells := 0, slots := 0, locals := 0 } (cPre G [.ref (gad G (i + 200)), .int (nI a), .ref (gad G (61 + 490))] d) (cQv G (fun u9 => u9 = lpKR (up2 d (i + 220) a 1) i a 3)) 0 0 (gAb G) := by
  refine c_start (own := R_Led) (by decide +kernel) rfl (Nat.le_of_ble_eq_true rfl) ?_
  intro p e zs zm below meth zc ls C hW hl
  obtain ⟨hx, hb, hr, hml, hown, hts, hlk, hE, hbs⟩ := C
  have hK := hE.1
  have hn3 := hG.1
  have hl : lv_has ls 4 [(0, .ref (gad G (i + 200))), (1, .int (nI a)), (2, .ref (gad G (61 + 490)))] := hl
  refine lv_aload_n hx hb d_Led_keepReply_0 rfl (lv_at hl 0 rfl) ?_
  refine e_get (v := .ref (gad G (i + 220))) hx hb hts hown hK hW (F_Led (i0 := i) G hG hi) i_Led rfl 3 (by decide) (hts _ kw_152) (fun _ h => h) rfl d_Led_keepReply_1 ?_
  refine lv_iload_n hx hb d_Led_keepReply_4 rfl (lv_at hl 1 rfl) ?_
  refine lv_iconst (v := 1) hx hb d_Led_keepReply_5 (by decide) ?_
  refine e_zast hx hb hK hW (F_HR (i0 := i) G hG hi) (j := a) ha rfl (by decide) d_Led_keepReply_6 (fun H locs hW => ?_)
  refine lv_iconst (v := 0) hx hb d_Led_keepReply_7 (by decide) ?_
  refine lv_istore_n (lv' := [(3, .int (0)), (0, .ref (gad G (i + 200))), (1, .int (nI a)), (2, .ref (gad G (61 + 490)))]) hx hb d_Led_keepReply_8 rfl hl (by decide) rfl (fun ls hl => ?_)
  have L_9 : ∀ (N s : Nat), s ≤ 3 → 3 + 1 ≤ s + N → ∀ (H : Heap) (locs : List Loc) (ls : Array Slot), WD G zs.heap (lpKR (up2 d (i + 220) a 1) i a s) H locs → lv_has ls 4 [(3, .int (nI s)), (0, .ref (gad G (i + 200))), (1, .int (nI a)), (2, .ref (gad G (61 + 490)))] → W p l e { frames := 0, cells := 0, slots := 0, locals := 0 } zs zm [.ref (gad G (i + 200)), .int (nI a), .ref (gad G (61 + 490))].toArray below meth zc H locs 0 0 (MQ below (cQv G (fun u9 => u9 = lpKR (up2 d (i + 220) a 1) i a 3)) [.ref (gad G (i + 200)), .int (nI a), .ref (gad G (61 + 490))].toArray zs 0 0 (gAb G)) (F0 zm 9 ls []) := by
    intro N
    induction N with
    | zero => intro s h1 h2; exact absurd h2 (by omega)
    | succ N ih_s =>
      intro s hi_s hN_s H locs ls hW hl
      refine lv_iload_n hx hb d_Led_keepReply_9 rfl (lv_at hl 0 rfl) ?_
      refine lv_iconst (v := 3) hx hb d_Led_keepReply_10 (by decide) ?_
      refine lv_icmp_ge (tgt := 31) hx hb d_Led_keepReply_11 (by decide) (fun c_1 => ?_) (fun c_1 => ?_)
      · skip
        have e_s : 3 = s := (lp_out rfl (by omega) hi_s c_1).symm
        subst e_s
        exact e_vret hx hb hr hlk hW (by exact rfl) (Nat.zero_le _) (Nat.zero_le _) d_Led_keepReply_31
      · skip
        have lt_s : s < 3 := lp_in rfl (by omega) hi_s c_1
        refine lv_aload_n hx hb d_Led_keepReply_14 rfl (lv_at hl 1 rfl) ?_
        refine e_get (v := .ref (gad G (i + 240))) hx hb hts hown hK hW (F_Led (i0 := i) G hG hi) i_Led rfl 4 (by decide) (hts _ kw_154) (fun _ h => h) rfl d_Led_keepReply_15 ?_
        refine lv_iload_n hx hb d_Led_keepReply_18 rfl (lv_at hl 2 rfl) ?_
        refine e_aldA hx hb hK hW (F_Rpl (i0 := i) G hG hi) (j := a) ha (q := 4 * i + a + 280) rfl rfl d_Led_keepReply_19 ?_
        refine lv_iload_n hx hb d_Led_keepReply_20 rfl (lv_at hl 0 rfl) ?_
        refine lv_aload_n hx hb d_Led_keepReply_21 rfl (lv_at hl 3 rfl) ?_
        refine lv_iload_n hx hb d_Led_keepReply_22 rfl (lv_at hl 0 rfl) ?_
        refine e_iald hx hb hK hW (F_Rep (i0 := 61) G hG (by decide)) (j := s) (by omega) (x := (lpKR (up2 d (i + 220) a 1) i a s) (61 + 490) (s)) (rfl) rfl d_Led_keepReply_23 ?_
        refine e_iast hx hb hK hW (F_RpR (i0 := i) (i1 := a) G hG hi ha) (j := s) (by omega) rfl d_Led_keepReply_24 (fun H locs hW => ?_)
        refine lv_iinc (v := nI (s + 1)) (lv' := [(3, .int (nI (s + 1))), (0, .ref (gad G (i + 200))), (1, .int (nI a)), (2, .ref (gad G (61 + 490)))]) hx hb d_Led_keepReply_25 hl (k := 0) rfl (nI_1 (s)) (by decide) rfl (fun ls hl => ?_)
        refine lv_goto (tgt := 9) hx hb d_Led_keepReply_28 (by decide) ?_
        exact ih_s (s + 1) (by omega) (by omega) _ _ _ hW (lv_sub hl [0, 1, 2, 3] rfl)
  exact L_9 (3 + 1) 0 (by omega) (by omega) _ _ _ hW (lv_sub hl [0, 1, 2, 3] rfl)
set_option maxHeartbeats 4000000 in
set_option maxRecDepth 100000 in
theorem c_Led_count (l : Launch) (G : GT) (hG : GOK G) (d : DD) (i : Nat) (hi : i < 16) : Met l y_Led_countReplies (.code y_Led_countReplies b_Led_countReplies 3 (some .int) :: WS) { frames := 0, cells := 0, slots := 0, locals := 0 } (cPre G [.ref (gad G (i + 200))] d) (cQi G (fun r9 u9 => r9 = cntI d i (gn G) ∧ u9 = d)) 0 0 (gAb G) := by
  refine c_start (own := R_Led) (by decide +kernel) rfl (Nat.le_of_ble_eq_true rfl) ?_
  intro p e zs zm below meth zc ls C hW hl
  obtain ⟨hx, hb, hr, hml, hown, hts, hlk, hE, hbs⟩ := C
  have hK := hE.1
  have hn3 := hG.1
  have hl : lv_has ls 3 [(0, .ref (gad G (i + 200)))] := hl
  refine lv_iconst (v := 0) hx hb d_Led_countReplies_0 (by decide) ?_
  refine lv_istore_n (lv' := [(1, .int (0)), (0, .ref (gad G (i + 200)))]) hx hb d_Led_countReplies_1 rfl hl (by decide) rfl (fun ls hl => ?_)
  refine lv_iconst (v := 0) hx hb d_Led_countReplies_2 (by decide) ?_
  refine lv_istore_n (lv' := [(2, .int (0)), (1, .int (0)), (0, .ref (gad G (i + 200)))]) hx hb d_Led_countReplies_3 rfl hl (by decide) rfl (fun ls hl => ?_)
  have L_4 : ∀ (N a : Nat), a ≤ gn G → gn G + 1 ≤ a + N → ∀ (H : Heap) (locs : List Loc) (ls : Array Slot), WD G zs.heap (d) H locs → lv_has ls 3 [(2, .int (nI a)), (1, .int (cntI d i a)), (0, .ref (gad G (i + 200)))] → W p l e { frames := 0, cells := 0, slots := 0, locals := 0 } zs zm [.ref (gad G (i + 200))].toArray below meth zc H locs 0 0 (MQ below (cQi G (fun r9 u9 => r9 = cntI d i (gn G) ∧ u9 = d)) [.ref (gad G (i + 200))].toArray zs 0 0 (gAb G)) (F0 zm 4 ls []) := by
    intro N
    induction N with
    | zero => intro a h1 h2; exact absurd h2 (by omega)
    | succ N ih_a =>
      intro a hi_a hN_a H locs ls hW hl
      refine lv_iload_n hx hb d_Led_countReplies_4 rfl (lv_at hl 0 rfl) ?_
      refine lv_aload_n hx hb d_Led_countReplies_5 rfl (lv_at hl 2 rfl) ?_
      refine e_get (v := .ref (gad G (i + 220))) hx hb hts hown hK hW (F_Led (i0 := i) G hG hi) i_Led rfl 3 (by decide) (hts _ kw_152) (fun _ h => h) rfl d_Led_countReplies_6 ?_
      refine e_lenZ hx hb hK hW (F_HR (i0 := i) G hG hi) d_Led_countReplies_9 ?_
      refine lv_icmp_ge (tgt := 36) hx hb d_Led_countReplies_10 (by decide) (fun c_1 => ?_) (fun c_1 => ?_)
      · skip
        have e_a : gn G = a := (lp_out rfl (by omega) hi_a c_1).symm
        subst e_a
        refine lv_iload_n hx hb d_Led_countReplies_36 rfl (lv_at hl 1 rfl) ?_
        exact e_iret hx hb hr hlk hW ⟨by exact rfl, by exact rfl⟩ (Nat.zero_le _) (Nat.zero_le _) d_Led_countReplies_37
      · skip
        have lt_a : a < gn G := lp_in rfl (by omega) hi_a c_1
        refine lv_iload_n hx hb d_Led_countReplies_13 rfl (lv_at hl 1 rfl) ?_
        refine lv_aload_n hx hb d_Led_countReplies_14 rfl (lv_at hl 2 rfl) ?_
        refine e_get (v := .ref (gad G (i + 220))) hx hb hts hown hK hW (F_Led (i0 := i) G hG hi) i_Led rfl 3 (by decide) (hts _ kw_152) (fun _ h => h) rfl d_Led_countReplies_15 ?_
        refine lv_iload_n hx hb d_Led_countReplies_18 rfl (lv_at hl 0 rfl) ?_
        refine e_zald hx hb hK hW (F_HR (i0 := i) G hG hi) (j := a) (by omega) (x := d (i + 220) (a)) (rfl) rfl d_Led_countReplies_19 ?_
        refine lv_if_eq (tgt := 27) hx hb d_Led_countReplies_20 (by decide) (fun c_2 => ?_) (fun c_2 => ?_)
        · skip
          refine lv_iconst (v := 0) hx hb d_Led_countReplies_27 (by decide) ?_
          refine lv_iadd hx hb d_Led_countReplies_28 ?_
          refine lv_istore_n (lv' := [(1, .int ((cntI d i a) + (0))), (2, .int (nI a)), (0, .ref (gad G (i + 200)))]) hx hb d_Led_countReplies_29 rfl hl (by decide) rfl (fun ls hl => ?_)
          refine lv_iinc (v := nI (a + 1)) (lv' := [(2, .int (nI (a + 1))), (1, .int ((cntI d i a) + (0))), (0, .ref (gad G (i + 200)))]) hx hb d_Led_countReplies_30 hl (k := 1) rfl (nI_1 (a)) (by decide) rfl (fun ls hl => ?_)
          refine lv_goto (tgt := 4) hx hb d_Led_countReplies_33 (by decide) ?_
          exact ih_a (a + 1) (by omega) (by omega) _ _ _ hW (by rw [show cntI d i (a + 1) = (cntI d i a) + (0) from congrArg (cntI d i a + ·) (if_pos c_2)]; exact lv_sub hl [0, 1, 2] rfl)
        · skip
          refine lv_iconst (v := 1) hx hb d_Led_countReplies_23 (by decide) ?_
          refine lv_goto (tgt := 28) hx hb d_Led_countReplies_24 (by decide) ?_
          refine lv_iadd hx hb d_Led_countReplies_28 ?_
          refine lv_istore_n (lv' := [(1, .int ((cntI d i a) + (1))), (2, .int (nI a)), (0, .ref (gad G (i + 200)))]) hx hb d_Led_countReplies_29 rfl hl (by decide) rfl (fun ls hl => ?_)
          refine lv_iinc (v := nI (a + 1)) (lv' := [(2, .int (nI (a + 1))), (1, .int ((cntI d i a) + (1))), (0, .ref (gad G (i + 200)))]) hx hb d_Led_countReplies_30 hl (k := 1) rfl (nI_1 (a)) (by decide) rfl (fun ls hl => ?_)
          refine lv_goto (tgt := 4) hx hb d_Led_countReplies_33 (by decide) ?_
          exact ih_a (a + 1) (by omega) (by omega) _ _ _ hW (by rw [show cntI d i (a + 1) = (cntI d i a) + (1) from congrArg (cntI d i a + ·) (if_neg c_2)]; exact lv_sub hl [0, 1, 2] rfl)
  exact L_4 (gn G + 1) 0 (by omega) (by omega) _ _ _ hW (lv_sub hl [0, 1, 2] rfl)
set_option maxHeartbeats 4000000 in
set_option maxRecDepth 100000 in
theorem c_Led_vtp (l : Launch) (G : GT) (hG : GOK G) (d : DD) (i s : Nat) (hi : i < 16) (hs : s < 3) : Met l y_Led_voteToPropose (.code y_Led_voteToPropose b_Led_voteToPropose 4 (some .int) :: WS) { frames := 1, cells := 0, slots := 0, locals := 20 } (cPre G [.ref (gad G (i + 200)), .int (nI s)] d) (cQi G (fun r9 u9 => r9 = vtpI d (gn G) i s ∧ u9 = d)) 0 0 (gAb G) := by
  refine c_start (own := R_Led) (by decide +kernel) rfl (Nat.le_of_ble_eq_true rfl) ?_
  intro p e zs zm below meth zc ls C hW hl
  obtain ⟨hx, hb, hr, hml, hown, hts, hlk, hE, hbs⟩ := C
  have hK := hE.1
  have hn3 := hG.1
  have hl : lv_has ls 4 [(0, .ref (gad G (i + 200))), (1, .int (nI s))] := hl
  refine lv_iconst (v := -1) hx hb d_Led_voteToPropose_0 (by decide) ?_
  refine lv_istore_n (lv' := [(2, .int (-1)), (0, .ref (gad G (i + 200))), (1, .int (nI s))]) hx hb d_Led_voteToPropose_1 rfl hl (by decide) rfl (fun ls hl => ?_)
  refine lv_iconst (v := 0) hx hb d_Led_voteToPropose_2 (by decide) ?_
  refine lv_istore_n (lv' := [(3, .int (0)), (2, .int (-1)), (0, .ref (gad G (i + 200))), (1, .int (nI s))]) hx hb d_Led_voteToPropose_3 rfl hl (by decide) rfl (fun ls hl => ?_)
  have L_4 : ∀ (N a : Nat), a ≤ gn G → gn G + 1 ≤ a + N → ∀ (H : Heap) (locs : List Loc) (ls : Array Slot), WD G zs.heap (d) H locs → lv_has ls 4 [(3, .int (nI a)), (2, .int (bstI d i s a)), (0, .ref (gad G (i + 200))), (1, .int (nI s))] → W p l e { frames := 1, cells := 0, slots := 0, locals := 20 } zs zm [.ref (gad G (i + 200)), .int (nI s)].toArray below meth zc H locs 0 0 (MQ below (cQi G (fun r9 u9 => r9 = vtpI d (gn G) i s ∧ u9 = d)) [.ref (gad G (i + 200)), .int (nI s)].toArray zs 0 0 (gAb G)) (F0 zm 4 ls []) := by
    intro N
    induction N with
    | zero => intro a h1 h2; exact absurd h2 (by omega)
    | succ N ih_a =>
      intro a hi_a hN_a H locs ls hW hl
      refine lv_iload_n hx hb d_Led_voteToPropose_4 rfl (lv_at hl 0 rfl) ?_
      refine lv_aload_n hx hb d_Led_voteToPropose_5 rfl (lv_at hl 2 rfl) ?_
      refine e_get (v := .ref (gad G (i + 220))) hx hb hts hown hK hW (F_Led (i0 := i) G hG hi) i_Led rfl 3 (by decide) (hts _ kw_152) (fun _ h => h) rfl d_Led_voteToPropose_6 ?_
      refine e_lenZ hx hb hK hW (F_HR (i0 := i) G hG hi) d_Led_voteToPropose_9 ?_
      refine lv_icmp_ge (tgt := 55) hx hb d_Led_voteToPropose_10 (by decide) (fun c_1 => ?_) (fun c_1 => ?_)
      · skip
        have e_a : gn G = a := (lp_out rfl (by omega) hi_a c_1).symm
        subst e_a
        refine lv_iload_n hx hb d_Led_voteToPropose_55 rfl (lv_at hl 1 rfl) ?_
        refine lv_iconst (v := -1) hx hb d_Led_voteToPropose_56 (by decide) ?_
        refine lv_icmp_ne (tgt := 64) hx hb d_Led_voteToPropose_57 (by decide) (fun c_2 => ?_) (fun c_2 => ?_)
        · skip
          refine lv_iload_n hx hb d_Led_voteToPropose_64 rfl (lv_at hl 1 rfl) ?_
          refine e_ci (e_runSN hx hb hml hown hts hE hbs hW (c_voteOf l G hG d (bstI d i s (gn G))) km_4 kw_107 kw_104 kw_106 rfl rfl hd_PC_voteOf ⟨Nat.le_of_ble_eq_true rfl, Nat.le_of_ble_eq_true rfl⟩ (As := [.int (bstI d i s (gn G))]) (rest := []) rfl hl.1 rfl (Nat.le_of_ble_eq_true rfl) d_Led_voteToPropose_65 ⟨Nat.le_of_ble_eq_true rfl, Nat.le_of_ble_eq_true rfl⟩) hW (fun r d' H locs hp hW => ?_)
          obtain ⟨hp1, hp2⟩ := hp
          have hp1 := hp1.symm; subst hp1
          have hp2 := hp2.symm; subst hp2
          exact e_iret hx hb hr hlk hW ⟨by unfold vtpI; rw [if_neg c_2], rfl⟩ (Nat.zero_le _) (Nat.zero_le _) d_Led_voteToPropose_68
        · skip
          refine lv_iconst (v := 0) hx hb d_Led_voteToPropose_60 (by decide) ?_
          refine lv_goto (tgt := 68) hx hb d_Led_voteToPropose_61 (by decide) ?_
          exact e_iret hx hb hr hlk hW ⟨by unfold vtpI; rw [if_pos c_2], rfl⟩ (Nat.zero_le _) (Nat.zero_le _) d_Led_voteToPropose_68
      · skip
        have lt_a : a < gn G := lp_in rfl (by omega) hi_a c_1
        refine lv_aload_n hx hb d_Led_voteToPropose_13 rfl (lv_at hl 2 rfl) ?_
        refine e_get (v := .ref (gad G (i + 220))) hx hb hts hown hK hW (F_Led (i0 := i) G hG hi) i_Led rfl 3 (by decide) (hts _ kw_152) (fun _ h => h) rfl d_Led_voteToPropose_14 ?_
        refine lv_iload_n hx hb d_Led_voteToPropose_17 rfl (lv_at hl 0 rfl) ?_
        refine e_zald hx hb hK hW (F_HR (i0 := i) G hG hi) (j := a) (by omega) (x := d (i + 220) (a)) (rfl) rfl d_Led_voteToPropose_18 ?_
        refine lv_if_eq (tgt := 49) hx hb d_Led_voteToPropose_19 (by decide) (fun c_3 => ?_) (fun c_3 => ?_)
        · skip
          refine lv_iinc (v := nI (a + 1)) (lv' := [(3, .int (nI (a + 1))), (2, .int (bstI d i s a)), (0, .ref (gad G (i + 200))), (1, .int (nI s))]) hx hb d_Led_voteToPropose_49 hl (k := 0) rfl (nI_1 (a)) (by decide) rfl (fun ls hl => ?_)
          refine lv_goto (tgt := 4) hx hb d_Led_voteToPropose_52 (by decide) ?_
          exact ih_a (a + 1) (by omega) (by omega) _ _ _ hW (by rw [show bstI d i s (a + 1) = bstI d i s a from if_pos c_3]; exact lv_sub hl [0, 1, 2, 3] rfl)
        · skip
          refine lv_aload_n hx hb d_Led_voteToPropose_22 rfl (lv_at hl 2 rfl) ?_
          refine e_get (v := .ref (gad G (i + 240))) hx hb hts hown hK hW (F_Led (i0 := i) G hG hi) i_Led rfl 4 (by decide) (hts _ kw_154) (fun _ h => h) rfl d_Led_voteToPropose_23 ?_
          refine lv_iload_n hx hb d_Led_voteToPropose_26 rfl (lv_at hl 0 rfl) ?_
          refine e_aldA hx hb hK hW (F_Rpl (i0 := i) G hG hi) (j := a) (by omega) (q := 4 * i + a + 280) rfl rfl d_Led_voteToPropose_27 ?_
          refine lv_iload_n hx hb d_Led_voteToPropose_28 rfl (lv_at hl 3 rfl) ?_
          refine e_iald hx hb hK hW (F_RpR (i0 := i) (i1 := a) G hG hi (by omega)) (j := s) hs (x := d (4 * i + a + 280) (s)) (rfl) rfl d_Led_voteToPropose_29 ?_
          refine e_ci (e_runSN hx hb hml hown hts hE hbs hW (c_ballotOf l G hG d (d (4 * i + a + 280) (s))) km_3 kw_105 kw_104 kw_103 rfl rfl hd_PC_ballotOf ⟨Nat.le_of_ble_eq_true rfl, Nat.le_of_ble_eq_true rfl⟩ (As := [.int (d (4 * i + a + 280) (s))]) (rest := []) rfl hl.1 rfl (Nat.le_of_ble_eq_true rfl) d_Led_voteToPropose_30 ⟨Nat.le_of_ble_eq_true rfl, Nat.le_of_ble_eq_true rfl⟩) hW (fun r d' H locs hp hW => ?_)
          obtain ⟨hp1, hp2⟩ := hp
          have hp1 := hp1.symm; subst hp1
          have hp2 := hp2.symm; subst hp2
          refine lv_iload_n hx hb d_Led_voteToPropose_33 rfl (lv_at hl 1 rfl) ?_
          refine e_ci (e_runSN hx hb hml hown hts hE hbs hW (c_ballotOf l G hG d (bstI d i s a)) km_3 kw_105 kw_104 kw_103 rfl rfl hd_PC_ballotOf ⟨Nat.le_of_ble_eq_true rfl, Nat.le_of_ble_eq_true rfl⟩ (As := [.int (bstI d i s a)]) (rest := [.int (balI (d (4 * i + a + 280) (s)))]) rfl hl.1 rfl (Nat.le_of_ble_eq_true rfl) d_Led_voteToPropose_34 ⟨Nat.le_of_ble_eq_true rfl, Nat.le_of_ble_eq_true rfl⟩) hW (fun r d' H locs hp hW => ?_)
          obtain ⟨hp1, hp2⟩ := hp
          have hp1 := hp1.symm; subst hp1
          have hp2 := hp2.symm; subst hp2
          refine lv_icmp_le (tgt := 49) hx hb d_Led_voteToPropose_37 (by decide) (fun c_4 => ?_) (fun c_4 => ?_)
          · skip
            refine lv_iinc (v := nI (a + 1)) (lv' := [(3, .int (nI (a + 1))), (2, .int (bstI d i s a)), (0, .ref (gad G (i + 200))), (1, .int (nI s))]) hx hb d_Led_voteToPropose_49 hl (k := 0) rfl (nI_1 (a)) (by decide) rfl (fun ls hl => ?_)
            refine lv_goto (tgt := 4) hx hb d_Led_voteToPropose_52 (by decide) ?_
            exact ih_a (a + 1) (by omega) (by omega) _ _ _ hW (by rw [show bstI d i s (a + 1) = bstI d i s a from (if_neg c_3).trans (if_pos c_4)]; exact lv_sub hl [0, 1, 2, 3] rfl)
          · skip
            refine lv_aload_n hx hb d_Led_voteToPropose_40 rfl (lv_at hl 2 rfl) ?_
            refine e_get (v := .ref (gad G (i + 240))) hx hb hts hown hK hW (F_Led (i0 := i) G hG hi) i_Led rfl 4 (by decide) (hts _ kw_154) (fun _ h => h) rfl d_Led_voteToPropose_41 ?_
            refine lv_iload_n hx hb d_Led_voteToPropose_44 rfl (lv_at hl 0 rfl) ?_
            refine e_aldA hx hb hK hW (F_Rpl (i0 := i) G hG hi) (j := a) (by omega) (q := 4 * i + a + 280) rfl rfl d_Led_voteToPropose_45 ?_
            refine lv_iload_n hx hb d_Led_voteToPropose_46 rfl (lv_at hl 3 rfl) ?_
            refine e_iald hx hb hK hW (F_RpR (i0 := i) (i1 := a) G hG hi (by omega)) (j := s) hs (x := d (4 * i + a + 280) (s)) (rfl) rfl d_Led_voteToPropose_47 ?_
            refine lv_istore_n (lv' := [(2, .int (d (4 * i + a + 280) (s))), (3, .int (nI a)), (0, .ref (gad G (i + 200))), (1, .int (nI s))]) hx hb d_Led_voteToPropose_48 rfl hl (by decide) rfl (fun ls hl => ?_)
            refine lv_iinc (v := nI (a + 1)) (lv' := [(3, .int (nI (a + 1))), (2, .int (d (4 * i + a + 280) (s))), (0, .ref (gad G (i + 200))), (1, .int (nI s))]) hx hb d_Led_voteToPropose_49 hl (k := 1) rfl (nI_1 (a)) (by decide) rfl (fun ls hl => ?_)
            refine lv_goto (tgt := 4) hx hb d_Led_voteToPropose_52 (by decide) ?_
            exact ih_a (a + 1) (by omega) (by omega) _ _ _ hW (by rw [show bstI d i s (a + 1) = d (4 * i + a + 280) (s) from (if_neg c_3).trans (if_neg c_4)]; exact lv_sub hl [0, 1, 2, 3] rfl)
  exact L_4 (gn G + 1) 0 (by omega) (by omega) _ _ _ hW (lv_sub hl [0, 1, 2, 3] rfl)
set_option maxHeartbeats 4000000 in
set_option maxRecDepth 100000 in
theorem c_Led_decided (l : Launch) (G : GT) (hG : GOK G) (d : DD) (i s : Nat) (hi : i < 16) (hs : s < 3) (mj : Int32) : Met l y_Led_decidedVote (.code y_Led_decidedVote b_Led_decidedVote 7 (some .int) :: WS) { frames := 1, cells := 0, slots := 0, locals := 20 } (cPre G [.ref (gad G (i + 200)), .int (nI s), .int (mj)] d) (cQi G (fun r9 u9 => r9 = dvF d (gn G) i s mj (gn G) ∧ u9 = d)) 0 0 (gAb G) := by
  refine c_start (own := R_Led) (by decide +kernel) rfl (Nat.le_of_ble_eq_true rfl) ?_
  intro p e zs zm below meth zc ls C hW hl
  obtain ⟨hx, hb, hr, hml, hown, hts, hlk, hE, hbs⟩ := C
  have hK := hE.1
  have hn3 := hG.1
  have hl : lv_has ls 7 [(0, .ref (gad G (i + 200))), (1, .int (nI s)), (2, .int (mj))] := hl
  refine lv_iconst (v := 0) hx hb d_Led_decidedVote_0 (by decide) ?_
  refine lv_istore_n (lv' := [(3, .int (0)), (0, .ref (gad G (i + 200))), (1, .int (nI s)), (2, .int (mj))]) hx hb d_Led_decidedVote_1 rfl hl (by decide) rfl (fun ls hl => ?_)
  have L_2 : ∀ (N a : Nat), a ≤ gn G → gn G + 1 ≤ a + N → ∀ (H : Heap) (locs : List Loc) (ls : Array Slot), WD G zs.heap (d) H locs → lv_has ls 7 [(3, .int (nI a)), (0, .ref (gad G (i + 200))), (1, .int (nI s)), (2, .int (mj))] → (dvF d (gn G) i s mj (gn G) = dvF d (gn G) i s mj (gn G - a)) → W p l e { frames := 1, cells := 0, slots := 0, locals := 20 } zs zm [.ref (gad G (i + 200)), .int (nI s), .int (mj)].toArray below meth zc H locs 0 0 (MQ below (cQi G (fun r9 u9 => r9 = dvF d (gn G) i s mj (gn G) ∧ u9 = d)) [.ref (gad G (i + 200)), .int (nI s), .int (mj)].toArray zs 0 0 (gAb G)) (F0 zm 2 ls []) := by
    intro N
    induction N with
    | zero => intro a h1 h2; exact absurd h2 (by omega)
    | succ N ih_a =>
      intro a hi_a hN_a H locs ls hW hl hv
      refine lv_iload_n hx hb d_Led_decidedVote_2 rfl (lv_at hl 0 rfl) ?_
      refine lv_aload_n hx hb d_Led_decidedVote_3 rfl (lv_at hl 1 rfl) ?_
      refine e_get (v := .ref (gad G (i + 260))) hx hb hts hown hK hW (F_Led (i0 := i) G hG hi) i_Led rfl 5 (by decide) (hts _ kw_153) (fun _ h => h) rfl d_Led_decidedVote_4 ?_
      refine e_lenA hx hb hK hW (F_Lat (i0 := i) G hG hi) d_Led_decidedVote_7 ?_
      refine lv_icmp_ge (tgt := 91) hx hb d_Led_decidedVote_8 (by decide) (fun c_1 => ?_) (fun c_1 => ?_)
      · skip
        have e_a : gn G = a := (lp_out rfl (by omega) hi_a c_1).symm
        subst e_a
        refine lv_iconst (v := -1) hx hb d_Led_decidedVote_91 (by decide) ?_
        exact e_iret hx hb hr hlk hW ⟨(hv.trans (by rw [Nat.sub_self]; rfl)).symm, rfl⟩ (Nat.zero_le _) (Nat.zero_le _) d_Led_decidedVote_92
      · skip
        have lt_a : a < gn G := lp_in rfl (by omega) hi_a c_1
        refine lv_aload_n hx hb d_Led_decidedVote_11 rfl (lv_at hl 1 rfl) ?_
        refine e_get (v := .ref (gad G (i + 260))) hx hb hts hown hK hW (F_Led (i0 := i) G hG hi) i_Led rfl 5 (by decide) (hts _ kw_153) (fun _ h => h) rfl d_Led_decidedVote_12 ?_
        refine lv_iload_n hx hb d_Led_decidedVote_15 rfl (lv_at hl 0 rfl) ?_
        refine e_aldA hx hb hK hW (F_Lat (i0 := i) G hG hi) (j := a) (by omega) (q := 4 * i + a + 350) rfl rfl d_Led_decidedVote_16 ?_
        refine lv_iload_n hx hb d_Led_decidedVote_17 rfl (lv_at hl 2 rfl) ?_
        refine e_iald hx hb hK hW (F_LtR (i0 := i) (i1 := a) G hG hi (by omega)) (j := s) hs (x := d (4 * i + a + 350) (s)) (rfl) rfl d_Led_decidedVote_18 ?_
        refine lv_istore (lv' := [(4, .int (d (4 * i + a + 350) (s))), (3, .int (nI a)), (0, .ref (gad G (i + 200))), (1, .int (nI s)), (2, .int (mj))]) hx hb d_Led_decidedVote_19 hl (by decide) rfl (fun ls hl => ?_)
        refine lv_iconst (v := 0) hx hb d_Led_decidedVote_21 (by decide) ?_
        refine lv_istore (lv' := [(5, .int (0)), (4, .int (d (4 * i + a + 350) (s))), (3, .int (nI a)), (0, .ref (gad G (i + 200))), (1, .int (nI s)), (2, .int (mj))]) hx hb d_Led_decidedVote_22 hl (by decide) rfl (fun ls hl => ?_)
        refine lv_iconst (v := 0) hx hb d_Led_decidedVote_24 (by decide) ?_
        refine lv_istore (lv' := [(6, .int (0)), (5, .int (0)), (4, .int (d (4 * i + a + 350) (s))), (3, .int (nI a)), (0, .ref (gad G (i + 200))), (1, .int (nI s)), (2, .int (mj))]) hx hb d_Led_decidedVote_25 hl (by decide) rfl (fun ls hl => ?_)
        have L_27 : ∀ (N b : Nat), b ≤ gn G → gn G + 1 ≤ b + N → ∀ (H : Heap) (locs : List Loc) (ls : Array Slot), WD G zs.heap (d) H locs → lv_has ls 7 [(6, .int (nI b)), (5, .int (sameI d i s (d (4 * i + a + 350) (s)) b)), (4, .int (d (4 * i + a + 350) (s))), (3, .int (nI a)), (0, .ref (gad G (i + 200))), (1, .int (nI s)), (2, .int (mj))] → W p l e { frames := 1, cells := 0, slots := 0, locals := 20 } zs zm [.ref (gad G (i + 200)), .int (nI s), .int (mj)].toArray below meth zc H locs 0 0 (MQ below (cQi G (fun r9 u9 => r9 = dvF d (gn G) i s mj (gn G) ∧ u9 = d)) [.ref (gad G (i + 200)), .int (nI s), .int (mj)].toArray zs 0 0 (gAb G)) (F0 zm 27 ls []) := by
          intro N
          induction N with
          | zero => intro b h1 h2; exact absurd h2 (by omega)
          | succ N ih_b =>
            intro b hi_b hN_b H locs ls hW hl
            refine lv_iload hx hb d_Led_decidedVote_27 (lv_at hl 0 rfl) ?_
            refine lv_aload_n hx hb d_Led_decidedVote_29 rfl (lv_at hl 4 rfl) ?_
            refine e_get (v := .ref (gad G (i + 260))) hx hb hts hown hK hW (F_Led (i0 := i) G hG hi) i_Led rfl 5 (by decide) (hts _ kw_153) (fun _ h => h) rfl d_Led_decidedVote_30 ?_
            refine e_lenA hx hb hK hW (F_Lat (i0 := i) G hG hi) d_Led_decidedVote_33 ?_
            refine lv_icmp_ge (tgt := 67) hx hb d_Led_decidedVote_34 (by decide) (fun c_2 => ?_) (fun c_2 => ?_)
            · skip
              have e_b : gn G = b := (lp_out rfl (by omega) hi_b c_2).symm
              subst e_b
              refine lv_iload hx hb d_Led_decidedVote_67 (lv_at hl 2 rfl) ?_
              refine lv_iconst (v := -1) hx hb d_Led_decidedVote_69 (by decide) ?_
              refine lv_icmp_eq (tgt := 85) hx hb d_Led_decidedVote_70 (by decide) (fun c_3 => ?_) (fun c_3 => ?_)
              · skip
                refine lv_iinc (v := nI (a + 1)) (lv' := [(3, .int (nI (a + 1))), (6, .int (nI (gn G))), (5, .int (sameI d i s (d (4 * i + a + 350) (s)) (gn G))), (4, .int (d (4 * i + a + 350) (s))), (0, .ref (gad G (i + 200))), (1, .int (nI s)), (2, .int (mj))]) hx hb d_Led_decidedVote_85 hl (k := 3) rfl (nI_1 (a)) (by decide) rfl (fun ls hl => ?_)
                refine lv_goto (tgt := 2) hx hb d_Led_decidedVote_88 (by decide) ?_
                exact ih_a (a + 1) (by omega) (by omega) _ _ _ hW (lv_sub hl [0, 4, 5, 6] rfl) (hv.trans (dvF_skip lt_a (Or.inl c_3)))
              · skip
                refine lv_iload hx hb d_Led_decidedVote_73 (lv_at hl 1 rfl) ?_
                refine lv_iload_n hx hb d_Led_decidedVote_75 rfl (lv_at hl 6 rfl) ?_
                refine lv_icmp_lt (tgt := 85) hx hb d_Led_decidedVote_76 (by decide) (fun c_4 => ?_) (fun c_4 => ?_)
                · skip
                  refine lv_iinc (v := nI (a + 1)) (lv' := [(3, .int (nI (a + 1))), (6, .int (nI (gn G))), (5, .int (sameI d i s (d (4 * i + a + 350) (s)) (gn G))), (4, .int (d (4 * i + a + 350) (s))), (0, .ref (gad G (i + 200))), (1, .int (nI s)), (2, .int (mj))]) hx hb d_Led_decidedVote_85 hl (k := 3) rfl (nI_1 (a)) (by decide) rfl (fun ls hl => ?_)
                  refine lv_goto (tgt := 2) hx hb d_Led_decidedVote_88 (by decide) ?_
                  exact ih_a (a + 1) (by omega) (by omega) _ _ _ hW (lv_sub hl [0, 4, 5, 6] rfl) (hv.trans (dvF_skip lt_a (Or.inr c_4)))
                · skip
                  refine lv_iload hx hb d_Led_decidedVote_79 (lv_at hl 2 rfl) ?_
                  refine e_ci (e_runSN hx hb hml hown hts hE hbs hW (c_voteOf l G hG d (d (4 * i + a + 350) (s))) km_4 kw_107 kw_104 kw_106 rfl rfl hd_PC_voteOf ⟨Nat.le_of_ble_eq_true rfl, Nat.le_of_ble_eq_true rfl⟩ (As := [.int (d (4 * i + a + 350) (s))]) (rest := []) rfl hl.1 rfl (Nat.le_of_ble_eq_true rfl) d_Led_decidedVote_81 ⟨Nat.le_of_ble_eq_true rfl, Nat.le_of_ble_eq_true rfl⟩) hW (fun r d' H locs hp hW => ?_)
                  obtain ⟨hp1, hp2⟩ := hp
                  have hp1 := hp1.symm; subst hp1
                  have hp2 := hp2.symm; subst hp2
                  exact e_iret hx hb hr hlk hW ⟨(hv.trans (dvF_hit lt_a c_3 c_4)).symm, rfl⟩ (Nat.zero_le _) (Nat.zero_le _) d_Led_decidedVote_84
            · skip
              have lt_b : b < gn G := lp_in rfl (by omega) hi_b c_2
              refine lv_iload hx hb d_Led_decidedVote_37 (lv_at hl 1 rfl) ?_
              refine lv_aload_n hx hb d_Led_decidedVote_39 rfl (lv_at hl 4 rfl) ?_
              refine e_get (v := .ref (gad G (i + 260))) hx hb hts hown hK hW (F_Led (i0 := i) G hG hi) i_Led rfl 5 (by decide) (hts _ kw_153) (fun _ h => h) rfl d_Led_decidedVote_40 ?_
              refine lv_iload hx hb d_Led_decidedVote_43 (lv_at hl 0 rfl) ?_
              refine e_aldA hx hb hK hW (F_Lat (i0 := i) G hG hi) (j := b) (by omega) (q := 4 * i + b + 350) rfl rfl d_Led_decidedVote_45 ?_
              refine lv_iload_n hx hb d_Led_decidedVote_46 rfl (lv_at hl 5 rfl) ?_
              refine e_iald hx hb hK hW (F_LtR (i0 := i) (i1 := b) G hG hi (by omega)) (j := s) hs (x := d (4 * i + b + 350) (s)) (rfl) rfl d_Led_decidedVote_47 ?_
              refine lv_iload hx hb d_Led_decidedVote_48 (lv_at hl 2 rfl) ?_
              refine lv_icmp_ne (tgt := 57) hx hb d_Led_decidedVote_50 (by decide) (fun c_5 => ?_) (fun c_5 => ?_)
              · skip
                refine lv_iconst (v := 0) hx hb d_Led_decidedVote_57 (by decide) ?_
                refine lv_iadd hx hb d_Led_decidedVote_58 ?_
                refine lv_istore (lv' := [(5, .int ((sameI d i s (d (4 * i + a + 350) (s)) b) + (0))), (6, .int (nI b)), (4, .int (d (4 * i + a + 350) (s))), (3, .int (nI a)), (0, .ref (gad G (i + 200))), (1, .int (nI s)), (2, .int (mj))]) hx hb d_Led_decidedVote_59 hl (by decide) rfl (fun ls hl => ?_)
                refine lv_iinc (v := nI (b + 1)) (lv' := [(6, .int (nI (b + 1))), (5, .int ((sameI d i s (d (4 * i + a + 350) (s)) b) + (0))), (4, .int (d (4 * i + a + 350) (s))), (3, .int (nI a)), (0, .ref (gad G (i + 200))), (1, .int (nI s)), (2, .int (mj))]) hx hb d_Led_decidedVote_61 hl (k := 1) rfl (nI_1 (b)) (by decide) rfl (fun ls hl => ?_)
                refine lv_goto (tgt := 27) hx hb d_Led_decidedVote_64 (by decide) ?_
                exact ih_b (b + 1) (by omega) (by omega) _ _ _ hW (by rw [show sameI d i s (d (4 * i + a + 350) (s)) (b + 1) = (sameI d i s (d (4 * i + a + 350) (s)) b) + (0) from congrArg (sameI d i s (d (4 * i + a + 350) (s)) b + ·) (if_neg c_5)]; exact lv_sub hl [0, 1, 2, 3, 4, 5, 6] rfl)
              · skip
                refine lv_iconst (v := 1) hx hb d_Led_decidedVote_53 (by decide) ?_
                refine lv_goto (tgt := 58) hx hb d_Led_decidedVote_54 (by decide) ?_
                refine lv_iadd hx hb d_Led_decidedVote_58 ?_
                refine lv_istore (lv' := [(5, .int ((sameI d i s (d (4 * i + a + 350) (s)) b) + (1))), (6, .int (nI b)), (4, .int (d (4 * i + a + 350) (s))), (3, .int (nI a)), (0, .ref (gad G (i + 200))), (1, .int (nI s)), (2, .int (mj))]) hx hb d_Led_decidedVote_59 hl (by decide) rfl (fun ls hl => ?_)
                refine lv_iinc (v := nI (b + 1)) (lv' := [(6, .int (nI (b + 1))), (5, .int ((sameI d i s (d (4 * i + a + 350) (s)) b) + (1))), (4, .int (d (4 * i + a + 350) (s))), (3, .int (nI a)), (0, .ref (gad G (i + 200))), (1, .int (nI s)), (2, .int (mj))]) hx hb d_Led_decidedVote_61 hl (k := 1) rfl (nI_1 (b)) (by decide) rfl (fun ls hl => ?_)
                refine lv_goto (tgt := 27) hx hb d_Led_decidedVote_64 (by decide) ?_
                exact ih_b (b + 1) (by omega) (by omega) _ _ _ hW (by rw [show sameI d i s (d (4 * i + a + 350) (s)) (b + 1) = (sameI d i s (d (4 * i + a + 350) (s)) b) + (1) from congrArg (sameI d i s (d (4 * i + a + 350) (s)) b + ·) (if_pos c_5)]; exact lv_sub hl [0, 1, 2, 3, 4, 5, 6] rfl)
        exact L_27 (gn G + 1) 0 (by omega) (by omega) _ _ _ hW (lv_sub hl [0, 1, 2, 3, 4, 5, 6] rfl)
  exact L_2 (gn G + 1) 0 (by omega) (by omega) _ _ _ hW (lv_sub hl [0, 1, 2, 3] rfl) rfl
set_option maxHeartbeats 4000000 in
set_option maxRecDepth 100000 in
theorem c_Led_judge (l : Launch) (G : GT) (hG : GOK G) (d : DD) (i : Nat) (hi : i < 16) (mem mj : Int32) : Met l y_Led_judge (.code y_Led_judge b_Led_judge 6 (some .int) :: WS) { frames := 2, cells := 0, slots := 0, locals := 46 } (cPre G [.ref (gad G (i + 200)), .int (mem), .int (mj)] d) (cQi G (fun r9 u9 => r9 = jgF d (gn G) i mem mj 3 ∧ u9 = d)) 0 0 (gAb G) := by
  refine c_start (own := R_Led) (by decide +kernel) rfl (Nat.le_of_ble_eq_true rfl) ?_
  intro p e zs zm below meth zc ls C hW hl
  obtain ⟨hx, hb, hr, hml, hown, hts, hlk, hE, hbs⟩ := C
  have hK := hE.1
  have hn3 := hG.1
  have hl : lv_has ls 6 [(0, .ref (gad G (i + 200))), (1, .int (mem)), (2, .int (mj))] := hl
  refine lv_iconst (v := 1) hx hb d_Led_judge_0 (by decide) ?_
  refine lv_istore_n (lv' := [(3, .int (1)), (0, .ref (gad G (i + 200))), (1, .int (mem)), (2, .int (mj))]) hx hb d_Led_judge_1 rfl hl (by decide) rfl (fun ls hl => ?_)
  refine lv_iconst (v := 0) hx hb d_Led_judge_2 (by decide) ?_
  refine lv_istore (lv' := [(4, .int (0)), (3, .int (1)), (0, .ref (gad G (i + 200))), (1, .int (mem)), (2, .int (mj))]) hx hb d_Led_judge_3 hl (by decide) rfl (fun ls hl => ?_)
  have L_5 : ∀ (N s : Nat), s ≤ 3 → 3 + 1 ≤ s + N → ∀ (H : Heap) (locs : List Loc) (ls : Array Slot), WD G zs.heap (d) H locs → lv_has ls 6 [(4, .int (nI s)), (3, .int (outF d (gn G) i mem mj s)), (0, .ref (gad G (i + 200))), (1, .int (mem)), (2, .int (mj))] → (jgF d (gn G) i mem mj 3 = jgF d (gn G) i mem mj (3 - s)) → W p l e { frames := 2, cells := 0, slots := 0, locals := 46 } zs zm [.ref (gad G (i + 200)), .int (mem), .int (mj)].toArray below meth zc H locs 0 0 (MQ below (cQi G (fun r9 u9 => r9 = jgF d (gn G) i mem mj 3 ∧ u9 = d)) [.ref (gad G (i + 200)), .int (mem), .int (mj)].toArray zs 0 0 (gAb G)) (F0 zm 5 ls []) := by
    intro N
    induction N with
    | zero => intro s h1 h2; exact absurd h2 (by omega)
    | succ N ih_s =>
      intro s hi_s hN_s H locs ls hW hl hv
      refine lv_iload hx hb d_Led_judge_5 (lv_at hl 0 rfl) ?_
      refine lv_iconst (v := 3) hx hb d_Led_judge_7 (by decide) ?_
      refine lv_icmp_ge (tgt := 50) hx hb d_Led_judge_8 (by decide) (fun c_1 => ?_) (fun c_1 => ?_)
      · skip
        have e_s : 3 = s := (lp_out rfl (by omega) hi_s c_1).symm
        subst e_s
        refine lv_iload_n hx hb d_Led_judge_50 rfl (lv_at hl 1 rfl) ?_
        exact e_iret hx hb hr hlk hW ⟨(hv.trans (by rw [Nat.sub_self]; rfl)).symm, rfl⟩ (Nat.zero_le _) (Nat.zero_le _) d_Led_judge_51
      · skip
        have lt_s : s < 3 := lp_in rfl (by omega) hi_s c_1
        refine lv_iload_n hx hb d_Led_judge_11 rfl (lv_at hl 3 rfl) ?_
        refine lv_iload hx hb d_Led_judge_12 (lv_at hl 0 rfl) ?_
        refine e_ci (e_runSN hx hb hml hown hts hE hbs hW (c_has l G hG d s (mem)) km_7 kw_142 kw_104 kw_141 rfl rfl hd_PC_has ⟨Nat.le_of_ble_eq_true rfl, Nat.le_of_ble_eq_true rfl⟩ (As := [.int (mem), .int (nI s)]) (rest := []) rfl hl.1 rfl (Nat.le_of_ble_eq_true rfl) d_Led_judge_14 ⟨Nat.le_of_ble_eq_true rfl, Nat.le_of_ble_eq_true rfl⟩) hW (fun r d' H locs hp hW => ?_)
        obtain ⟨hp1, hp2⟩ := hp
        have hp1 := hp1.symm; subst hp1
        have hp2 := hp2.symm; subst hp2
        refine lv_if_eq (tgt := 44) hx hb d_Led_judge_17 (by decide) (fun c_2 => ?_) (fun c_2 => ?_)
        · skip
          refine lv_iinc (v := nI (s + 1)) (lv' := [(4, .int (nI (s + 1))), (3, .int (outF d (gn G) i mem mj s)), (0, .ref (gad G (i + 200))), (1, .int (mem)), (2, .int (mj))]) hx hb d_Led_judge_44 hl (k := 0) rfl (nI_1 (s)) (by decide) rfl (fun ls hl => ?_)
          refine lv_goto (tgt := 5) hx hb d_Led_judge_47 (by decide) ?_
          exact ih_s (s + 1) (by omega) (by omega) _ _ _ hW (by rw [show outF d (gn G) i mem mj (s + 1) = outF d (gn G) i mem mj s from if_pos c_2]; exact lv_sub hl [0, 1, 2, 3, 4] rfl) (hv.trans (jgF_out lt_s c_2))
        · skip
          refine lv_aload_n hx hb d_Led_judge_20 rfl (lv_at hl 2 rfl) ?_
          refine lv_iload hx hb d_Led_judge_21 (lv_at hl 0 rfl) ?_
          refine lv_iload_n hx hb d_Led_judge_23 rfl (lv_at hl 4 rfl) ?_
          refine e_ci (e_runV hx hb hml hown hts hE hbs hW (F_Led (i0 := i) G hG hi) rfl (c_Led_decided l G hG d i s hi (by omega) (mj)) kw_157 kw_158 kw_159 kw_156 kw_155 rfl rfl hd_Led_decidedVote ⟨Nat.le_of_ble_eq_true rfl, Nat.le_of_ble_eq_true rfl⟩ (As := [.int (nI s), .int (mj)]) (rest := []) rfl hl.1 rfl (Nat.le_of_ble_eq_true rfl) d_Led_judge_24 ⟨Nat.le_of_ble_eq_true rfl, Nat.le_of_ble_eq_true rfl⟩) hW (fun r d' H locs hp hW => ?_)
          obtain ⟨hp1, hp2⟩ := hp
          have hp1 := hp1.symm; subst hp1
          have hp2 := hp2.symm; subst hp2
          refine lv_istore (lv' := [(5, .int (dvF d (gn G) i s (mj) (gn G))), (4, .int (nI s)), (3, .int (outF d (gn G) i mem mj s)), (0, .ref (gad G (i + 200))), (1, .int (mem)), (2, .int (mj))]) hx hb d_Led_judge_27 hl (by decide) rfl (fun ls hl => ?_)
          refine lv_iload hx hb d_Led_judge_29 (lv_at hl 0 rfl) ?_
          refine lv_if_ne (tgt := 36) hx hb d_Led_judge_31 (by decide) (fun c_3 => ?_) (fun c_3 => ?_)
          · skip
            refine lv_iload hx hb d_Led_judge_36 (lv_at hl 0 rfl) ?_
            refine lv_iconst (v := -1) hx hb d_Led_judge_38 (by decide) ?_
            refine lv_icmp_ne (tgt := 44) hx hb d_Led_judge_39 (by decide) (fun c_4 => ?_) (fun c_4 => ?_)
            · skip
              refine lv_iinc (v := nI (s + 1)) (lv' := [(4, .int (nI (s + 1))), (5, .int (dvF d (gn G) i s (mj) (gn G))), (3, .int (outF d (gn G) i mem mj s)), (0, .ref (gad G (i + 200))), (1, .int (mem)), (2, .int (mj))]) hx hb d_Led_judge_44 hl (k := 1) rfl (nI_1 (s)) (by decide) rfl (fun ls hl => ?_)
              refine lv_goto (tgt := 5) hx hb d_Led_judge_47 (by decide) ?_
              exact ih_s (s + 1) (by omega) (by omega) _ _ _ hW (by rw [show outF d (gn G) i mem mj (s + 1) = outF d (gn G) i mem mj s from (if_neg c_2).trans (if_neg c_4)]; exact lv_sub hl [0, 2, 3, 4, 5] rfl) (hv.trans (jgF_on lt_s c_2 c_3))
            · skip
              refine lv_iconst (v := -1) hx hb d_Led_judge_42 (by decide) ?_
              refine lv_istore_n (lv' := [(3, .int (-1)), (5, .int (dvF d (gn G) i s (mj) (gn G))), (4, .int (nI s)), (0, .ref (gad G (i + 200))), (1, .int (mem)), (2, .int (mj))]) hx hb d_Led_judge_43 rfl hl (by decide) rfl (fun ls hl => ?_)
              refine lv_iinc (v := nI (s + 1)) (lv' := [(4, .int (nI (s + 1))), (3, .int (-1)), (5, .int (dvF d (gn G) i s (mj) (gn G))), (0, .ref (gad G (i + 200))), (1, .int (mem)), (2, .int (mj))]) hx hb d_Led_judge_44 hl (k := 2) rfl (nI_1 (s)) (by decide) rfl (fun ls hl => ?_)
              refine lv_goto (tgt := 5) hx hb d_Led_judge_47 (by decide) ?_
              exact ih_s (s + 1) (by omega) (by omega) _ _ _ hW (by rw [show outF d (gn G) i mem mj (s + 1) = -1 from (if_neg c_2).trans (if_pos c_4)]; exact lv_sub hl [0, 1, 3, 4, 5] rfl) (hv.trans (jgF_on lt_s c_2 c_3))
          · skip
            refine lv_iconst (v := 0) hx hb d_Led_judge_34 (by decide) ?_
            exact e_iret hx hb hr hlk hW ⟨(hv.trans (jgF_zero lt_s c_2 c_3)).symm, rfl⟩ (Nat.zero_le _) (Nat.zero_le _) d_Led_judge_35
  exact L_5 (3 + 1) 0 (by omega) (by omega) _ _ _ hW (lv_sub hl [0, 1, 2, 3, 4] rfl) rfl
set_option maxHeartbeats 4000000 in
set_option maxRecDepth 100000 in
theorem c_Msg_rk (l : Launch) (G : GT) (hG : GOK G) (d : DD) (j : Nat) (hj : j < 62) : Met l y_Msg_receiverKind (.code y_Msg_receiverKind b_Msg_receiverKind 1 (some .int) :: WS) { frames := 0, cells := 0, slots := 0, locals := 0 } (cPre G [.ref (gad G (j + 420))] d) (cQi G (fun r9 u9 => r9 = rkI (d (j + 420) 0) ∧ u9 = d)) 0 0 (gAb G) := by
  refine c_start (own := R_Msg) (by decide +kernel) rfl (Nat.le_of_ble_eq_true rfl) ?_
  intro p e zs zm below meth zc ls C hW hl
  obtain ⟨hx, hb, hr, hml, hown, hts, hlk, hE, hbs⟩ := C
  have hK := hE.1
  have hn3 := hG.1
  have hl : lv_has ls 1 [(0, .ref (gad G (j + 420)))] := hl
  refine lv_aload_n hx hb d_Msg_receiverKind_0 rfl (lv_at hl 0 rfl) ?_
  refine e_get (v := .int (d (j + 420) (0))) hx hb hts hown hK hW (F_Msg (i0 := j) G hG hj) i_Msg rfl 0 (by decide) (hts _ kw_108) (fun _ h => h) rfl d_Msg_receiverKind_1 ?_
  refine lv_if_eq (tgt := 15) hx hb d_Msg_receiverKind_4 (by decide) (fun c_1 => ?_) (fun c_1 => ?_)
  · skip
    refine lv_iconst (v := 0) hx hb d_Msg_receiverKind_15 (by decide) ?_
    exact e_iret hx hb hr hlk hW ⟨by unfold rkI; rw [if_pos c_1], rfl⟩ (Nat.zero_le _) (Nat.zero_le _) d_Msg_receiverKind_16
  · skip
    refine lv_aload_n hx hb d_Msg_receiverKind_7 rfl (lv_at hl 0 rfl) ?_
    refine e_get (v := .int (d (j + 420) (0))) hx hb hts hown hK hW (F_Msg (i0 := j) G hG hj) i_Msg rfl 0 (by decide) (hts _ kw_108) (fun _ h => h) rfl d_Msg_receiverKind_8 ?_
    refine lv_iconst (v := 5) hx hb d_Msg_receiverKind_11 (by decide) ?_
    refine lv_icmp_ne (tgt := 17) hx hb d_Msg_receiverKind_12 (by decide) (fun c_2 => ?_) (fun c_2 => ?_)
    · skip
      refine lv_aload_n hx hb d_Msg_receiverKind_17 rfl (lv_at hl 0 rfl) ?_
      refine e_get (v := .int (d (j + 420) (0))) hx hb hts hown hK hW (F_Msg (i0 := j) G hG hj) i_Msg rfl 0 (by decide) (hts _ kw_108) (fun _ h => h) rfl d_Msg_receiverKind_18 ?_
      refine lv_iconst (v := 1) hx hb d_Msg_receiverKind_21 (by decide) ?_
      refine lv_icmp_eq (tgt := 33) hx hb d_Msg_receiverKind_22 (by decide) (fun c_3 => ?_) (fun c_3 => ?_)
      · skip
        refine lv_iconst (v := 1) hx hb d_Msg_receiverKind_33 (by decide) ?_
        refine lv_goto (tgt := 38) hx hb d_Msg_receiverKind_34 (by decide) ?_
        exact e_iret hx hb hr hlk hW ⟨by unfold rkI; rw [if_neg c_1, if_neg c_2, if_pos c_3], rfl⟩ (Nat.zero_le _) (Nat.zero_le _) d_Msg_receiverKind_38
      · skip
        refine lv_aload_n hx hb d_Msg_receiverKind_25 rfl (lv_at hl 0 rfl) ?_
        refine e_get (v := .int (d (j + 420) (0))) hx hb hts hown hK hW (F_Msg (i0 := j) G hG hj) i_Msg rfl 0 (by decide) (hts _ kw_108) (fun _ h => h) rfl d_Msg_receiverKind_26 ?_
        refine lv_iconst (v := 3) hx hb d_Msg_receiverKind_29 (by decide) ?_
        refine lv_icmp_ne (tgt := 37) hx hb d_Msg_receiverKind_30 (by decide) (fun c_4 => ?_) (fun c_4 => ?_)
        · skip
          refine lv_iconst (v := 2) hx hb d_Msg_receiverKind_37 (by decide) ?_
          exact e_iret hx hb hr hlk hW ⟨by unfold rkI; rw [if_neg c_1, if_neg c_2, if_neg c_3, if_neg c_4], rfl⟩ (Nat.zero_le _) (Nat.zero_le _) d_Msg_receiverKind_38
        · skip
          refine lv_iconst (v := 1) hx hb d_Msg_receiverKind_33 (by decide) ?_
          refine lv_goto (tgt := 38) hx hb d_Msg_receiverKind_34 (by decide) ?_
          exact e_iret hx hb hr hlk hW ⟨by unfold rkI; rw [if_neg c_1, if_neg c_2, if_neg c_3, if_pos c_4], rfl⟩ (Nat.zero_le _) (Nat.zero_le _) d_Msg_receiverKind_38
    · skip
      refine lv_iconst (v := 0) hx hb d_Msg_receiverKind_15 (by decide) ?_
      exact e_iret hx hb hr hlk hW ⟨by unfold rkI; rw [if_neg c_1, if_pos c_2], rfl⟩ (Nat.zero_le _) (Nat.zero_le _) d_Msg_receiverKind_16
