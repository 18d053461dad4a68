theorem kw_59 : .code y_AbstractStringBuilder_length b_AbstractStringBuilder_length 1 (some .int) ∈ WS := List.mem_filter.mpr ⟨List.mem_append_right _ (List.mem_of_getElem? (i := 848) (by decide +kernel)), by decide +kernel⟩
theorem kw_60 : .methodLink R_SB 343 y_AbstractStringBuilder_length ∈ WS := List.mem_filter.mpr ⟨List.mem_append_right _ (List.mem_of_getElem? (i := 846) (by decide +kernel)), by decide +kernel⟩
theorem kw_61 : .instanceMethod y_AbstractStringBuilder_length ∈ WS := List.mem_filter.mpr ⟨List.mem_append_right _ (List.mem_of_getElem? (i := 847) (by decide +kernel)), by decide +kernel⟩
theorem kw_62 : .sameMethod R_AbstractStringBuilder R_AbstractStringBuilder "length" "()I" ∈ WS := List.mem_filter.mpr ⟨List.mem_append_right _ (List.mem_of_getElem? (i := 1161) (by decide +kernel)), by decide +kernel⟩
theorem kw_63 : .fieldLink R_String 1053 "jdk/internal/util/Preconditions" "SIOOBE_FORMATTER" "Ljava/util/function/BiFunction;" ∈ WS := List.mem_filter.mpr ⟨List.mem_append_right _ (List.mem_of_getElem? (i := 703) (by decide +kernel)), by decide +kernel⟩
theorem kw_64 : .code y_Preconditions_checkIndex b_Preconditions_checkIndex 3 (some .int) ∈ WS := List.mem_filter.mpr ⟨List.mem_append_right _ (List.mem_of_getElem? (i := 707) (by decide +kernel)), by decide +kernel⟩
theorem kw_65 : .initialized R_Preconditions ∈ WS := List.mem_filter.mpr ⟨List.mem_append_right _ (List.mem_of_getElem? (i := 25) (by decide +kernel)), by decide +kernel⟩
theorem kw_66 : .methodLink R_String 1059 y_Preconditions_checkIndex ∈ WS := List.mem_filter.mpr ⟨List.mem_append_right _ (List.mem_of_getElem? (i := 705) (by decide +kernel)), by decide +kernel⟩
theorem kw_67 : .static y_Preconditions_checkIndex ∈ WS := List.mem_filter.mpr ⟨List.mem_append_right _ (List.mem_of_getElem? (i := 706) (by decide +kernel)), by decide +kernel⟩
theorem kw_68 : .methodLink R_AbstractStringBuilder 138 y_Math_min ∈ WS := List.mem_filter.mpr ⟨List.mem_append_right _ (List.mem_of_getElem? (i := 856) (by decide +kernel)), by decide +kernel⟩
theorem kw_69 : .code y_String_checkIndex b_String_checkIndex 2 none ∈ WS := List.mem_filter.mpr ⟨List.mem_append_right _ (List.mem_of_getElem? (i := 702) (by decide +kernel)), by decide +kernel⟩
theorem kw_70 : .initialized R_String ∈ WS := List.mem_filter.mpr ⟨List.mem_append_right _ (List.mem_of_getElem? (i := 22) (by decide +kernel)), by decide +kernel⟩
theorem kw_71 : .methodLink R_AbstractStringBuilder 144 y_String_checkIndex ∈ WS := List.mem_filter.mpr ⟨List.mem_append_right _ (List.mem_of_getElem? (i := 857) (by decide +kernel)), by decide +kernel⟩
theorem kw_72 : .static y_String_checkIndex ∈ WS := List.mem_filter.mpr ⟨List.mem_append_right _ (List.mem_of_getElem? (i := 701) (by decide +kernel)), by decide +kernel⟩
theorem kw_73 : .code y_AbstractStringBuilder_charAt b_AbstractStringBuilder_charAt 5 (some .char) ∈ WS := List.mem_filter.mpr ⟨List.mem_append_right _ (List.mem_of_getElem? (i := 855) (by decide +kernel)), by decide +kernel⟩
theorem kw_74 : .methodLink R_SB 329 y_AbstractStringBuilder_charAt ∈ WS := List.mem_filter.mpr ⟨List.mem_append_right _ (List.mem_of_getElem? (i := 853) (by decide +kernel)), by decide +kernel⟩
theorem kw_75 : .instanceMethod y_AbstractStringBuilder_charAt ∈ WS := List.mem_filter.mpr ⟨List.mem_append_right _ (List.mem_of_getElem? (i := 854) (by decide +kernel)), by decide +kernel⟩
theorem kw_76 : .sameMethod R_AbstractStringBuilder R_AbstractStringBuilder "charAt" "(I)C" ∈ WS := List.mem_filter.mpr ⟨List.mem_append_right _ (List.mem_of_getElem? (i := 1162) (by decide +kernel)), by decide +kernel⟩
theorem kw_77 : .fieldLink R_String 38 "java/lang/String" "COMPACT_STRINGS" "Z" ∈ WS := List.mem_filter.mpr ⟨List.mem_append_right _ (List.mem_of_getElem? (i := 696) (by decide +kernel)), by decide +kernel⟩
theorem kw_78 : .fieldLink R_String 15 "java/lang/String" "coder" "B" ∈ WS := List.mem_filter.mpr ⟨List.mem_append_right _ (List.mem_of_getElem? (i := 1163) (by decide +kernel)), by decide +kernel⟩
theorem kw_79 : .methodLink R_StringLatin1 9 y_String_checkIndex ∈ WS := List.mem_filter.mpr ⟨List.mem_append_right _ (List.mem_of_getElem? (i := 700) (by decide +kernel)), by decide +kernel⟩
theorem kw_80 : .code y_String_isLatin1 b_String_isLatin1 1 (some .boolean) ∈ WS := List.mem_filter.mpr ⟨List.mem_append_right _ (List.mem_of_getElem? (i := 695) (by decide +kernel)), by decide +kernel⟩
theorem kw_81 : .methodLink R_String 492 y_String_isLatin1 ∈ WS := List.mem_filter.mpr ⟨List.mem_append_right _ (List.mem_of_getElem? (i := 692) (by decide +kernel)), by decide +kernel⟩
theorem kw_82 : .selects R_String y_String_isLatin1 y_String_isLatin1 ∈ WS := List.mem_filter.mpr ⟨List.mem_append_right _ (List.mem_of_getElem? (i := 694) (by decide +kernel)), by decide +kernel⟩
theorem kw_83 : .instanceMethod y_String_isLatin1 ∈ WS := List.mem_filter.mpr ⟨List.mem_append_right _ (List.mem_of_getElem? (i := 693) (by decide +kernel)), by decide +kernel⟩
theorem kw_84 : .fieldLink R_String 9 "java/lang/String" "value" "[B" ∈ WS := List.mem_filter.mpr ⟨List.mem_append_right _ (List.mem_of_getElem? (i := 1164) (by decide +kernel)), by decide +kernel⟩
theorem kw_85 : .code y_StringLatin1_charAt b_StringLatin1_charAt 2 (some .char) ∈ WS := List.mem_filter.mpr ⟨List.mem_append_right _ (List.mem_of_getElem? (i := 699) (by decide +kernel)), by decide +kernel⟩
theorem kw_86 : .methodLink R_String 495 y_StringLatin1_charAt ∈ WS := List.mem_filter.mpr ⟨List.mem_append_right _ (List.mem_of_getElem? (i := 697) (by decide +kernel)), by decide +kernel⟩
theorem kw_87 : .static y_StringLatin1_charAt ∈ WS := List.mem_filter.mpr ⟨List.mem_append_right _ (List.mem_of_getElem? (i := 698) (by decide +kernel)), by decide +kernel⟩
theorem hd_AbstractStringBuilder_length : y_AbstractStringBuilder_length.cls ≠ "java/lang/invoke/MethodHandle" ∧ y_AbstractStringBuilder_length.cls ≠ "java/lang/invoke/VarHandle" ∧ (parseMethodDescriptor y_AbstractStringBuilder_length.desc).map (fun d => d.parameters.length) = some 0 := by decide +kernel
theorem hd_Preconditions_checkIndex : y_Preconditions_checkIndex.cls ≠ "java/lang/invoke/MethodHandle" ∧ y_Preconditions_checkIndex.cls ≠ "java/lang/invoke/VarHandle" ∧ (parseMethodDescriptor y_Preconditions_checkIndex.desc).map (fun d => d.parameters.length) = some 3 := by decide +kernel
theorem hd_String_checkIndex : y_String_checkIndex.cls ≠ "java/lang/invoke/MethodHandle" ∧ y_String_checkIndex.cls ≠ "java/lang/invoke/VarHandle" ∧ (parseMethodDescriptor y_String_checkIndex.desc).map (fun d => d.parameters.length) = some 2 := by decide +kernel
theorem hd_AbstractStringBuilder_charAt : y_AbstractStringBuilder_charAt.cls ≠ "java/lang/invoke/MethodHandle" ∧ y_AbstractStringBuilder_charAt.cls ≠ "java/lang/invoke/VarHandle" ∧ (parseMethodDescriptor y_AbstractStringBuilder_charAt.desc).map (fun d => d.parameters.length) = some 1 := by decide +kernel
theorem hd_String_isLatin1 : y_String_isLatin1.cls ≠ "java/lang/invoke/MethodHandle" ∧ y_String_isLatin1.cls ≠ "java/lang/invoke/VarHandle" ∧ (parseMethodDescriptor y_String_isLatin1.desc).map (fun d => d.parameters.length) = some 0 := by decide +kernel
theorem hd_StringLatin1_charAt : y_StringLatin1_charAt.cls ≠ "java/lang/invoke/MethodHandle" ∧ y_StringLatin1_charAt.cls ≠ "java/lang/invoke/VarHandle" ∧ (parseMethodDescriptor y_StringLatin1_charAt.desc).map (fun d => d.parameters.length) = some 2 := by decide +kernel
set_option maxHeartbeats 4000000 in
set_option maxRecDepth 100000 in
theorem h_asbLen (l : Launch) (G : GT) (Hx : Heap) (sa va m : Nat) (t : List Nat) (a : Nat → Int32) (hL : sbL t a) (hf : sb_Fit a) (hnm : t.length ≤ m) (hm : m = 16 ∨ m = 34)  (hP : va_P G.1 gcl [(sa, .inr (iSB, [.ref va, .int (0), .int (0), .int (nI (t.length))])), (va, aI (gC G 8) (m) (a))] Hx) (hD : va_D (gAb G) [(sa, .inr (iSB, [.ref va, .int (0), .int (0), .int (nI (t.length))])), (va, aI (gC G 8) (m) (a))]) : Met l y_AbstractStringBuilder_length (.code y_AbstractStringBuilder_length b_AbstractStringBuilder_length 1 (some .int) :: WS) { frames := 0, cells := 0, slots := 0, locals := 0 } (hPre G [.ref sa] (fun H9 => H9 = Hx)) (hQi G (fun r9 H9 => r9 = nI t.length ∧ H9 = Hx)) 0 0 (gAb G) := by
  refine h_startF (own := R_AbstractStringBuilder) (by decide +kernel) rfl (Nat.le_of_ble_eq_true rfl) ?_
  intro p e zs zm below meth zc ls C hI hl
  subst hI
  obtain ⟨hx, hb, hr, hml, hown, hts, hlk, hE, hbs⟩ := C
  have hK := hE.1
  have hl : lv_has ls 1 [(0, .ref sa)] := hl
  obtain ⟨locs, hlocs⟩ : ∃ l9 : List Loc, l9 = [] := ⟨_, rfl⟩
  rw [← hlocs]
  have hW : WW G zs.heap [(sa, .inr (iSB, [.ref va, .int (0), .int (0), .int (nI (t.length))])), (va, aI (gC G 8) (m) (a))] zs.heap locs := ⟨hP, hD, by rw [hlocs]; exact va_S.rf⟩
  refine lv_aload_n hx hb d_AbstractStringBuilder_length_0 rfl (lv_at hl 0 rfl) ?_
  refine va_get (v := .int (nI (t.length))) hx hb hts i_SB hown hK hW.1 0 rfl rfl 3 (by decide) (hts _ kw_29) (fun _ h => h) rfl d_AbstractStringBuilder_length_1 ?_
  exact h_iret hx hb hr hlk hW.2.2 ⟨rfl, rfl⟩ (Nat.le_of_ble_eq_true rfl) (Nat.le_of_ble_eq_true rfl) d_AbstractStringBuilder_length_4
set_option maxHeartbeats 4000000 in
set_option maxRecDepth 100000 in
theorem h_sbLen (l : Launch) (G : GT) (Hx : Heap) (sa va m : Nat) (t : List Nat) (a : Nat → Int32) (hL : sbL t a) (hf : sb_Fit a) (hnm : t.length ≤ m) (hm : m = 16 ∨ m = 34)  (hP : va_P G.1 gcl [(sa, .inr (iSB, [.ref va, .int (0), .int (0), .int (nI (t.length))])), (va, aI (gC G 8) (m) (a))] Hx) (hD : va_D (gAb G) [(sa, .inr (iSB, [.ref va, .int (0), .int (0), .int (nI (t.length))])), (va, aI (gC G 8) (m) (a))]) : Met l y_SB_length (.code y_SB_length b_SB_length 1 (some .int) :: WS) { frames := 1, cells := 0, slots := 0, locals := 20 } (hPre G [.ref sa] (fun H9 => H9 = Hx)) (hQi G (fun r9 H9 => r9 = nI t.length ∧ H9 = Hx)) 0 0 (gAb G) := by
  refine h_startF (own := R_SB) (by decide +kernel) rfl (Nat.le_of_ble_eq_true rfl) ?_
  intro p e zs zm below meth zc ls C hI hl
  subst hI
  obtain ⟨hx, hb, hr, hml, hown, hts, hlk, hE, hbs⟩ := C
  have hK := hE.1
  have hl : lv_has ls 1 [(0, .ref sa)] := hl
  obtain ⟨locs, hlocs⟩ : ∃ l9 : List Loc, l9 = [] := ⟨_, rfl⟩
  rw [← hlocs]
  have hW : WW G zs.heap [(sa, .inr (iSB, [.ref va, .int (0), .int (0), .int (nI (t.length))])), (va, aI (gC G 8) (m) (a))] zs.heap locs := ⟨hP, hD, by rw [hlocs]; exact va_S.rf⟩
  refine lv_aload_n hx hb d_SB_length_0 rfl (lv_at hl 0 rfl) ?_
  refine h_ci (G := G) (h_runSU (C := R_SB) (G := G) (G' := G) (I := fun Hz => Hz = zs.heap) hx hb hml hown hts hE hW.2.2 (Nat.le_refl _) rfl (Nat.le_trans hbs hW.2.2.1) rfl hW.1 0 rfl rfl (h_asbLen l G zs.heap _ _ _ _ _ hL hf hnm hm hW.1 hW.2.1) kw_60 kw_61 kw_62 kw_45 kw_22 kw_59 rfl rfl ⟨by decide +kernel, hd_AbstractStringBuilder_length.2.2⟩ ⟨Nat.le_of_ble_eq_true rfl, Nat.le_of_ble_eq_true rfl⟩ (As := []) (rest := []) rfl hl.1 rfl (Nat.le_of_ble_eq_true rfl) d_SB_length_1 ⟨Nat.le_of_ble_eq_true rfl, Nat.le_of_ble_eq_true rfl⟩) hW.2.2 (Nat.le_refl _) (fun r9 H9 locs hJ hz9 hk9 hS9 => ?_)
  obtain ⟨hr9, hH9⟩ := hJ
  have hr9 := hr9.symm; subst hr9
  have hH9 := hH9.symm; subst hH9
  have hW : WW G zs.heap [(sa, .inr (iSB, [.ref va, .int (0), .int (0), .int (nI (t.length))])), (va, aI (gC G 8) (m) (a))] zs.heap locs := ⟨hW.1, hW.2.1, hS9⟩
  exact h_iret hx hb hr hlk hW.2.2 ⟨rfl, rfl⟩ (Nat.le_of_ble_eq_true rfl) (Nat.le_of_ble_eq_true rfl) d_SB_length_4
set_option maxHeartbeats 4000000 in
set_option maxRecDepth 100000 in
theorem h_pchkN (l : Launch) (G : GT) (Hx : Heap) (i n : Nat) (hi : i < n) (hn : n < 2 ^ 31) : Met l y_Preconditions_checkIndex (.code y_Preconditions_checkIndex b_Preconditions_checkIndex 3 (some .int) :: WS) { frames := 0, cells := 0, slots := 0, locals := 0 } (hPre G [.int (nI i), .int (nI n), .null] (fun H9 => H9 = Hx)) (hQi G (fun r9 H9 => r9 = nI i ∧ H9 = Hx)) 0 0 (gAb G) := by
  refine h_startF (own := R_Preconditions) (by decide +kernel) rfl (Nat.le_of_ble_eq_true rfl) ?_
  intro p e zs zm below meth zc ls C hI hl
  subst hI
  obtain ⟨hx, hb, hr, hml, hown, hts, hlk, hE, hbs⟩ := C
  have hK := hE.1
  have hl : lv_has ls 3 [(0, .int (nI i)), (1, .int (nI n)), (2, .null)] := hl
  obtain ⟨locs, hlocs⟩ : ∃ l9 : List Loc, l9 = [] := ⟨_, rfl⟩
  rw [← hlocs]
  have hW : WW G zs.heap [] zs.heap locs := WW_nil hlocs
  refine lv_iload_n hx hb d_Preconditions_checkIndex_0 rfl (lv_at hl 0 rfl) ?_
  refine lv_if_lt (tgt := 9) hx hb d_Preconditions_checkIndex_1 (by decide) (fun c_1 => ?_) (fun c_1 => ?_)
  · skip
    exact absurd c_1 (nI_pos (by omega))
  · skip
    refine lv_iload_n hx hb d_Preconditions_checkIndex_4 rfl (lv_at hl 0 rfl) ?_
    refine lv_iload_n hx hb d_Preconditions_checkIndex_5 rfl (lv_at hl 1 rfl) ?_
    refine lv_icmp_lt (tgt := 16) hx hb d_Preconditions_checkIndex_6 (by decide) (fun c_2 => ?_) (fun c_2 => ?_)
    · skip
      refine lv_iload_n hx hb d_Preconditions_checkIndex_16 rfl (lv_at hl 0 rfl) ?_
      exact h_iret hx hb hr hlk hW.2.2 ⟨rfl, rfl⟩ (Nat.le_of_ble_eq_true rfl) (Nat.le_of_ble_eq_true rfl) d_Preconditions_checkIndex_17
    · skip
      exact absurd (nI_lt hi hn) c_2
set_option maxHeartbeats 4000000 in
set_option maxRecDepth 100000 in
theorem h_pchkR (l : Launch) (G : GT) (Hx : Heap) (i n : Nat) (hi : i < n) (hn : n < 2 ^ 31) (tF : Nat) : Met l y_Preconditions_checkIndex (.code y_Preconditions_checkIndex b_Preconditions_checkIndex 3 (some .int) :: WS) { frames := 0, cells := 0, slots := 0, locals := 0 } (hPre G [.int (nI i), .int (nI n), .ref tF] (fun H9 => H9 = Hx)) (hQi G (fun r9 H9 => r9 = nI i ∧ H9 = Hx)) 0 0 (gAb G) := by
  refine h_startF (own := R_Preconditions) (by decide +kernel) rfl (Nat.le_of_ble_eq_true rfl) ?_
  intro p e zs zm below meth zc ls C hI hl
  subst hI
  obtain ⟨hx, hb, hr, hml, hown, hts, hlk, hE, hbs⟩ := C
  have hK := hE.1
  have hl : lv_has ls 3 [(0, .int (nI i)), (1, .int (nI n)), (2, .ref tF)] := hl
  obtain ⟨locs, hlocs⟩ : ∃ l9 : List Loc, l9 = [] := ⟨_, rfl⟩
  rw [← hlocs]
  have hW : WW G zs.heap [] zs.heap locs := WW_nil hlocs
  refine lv_iload_n hx hb d_Preconditions_checkIndex_0 rfl (lv_at hl 0 rfl) ?_
  refine lv_if_lt (tgt := 9) hx hb d_Preconditions_checkIndex_1 (by decide) (fun c_1 => ?_) (fun c_1 => ?_)
  · skip
    exact absurd c_1 (nI_pos (by omega))
  · skip
    refine lv_iload_n hx hb d_Preconditions_checkIndex_4 rfl (lv_at hl 0 rfl) ?_
    refine lv_iload_n hx hb d_Preconditions_checkIndex_5 rfl (lv_at hl 1 rfl) ?_
    refine lv_icmp_lt (tgt := 16) hx hb d_Preconditions_checkIndex_6 (by decide) (fun c_2 => ?_) (fun c_2 => ?_)
    · skip
      refine lv_iload_n hx hb d_Preconditions_checkIndex_16 rfl (lv_at hl 0 rfl) ?_
      exact h_iret hx hb hr hlk hW.2.2 ⟨rfl, rfl⟩ (Nat.le_of_ble_eq_true rfl) (Nat.le_of_ble_eq_true rfl) d_Preconditions_checkIndex_17
    · skip
      exact absurd (nI_lt hi hn) c_2
set_option maxHeartbeats 4000000 in
set_option maxRecDepth 100000 in
theorem h_chkIdx (l : Launch) (G : GT) (Hx : Heap) (i n : Nat) (hi : i < n) (hn : n < 2 ^ 31) : Met l y_String_checkIndex (.code y_String_checkIndex b_String_checkIndex 2 none :: WS) { frames := 1, cells := 0, slots := 0, locals := 22 } (hPre G [.int (nI i), .int (nI n)] (fun H9 => H9 = Hx)) (hQv G (fun H9 => H9 = Hx)) 0 0 (gAb G) := by
  refine h_startF (own := R_String) (by decide +kernel) rfl (Nat.le_of_ble_eq_true rfl) ?_
  intro p e zs zm below meth zc ls C hI hl
  subst hI
  obtain ⟨hx, hb, hr, hml, hown, hts, hlk, hE, hbs⟩ := C
  have hK := hE.1
  have hl : lv_has ls 2 [(0, .int (nI i)), (1, .int (nI n))] := hl
  obtain ⟨locs, hlocs⟩ : ∃ l9 : List Loc, l9 = [] := ⟨_, rfl⟩
  rw [← hlocs]
  have hW : WW G zs.heap [] zs.heap locs := WW_nil hlocs
  obtain ⟨eC, eF, ⟨tO, eO, eO'⟩, ⟨tT, eT, eT'⟩, ⟨aK, aV, eL, eL'⟩, eA, eV, eM⟩ := hE.2.2.2.2.2.2.2.2.2
  rcases eF with eF | ⟨tF, eF⟩
  · skip
    refine lv_iload_n hx hb d_String_checkIndex_0 rfl (lv_at hl 0 rfl) ?_
    refine lv_iload_n hx hb d_String_checkIndex_1 rfl (lv_at hl 1 rfl) ?_
    refine va_gets hx hb eF hW.2.2 hown (hts _ kw_63) (fun _ h => h) d_String_checkIndex_2 ?_
    refine h_ci (G := G) (h_runS (G := G) (G' := G) (I := fun Hz => Hz = zs.heap) hx hb hml hown hts hE hW.2.2 (Nat.le_refl _) rfl (Nat.le_trans hbs hW.2.2.1) rfl (h_pchkN l G zs.heap _ _ hi hn) kw_66 kw_67 kw_65 kw_64 rfl rfl hd_Preconditions_checkIndex ⟨Nat.le_of_ble_eq_true rfl, Nat.le_of_ble_eq_true rfl⟩ (As := [.int (nI i), .int (nI n), .null]) (rest := []) rfl hl.1 rfl (Nat.le_of_ble_eq_true rfl) d_String_checkIndex_5 ⟨Nat.le_of_ble_eq_true rfl, Nat.le_of_ble_eq_true rfl⟩) hW.2.2 (Nat.le_refl _) (fun r9 H9 locs hJ hz9 hk9 hS9 => ?_)
    obtain ⟨hr9, hH9⟩ := hJ
    have hr9 := hr9.symm; subst hr9
    have hH9 := hH9.symm; subst hH9
    have hW : WW G zs.heap [] zs.heap locs := ⟨hW.1, hW.2.1, hS9⟩
    refine lv_pop hx hb d_String_checkIndex_8 rfl ?_
    exact h_vret hx hb hr hlk hW.2.2 (by exact rfl) (Nat.le_of_ble_eq_true rfl) (Nat.le_of_ble_eq_true rfl) d_String_checkIndex_9
  · skip
    refine lv_iload_n hx hb d_String_checkIndex_0 rfl (lv_at hl 0 rfl) ?_
    refine lv_iload_n hx hb d_String_checkIndex_1 rfl (lv_at hl 1 rfl) ?_
    refine va_gets hx hb eF hW.2.2 hown (hts _ kw_63) (fun _ h => h) d_String_checkIndex_2 ?_
    refine h_ci (G := G) (h_runS (G := G) (G' := G) (I := fun Hz => Hz = zs.heap) hx hb hml hown hts hE hW.2.2 (Nat.le_refl _) rfl (Nat.le_trans hbs hW.2.2.1) rfl (h_pchkR l G zs.heap _ _ hi hn tF) kw_66 kw_67 kw_65 kw_64 rfl rfl hd_Preconditions_checkIndex ⟨Nat.le_of_ble_eq_true rfl, Nat.le_of_ble_eq_true rfl⟩ (As := [.int (nI i), .int (nI n), .ref tF]) (rest := []) rfl hl.1 rfl (Nat.le_of_ble_eq_true rfl) d_String_checkIndex_5 ⟨Nat.le_of_ble_eq_true rfl, Nat.le_of_ble_eq_true rfl⟩) hW.2.2 (Nat.le_refl _) (fun r9 H9 locs hJ hz9 hk9 hS9 => ?_)
    obtain ⟨hr9, hH9⟩ := hJ
    have hr9 := hr9.symm; subst hr9
    have hH9 := hH9.symm; subst hH9
    have hW : WW G zs.heap [] zs.heap locs := ⟨hW.1, hW.2.1, hS9⟩
    refine lv_pop hx hb d_String_checkIndex_8 rfl ?_
    exact h_vret hx hb hr hlk hW.2.2 (by exact rfl) (Nat.le_of_ble_eq_true rfl) (Nat.le_of_ble_eq_true rfl) d_String_checkIndex_9
set_option maxHeartbeats 4000000 in
set_option maxRecDepth 100000 in
theorem h_asbChar (l : Launch) (G : GT) (Hx : Heap) (sa va m : Nat) (t : List Nat) (a : Nat → Int32) (hL : sbL t a) (hf : sb_Fit a) (hnm : t.length ≤ m) (hm : m = 16 ∨ m = 34) (i : Nat) (hi : i < t.length) (hP : va_P G.1 gcl [(sa, .inr (iSB, [.ref va, .int (0), .int (0), .int (nI (t.length))])), (va, aI (gC G 8) (m) (a))] Hx) (hD : va_D (gAb G) [(sa, .inr (iSB, [.ref va, .int (0), .int (0), .int (nI (t.length))])), (va, aI (gC G 8) (m) (a))]) : Met l y_AbstractStringBuilder_charAt (.code y_AbstractStringBuilder_charAt b_AbstractStringBuilder_charAt 5 (some .char) :: WS) { frames := 2, cells := 0, slots := 0, locals := 43 } (hPre G [.ref sa, .int (nI i)] (fun H9 => H9 = Hx)) (hQi G (fun r9 H9 => r9 = nI (t.getD i 0) ∧ H9 = Hx)) 0 0 (gAb G) := by
  refine h_startF (own := R_AbstractStringBuilder) (by decide +kernel) rfl (Nat.le_of_ble_eq_true rfl) ?_
  intro p e zs zm below meth zc ls C hI hl
  subst hI
  obtain ⟨hx, hb, hr, hml, hown, hts, hlk, hE, hbs⟩ := C
  have hK := hE.1
  have hl : lv_has ls 5 [(0, .ref sa), (1, .int (nI i))] := hl
  obtain ⟨locs, hlocs⟩ : ∃ l9 : List Loc, l9 = [] := ⟨_, rfl⟩
  rw [← hlocs]
  have hW : WW G zs.heap [(sa, .inr (iSB, [.ref va, .int (0), .int (0), .int (nI (t.length))])), (va, aI (gC G 8) (m) (a))] zs.heap locs := ⟨hP, hD, by rw [hlocs]; exact va_S.rf⟩
  have hti : t.getD i 0 < 256 ∧ a i = sb_b (t.getD i 0) := hL i hi
  refine lv_aload_n hx hb d_AbstractStringBuilder_charAt_0 rfl (lv_at hl 0 rfl) ?_
  refine va_get (v := .int (0)) hx hb hts i_SB hown hK hW.1 0 rfl rfl 1 (by decide) (hts _ kw_6) (fun _ h => h) rfl d_AbstractStringBuilder_charAt_1 ?_
  refine lv_istore_n (lv' := [(2, .int (0)), (0, .ref sa), (1, .int (nI i))]) hx hb d_AbstractStringBuilder_charAt_4 rfl hl (by decide) rfl (fun ls hl => ?_)
  refine lv_aload_n hx hb d_AbstractStringBuilder_charAt_5 rfl (lv_at hl 1 rfl) ?_
  refine va_get (v := .ref va) hx hb hts i_SB hown hK hW.1 0 rfl rfl 0 (by decide) (hts _ kw_7) (fun _ h => h) rfl d_AbstractStringBuilder_charAt_6 ?_
  refine lv_astore_n (lv' := [(3, .ref va), (2, .int (0)), (0, .ref sa), (1, .int (nI i))]) hx hb d_AbstractStringBuilder_charAt_9 rfl hl (by decide) rfl (fun ls hl => ?_)
  refine lv_aload_n hx hb d_AbstractStringBuilder_charAt_10 rfl (lv_at hl 2 rfl) ?_
  refine va_get (v := .int (nI (t.length))) hx hb hts i_SB hown hK hW.1 0 rfl rfl 3 (by decide) (hts _ kw_29) (fun _ h => h) rfl d_AbstractStringBuilder_charAt_11 ?_
  refine lv_aload_n hx hb d_AbstractStringBuilder_charAt_14 rfl (lv_at hl 0 rfl) ?_
  refine va_alen (v := nI (m)) hx hb hK hW.1 1 8 rfl (ty := .byte) rfl rfl d_AbstractStringBuilder_charAt_15 ?_
  refine lv_iload_n hx hb d_AbstractStringBuilder_charAt_16 rfl (lv_at hl 1 rfl) ?_
  refine lv_ishr hx hb d_AbstractStringBuilder_charAt_17 ?_
  refine e_top (v := nI (m)) (sb_shr0 _) ?_
  refine h_ci (G := G) (h_runS (G := G) (G' := G) (I := fun Hz => Hz = zs.heap) hx hb hml hown hts hE hW.2.2 (Nat.le_refl _) rfl (Nat.le_trans hbs hW.2.2.1) rfl (h_min l G zs.heap (nI (t.length)) (nI (m))) kw_68 kw_16 kw_1 kw_14 rfl rfl hd_Math_min ⟨Nat.le_of_ble_eq_true rfl, Nat.le_of_ble_eq_true rfl⟩ (As := [.int (nI (t.length)), .int (nI (m))]) (rest := []) rfl hl.1 rfl (Nat.le_of_ble_eq_true rfl) d_AbstractStringBuilder_charAt_18 ⟨Nat.le_of_ble_eq_true rfl, Nat.le_of_ble_eq_true rfl⟩) hW.2.2 (Nat.le_refl _) (fun r9 H9 locs hJ hz9 hk9 hS9 => ?_)
  obtain ⟨hr9, hH9⟩ := hJ
  have hr9 := hr9.symm; subst hr9
  have hH9 := hH9.symm; subst hH9
  have hW : WW G zs.heap [(sa, .inr (iSB, [.ref va, .int (0), .int (0), .int (nI (t.length))])), (va, aI (gC G 8) (m) (a))] zs.heap locs := ⟨hW.1, hW.2.1, hS9⟩
  refine e_top (v := nI t.length) (by unfold mnI; rw [if_neg (nI_nlt hnm (by omega))]) ?_
  refine lv_istore (lv' := [(4, .int (nI t.length)), (3, .ref va), (2, .int (0)), (0, .ref sa), (1, .int (nI i))]) hx hb d_AbstractStringBuilder_charAt_21 hl (by decide) rfl (fun ls hl => ?_)
  refine lv_iload_n hx hb d_AbstractStringBuilder_charAt_23 rfl (lv_at hl 4 rfl) ?_
  refine lv_iload hx hb d_AbstractStringBuilder_charAt_24 (lv_at hl 0 rfl) ?_
  refine h_cv (G := G) (h_runS (G := G) (G' := G) (I := fun Hz => Hz = zs.heap) hx hb hml hown hts hE hW.2.2 (Nat.le_refl _) rfl (Nat.le_trans hbs hW.2.2.1) rfl (h_chkIdx l G zs.heap _ _ hi (by omega)) kw_71 kw_72 kw_70 kw_69 rfl rfl hd_String_checkIndex ⟨Nat.le_of_ble_eq_true rfl, Nat.le_of_ble_eq_true rfl⟩ (As := [.int (nI i), .int (nI t.length)]) (rest := []) rfl hl.1 rfl (Nat.le_of_ble_eq_true rfl) d_AbstractStringBuilder_charAt_26 ⟨Nat.le_of_ble_eq_true rfl, Nat.le_of_ble_eq_true rfl⟩) hW.2.2 (Nat.le_refl _) (fun H9 locs hJ hz9 hk9 hS9 => ?_)
  have hJ := hJ.symm; subst hJ
  have hW : WW G zs.heap [(sa, .inr (iSB, [.ref va, .int (0), .int (0), .int (nI (t.length))])), (va, aI (gC G 8) (m) (a))] zs.heap locs := ⟨hW.1, hW.2.1, hS9⟩
  refine lv_iload_n hx hb d_AbstractStringBuilder_charAt_29 rfl (lv_at hl 2 rfl) ?_
  refine lv_if_ne (tgt := 42) hx hb d_AbstractStringBuilder_charAt_30 (by decide) (fun c_1 => ?_) (fun c_1 => ?_)
  · exact absurd c_1 (by decide)
  · skip
    refine lv_aload_n hx hb d_AbstractStringBuilder_charAt_33 rfl (lv_at hl 1 rfl) ?_
    refine lv_iload_n hx hb d_AbstractStringBuilder_charAt_34 rfl (lv_at hl 4 rfl) ?_
    refine va_bald hx hb hK hW.1 1 8 rfl rfl (vp_in_nI (show i < m by omega) (by omega)) d_AbstractStringBuilder_charAt_35 ?_
    refine e_top (v := (a) (i)) (by rw [nI_clamp (show i < 2 ^ 31 by omega)]) ?_
    refine e_top (v := sb_b (t.getD i 0)) (hti.2) ?_
    refine lv_sipush (v := 255) hx hb d_AbstractStringBuilder_charAt_36 (by decide) ?_
    refine lv_iand hx hb d_AbstractStringBuilder_charAt_39 ?_
    refine e_top (v := nI (t.getD i 0)) ((sb_byte _ hti.1).1) ?_
    refine lv_i2c (v := ((nI (t.getD i 0)).toUInt32 % 65536).toInt32) hx hb d_AbstractStringBuilder_charAt_40 rfl ?_
    refine e_top (v := nI (t.getD i 0)) ((sb_byte _ hti.1).2.1) ?_
    exact h_zret hx hb hr hlk hW.2.2 ((pk_charN (by omega)).1) ⟨rfl, rfl⟩ (Nat.le_of_ble_eq_true rfl) (Nat.le_of_ble_eq_true rfl) d_AbstractStringBuilder_charAt_41
set_option maxHeartbeats 4000000 in
set_option maxRecDepth 100000 in
theorem h_sbChar (l : Launch) (G : GT) (Hx : Heap) (sa va m : Nat) (t : List Nat) (a : Nat → Int32) (hL : sbL t a) (hf : sb_Fit a) (hnm : t.length ≤ m) (hm : m = 16 ∨ m = 34) (i : Nat) (hi : i < t.length) (hP : va_P G.1 gcl [(sa, .inr (iSB, [.ref va, .int (0), .int (0), .int (nI (t.length))])), (va, aI (gC G 8) (m) (a))] Hx) (hD : va_D (gAb G) [(sa, .inr (iSB, [.ref va, .int (0), .int (0), .int (nI (t.length))])), (va, aI (gC G 8) (m) (a))]) : Met l y_SB_charAt (.code y_SB_charAt b_SB_charAt 2 (some .char) :: WS) { frames := 3, cells := 0, slots := 0, locals := 67 } (hPre G [.ref sa, .int (nI i)] (fun H9 => H9 = Hx)) (hQi G (fun r9 H9 => r9 = nI (t.getD i 0) ∧ H9 = Hx)) 0 0 (gAb G) := by
  refine h_startF (own := R_SB) (by decide +kernel) rfl (Nat.le_of_ble_eq_true rfl) ?_
  intro p e zs zm below meth zc ls C hI hl
  subst hI
  obtain ⟨hx, hb, hr, hml, hown, hts, hlk, hE, hbs⟩ := C
  have hK := hE.1
  have hl : lv_has ls 2 [(0, .ref sa), (1, .int (nI i))] := hl
  obtain ⟨locs, hlocs⟩ : ∃ l9 : List Loc, l9 = [] := ⟨_, rfl⟩
  rw [← hlocs]
  have hW : WW G zs.heap [(sa, .inr (iSB, [.ref va, .int (0), .int (0), .int (nI (t.length))])), (va, aI (gC G 8) (m) (a))] zs.heap locs := ⟨hP, hD, by rw [hlocs]; exact va_S.rf⟩
  have hti : t.getD i 0 < 256 ∧ a i = sb_b (t.getD i 0) := hL i hi
  refine lv_aload_n hx hb d_SB_charAt_0 rfl (lv_at hl 0 rfl) ?_
  refine lv_iload_n hx hb d_SB_charAt_1 rfl (lv_at hl 1 rfl) ?_
  refine h_ci (G := G) (h_runSU (C := R_SB) (G := G) (G' := G) (I := fun Hz => Hz = zs.heap) hx hb hml hown hts hE hW.2.2 (Nat.le_refl _) rfl (Nat.le_trans hbs hW.2.2.1) rfl hW.1 0 rfl rfl (h_asbChar l G zs.heap _ _ _ _ _ hL hf hnm hm _ hi hW.1 hW.2.1) kw_74 kw_75 kw_76 kw_45 kw_22 kw_73 rfl rfl ⟨by decide +kernel, hd_AbstractStringBuilder_charAt.2.2⟩ ⟨Nat.le_of_ble_eq_true rfl, Nat.le_of_ble_eq_true rfl⟩ (As := [.int (nI i)]) (rest := []) rfl hl.1 rfl (Nat.le_of_ble_eq_true rfl) d_SB_charAt_2 ⟨Nat.le_of_ble_eq_true rfl, Nat.le_of_ble_eq_true rfl⟩) hW.2.2 (Nat.le_refl _) (fun r9 H9 locs hJ hz9 hk9 hS9 => ?_)
  obtain ⟨hr9, hH9⟩ := hJ
  have hr9 := hr9.symm; subst hr9
  have hH9 := hH9.symm; subst hH9
  have hW : WW G zs.heap [(sa, .inr (iSB, [.ref va, .int (0), .int (0), .int (nI (t.length))])), (va, aI (gC G 8) (m) (a))] zs.heap locs := ⟨hW.1, hW.2.1, hS9⟩
  exact h_zret hx hb hr hlk hW.2.2 ((pk_charN (by have := hti.1; omega)).1) ⟨rfl, rfl⟩ (Nat.le_of_ble_eq_true rfl) (Nat.le_of_ble_eq_true rfl) d_SB_charAt_5
set_option maxHeartbeats 4000000 in
set_option maxRecDepth 100000 in
theorem h_strL1 (l : Launch) (G : GT) (Hx : Heap) (aK aV : Nat → Nat) : Met l y_String_isLatin1 (.code y_String_isLatin1 b_String_isLatin1 1 (some .boolean) :: WS) { frames := 0, cells := 0, slots := 0, locals := 0 } (hPreL G [.ref ((aK 0))] Hx aK aV) (hQi G (fun r9 H9 => r9 = 1 ∧ H9 = Hx)) 0 0 (gAb G) := by
  refine h_startL (own := R_String) (by decide +kernel) rfl (Nat.le_of_ble_eq_true rfl) ?_
  intro p e zs zm below meth zc ls C hI eL hl
  subst hI
  obtain ⟨hx, hb, hr, hml, hown, hts, hlk, hE, hbs⟩ := C
  have hK := hE.1
  have hl : lv_has ls 1 [(0, .ref ((aK 0)))] := hl
  obtain ⟨locs, hlocs⟩ : ∃ l9 : List Loc, l9 = [] := ⟨_, rfl⟩
  rw [← hlocs]
  have hW : WW G zs.heap [] zs.heap locs := WW_nil hlocs
  have eC := hE.2.2.2.2.2.2.2.2.2.1
  refine va_gets hx hb eC hW.2.2 hown (hts _ kw_77) (fun _ h => h) d_String_isLatin1_0 ?_
  refine lv_if_eq (tgt := 17) hx hb d_String_isLatin1_3 (by decide) (fun c_1 => ?_) (fun c_1 => ?_)
  · exact absurd c_1 (by decide)
  · skip
    refine lv_aload_n hx hb d_String_isLatin1_6 rfl (lv_at hl 0 rfl) ?_
    refine vk_getf hx hb (eL.1 0 (by decide)).2.1 hW.2.2 hown (hts _ kw_78) (fun _ h => h) d_String_isLatin1_7 ?_
    refine lv_if_ne (tgt := 17) hx hb d_String_isLatin1_10 (by decide) (fun c_2 => ?_) (fun c_2 => ?_)
    · exact absurd c_2 (by decide)
    · skip
      refine lv_iconst (v := 1) hx hb d_String_isLatin1_13 (by decide) ?_
      refine lv_goto (tgt := 18) hx hb d_String_isLatin1_14 (by decide) ?_
      exact h_zret hx hb hr hlk hW.2.2 (rfl) ⟨rfl, rfl⟩ (Nat.le_of_ble_eq_true rfl) (Nat.le_of_ble_eq_true rfl) d_String_isLatin1_18
set_option maxHeartbeats 4000000 in
set_option maxRecDepth 100000 in
theorem h_l1Char (l : Launch) (G : GT) (Hx : Heap) (aK aV : Nat → Nat) (k : Nat) (hk : k < 6) : Met l y_StringLatin1_charAt (.code y_StringLatin1_charAt b_StringLatin1_charAt 2 (some .char) :: WS) { frames := 2, cells := 0, slots := 0, locals := 43 } (hPreL G [.ref ((aV 0)), .int (nI k)] Hx aK aV) (hQi G (fun r9 H9 => r9 = nI (([80, 65, 82, 86, 84, 79] : List Nat).getD k 0) ∧ H9 = Hx)) 0 0 (gAb G) := by
  refine h_startL (own := R_StringLatin1) (by decide +kernel) rfl (Nat.le_of_ble_eq_true rfl) ?_
  intro p e zs zm below meth zc ls C hI eL hl
  subst hI
  obtain ⟨hx, hb, hr, hml, hown, hts, hlk, hE, hbs⟩ := C
  have hK := hE.1
  have hl : lv_has ls 2 [(0, .ref ((aV 0))), (1, .int (nI k))] := hl
  obtain ⟨locs, hlocs⟩ : ∃ l9 : List Loc, l9 = [] := ⟨_, rfl⟩
  rw [← hlocs]
  have hW : WW G zs.heap [] zs.heap locs := WW_nil hlocs
  refine lv_iload_n hx hb d_StringLatin1_charAt_0 rfl (lv_at hl 1 rfl) ?_
  refine lv_aload_n hx hb d_StringLatin1_charAt_1 rfl (lv_at hl 0 rfl) ?_
  refine va_tlen (v := nI 6) hx hb (eL.1 0 (by decide)).2.2.2 hW.2.2 rfl d_StringLatin1_charAt_2 ?_
  refine h_cv (G := G) (h_runS (G := G) (G' := G) (I := fun Hz => Hz = zs.heap) hx hb hml hown hts hE hW.2.2 (Nat.le_refl _) rfl (Nat.le_trans hbs hW.2.2.1) rfl (h_chkIdx l G zs.heap _ _ hk (by decide)) kw_79 kw_72 kw_70 kw_69 rfl rfl hd_String_checkIndex ⟨Nat.le_of_ble_eq_true rfl, Nat.le_of_ble_eq_true rfl⟩ (As := [.int (nI k), .int (nI 6)]) (rest := []) rfl hl.1 rfl (Nat.le_of_ble_eq_true rfl) d_StringLatin1_charAt_3 ⟨Nat.le_of_ble_eq_true rfl, Nat.le_of_ble_eq_true rfl⟩) hW.2.2 (Nat.le_refl _) (fun H9 locs hJ hz9 hk9 hS9 => ?_)
  have hJ := hJ.symm; subst hJ
  have hW : WW G zs.heap [] zs.heap locs := ⟨hW.1, hW.2.1, hS9⟩
  refine lv_aload_n hx hb d_StringLatin1_charAt_6 rfl (lv_at hl 0 rfl) ?_
  refine lv_iload_n hx hb d_StringLatin1_charAt_7 rfl (lv_at hl 1 rfl) ?_
  refine va_tb (v := .int (([80, 65, 82, 86, 84, 79] : List Int32).getD k 0)) hx hb (eL.1 0 (by decide)).2.2.2 hW.2.2 (vp_in_nI (show k < 6 by omega) (by decide)) (by rw [nI_clamp (show k < 2 ^ 31 by omega)]; rfl) d_StringLatin1_charAt_8 ?_
  refine lv_sipush (v := 255) hx hb d_StringLatin1_charAt_9 (by decide) ?_
  refine lv_iand hx hb d_StringLatin1_charAt_12 ?_
  refine e_top (v := nI (([80, 65, 82, 86, 84, 79] : List Nat).getD k 0)) (lt_and k hk) ?_
  refine lv_i2c (v := ((nI (([80, 65, 82, 86, 84, 79] : List Nat).getD k 0)).toUInt32 % 65536).toInt32) hx hb d_StringLatin1_charAt_13 rfl ?_
  refine e_top (v := nI (([80, 65, 82, 86, 84, 79] : List Nat).getD k 0)) (lt_i2c k hk) ?_
  exact h_zret hx hb hr hlk hW.2.2 (lt_nar k hk) ⟨rfl, rfl⟩ (Nat.le_of_ble_eq_true rfl) (Nat.le_of_ble_eq_true rfl) d_StringLatin1_charAt_14
set_option maxHeartbeats 4000000 in
set_option maxRecDepth 100000 in
theorem h_strChar (l : Launch) (G : GT) (Hx : Heap) (aK aV : Nat → Nat) (k : Nat) (hk : k < 6) : Met l y_String_charAt (.code y_String_charAt b_String_charAt 2 (some .char) :: WS) { frames := 3, cells := 0, slots := 0, locals := 64 } (hPreL G [.ref ((aK 0)), .int (nI k)] Hx aK aV) (hQi G (fun r9 H9 => r9 = nI (([80, 65, 82, 86, 84, 79] : List Nat).getD k 0) ∧ H9 = Hx)) 0 0 (gAb G) := by
  refine h_startL (own := R_String) (by decide +kernel) rfl (Nat.le_of_ble_eq_true rfl) ?_
  intro p e zs zm below meth zc ls C hI eL hl
  subst hI
  obtain ⟨hx, hb, hr, hml, hown, hts, hlk, hE, hbs⟩ := C
  have hK := hE.1
  have hl : lv_has ls 2 [(0, .ref ((aK 0))), (1, .int (nI k))] := hl
  obtain ⟨locs, hlocs⟩ : ∃ l9 : List Loc, l9 = [] := ⟨_, rfl⟩
  rw [← hlocs]
  have hW : WW G zs.heap [] zs.heap locs := WW_nil hlocs
  refine lv_aload_n hx hb d_String_charAt_0 rfl (lv_at hl 0 rfl) ?_
  refine h_ci (G := G) (h_runVL (G := G) (G' := G) hx hb hml hown hts hE eL hW.2.2 (Nat.le_refl _) rfl (Nat.le_trans hbs hW.2.2.1) (h_strL1 l G zs.heap aK aV) kw_81 kw_83 kw_82 kw_70 kw_80 rfl rfl hd_String_isLatin1 ⟨Nat.le_of_ble_eq_true rfl, Nat.le_of_ble_eq_true rfl⟩ (As := []) (rest := []) rfl hl.1 rfl (Nat.le_of_ble_eq_true rfl) d_String_charAt_1 ⟨Nat.le_of_ble_eq_true rfl, Nat.le_of_ble_eq_true rfl⟩) hW.2.2 (Nat.le_refl _) (fun r9 H9 locs hJ hz9 hk9 hS9 => ?_)
  obtain ⟨hr9, hH9⟩ := hJ
  have hr9 := hr9.symm; subst hr9
  have hH9 := hH9.symm; subst hH9
  have hW : WW G zs.heap [] zs.heap locs := ⟨hW.1, hW.2.1, hS9⟩
  refine lv_if_eq (tgt := 16) hx hb d_String_charAt_4 (by decide) (fun c_1 => ?_) (fun c_1 => ?_)
  · skip
    exact absurd c_1 (by decide)
  · skip
    refine lv_aload_n hx hb d_String_charAt_7 rfl (lv_at hl 0 rfl) ?_
    refine vk_getf hx hb (eL.1 0 (by decide)).2.2.1 hW.2.2 hown (hts _ kw_84) (fun _ h => h) d_String_charAt_8 ?_
    refine lv_iload_n hx hb d_String_charAt_11 rfl (lv_at hl 1 rfl) ?_
    refine h_ci (G := G) (h_runSL (G := G) (G' := G) hx hb hml hown hts hE eL hW.2.2 (Nat.le_refl _) rfl (Nat.le_trans hbs hW.2.2.1) (h_l1Char l G zs.heap aK aV k hk) kw_86 kw_87 kw_38 kw_85 rfl rfl hd_StringLatin1_charAt ⟨Nat.le_of_ble_eq_true rfl, Nat.le_of_ble_eq_true rfl⟩ (As := [.ref ((aV 0)), .int (nI k)]) (rest := []) rfl hl.1 rfl (Nat.le_of_ble_eq_true rfl) d_String_charAt_12 ⟨Nat.le_of_ble_eq_true rfl, Nat.le_of_ble_eq_true rfl⟩) hW.2.2 (Nat.le_refl _) (fun r9 H9 locs hJ hz9 hk9 hS9 => ?_)
    obtain ⟨hr9, hH9⟩ := hJ
    have hr9 := hr9.symm; subst hr9
    have hH9 := hH9.symm; subst hH9
    have hW : WW G zs.heap [] zs.heap locs := ⟨hW.1, hW.2.1, hS9⟩
    exact h_zret hx hb hr hlk hW.2.2 (lt_nar k hk) ⟨rfl, rfl⟩ (Nat.le_of_ble_eq_true rfl) (Nat.le_of_ble_eq_true rfl) d_String_charAt_15
