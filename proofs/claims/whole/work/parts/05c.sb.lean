theorem kw_0 : .code y_Math_max b_Math_max 2 (some .int) ∈ WS := List.mem_filter.mpr ⟨List.mem_append_right _ (List.mem_of_getElem? (i := 747) (by decide +kernel)), by decide +kernel⟩
theorem kw_1 : .initialized R_Math ∈ WS := List.mem_filter.mpr ⟨List.mem_append_right _ (List.mem_of_getElem? (i := 18) (by decide +kernel)), by decide +kernel⟩
theorem kw_2 : .methodLink R_ArraysSupport 194 y_Math_max ∈ WS := List.mem_filter.mpr ⟨List.mem_append_right _ (List.mem_of_getElem? (i := 745) (by decide +kernel)), by decide +kernel⟩
theorem kw_3 : .static y_Math_max ∈ WS := List.mem_filter.mpr ⟨List.mem_append_right _ (List.mem_of_getElem? (i := 746) (by decide +kernel)), by decide +kernel⟩
theorem kw_4 : .constant R_ArraysSupport 200 2147483639 ∈ WS := List.mem_filter.mpr ⟨List.mem_append_right _ (List.mem_of_getElem? (i := 748) (by decide +kernel)), by decide +kernel⟩
theorem kw_5 : .fieldLink R_AbstractStringBuilder 18 "java/lang/String" "COMPACT_STRINGS" "Z" ∈ WS := List.mem_filter.mpr ⟨List.mem_append_right _ (List.mem_of_getElem? (i := 662) (by decide +kernel)), by decide +kernel⟩
theorem kw_6 : .fieldLink R_AbstractStringBuilder 22 "java/lang/AbstractStringBuilder" "coder" "B" ∈ WS := List.mem_filter.mpr ⟨List.mem_append_right _ (List.mem_of_getElem? (i := 672) (by decide +kernel)), by decide +kernel⟩
theorem kw_7 : .fieldLink R_AbstractStringBuilder 15 "java/lang/AbstractStringBuilder" "value" "[B" ∈ WS := List.mem_filter.mpr ⟨List.mem_append_right _ (List.mem_of_getElem? (i := 671) (by decide +kernel)), by decide +kernel⟩
theorem kw_8 : .code y_ArraysSupport_newLength b_ArraysSupport_newLength 4 (some .int) ∈ WS := List.mem_filter.mpr ⟨List.mem_append_right _ (List.mem_of_getElem? (i := 744) (by decide +kernel)), by decide +kernel⟩
theorem kw_9 : .initialized R_ArraysSupport ∈ WS := List.mem_filter.mpr ⟨List.mem_append_right _ (List.mem_of_getElem? (i := 26) (by decide +kernel)), by decide +kernel⟩
theorem kw_10 : .methodLink R_AbstractStringBuilder 114 y_ArraysSupport_newLength ∈ WS := List.mem_filter.mpr ⟨List.mem_append_right _ (List.mem_of_getElem? (i := 742) (by decide +kernel)), by decide +kernel⟩
theorem kw_11 : .static y_ArraysSupport_newLength ∈ WS := List.mem_filter.mpr ⟨List.mem_append_right _ (List.mem_of_getElem? (i := 743) (by decide +kernel)), by decide +kernel⟩
theorem kw_12 : .constant R_AbstractStringBuilder 39 2147483647 ∈ WS := List.mem_filter.mpr ⟨List.mem_append_right _ (List.mem_of_getElem? (i := 752) (by decide +kernel)), by decide +kernel⟩
theorem kw_13 : .arrayClass .byte ∈ WS := List.mem_filter.mpr ⟨List.mem_append_right _ (List.mem_of_getElem? (i := 290) (by decide +kernel)), by decide +kernel⟩
theorem kw_14 : .code y_Math_min b_Math_min 2 (some .int) ∈ WS := List.mem_filter.mpr ⟨List.mem_append_right _ (List.mem_of_getElem? (i := 765) (by decide +kernel)), by decide +kernel⟩
theorem kw_15 : .methodLink R_Arrays 304 y_Math_min ∈ WS := List.mem_filter.mpr ⟨List.mem_append_right _ (List.mem_of_getElem? (i := 763) (by decide +kernel)), by decide +kernel⟩
theorem kw_16 : .static y_Math_min ∈ WS := List.mem_filter.mpr ⟨List.mem_append_right _ (List.mem_of_getElem? (i := 764) (by decide +kernel)), by decide +kernel⟩
theorem kw_17 : .methodLink R_Arrays 150 arraycopyName ∈ WS := List.mem_filter.mpr ⟨List.mem_append_right _ (List.mem_of_getElem? (i := 766) (by decide +kernel)), by decide +kernel⟩
theorem kw_18 : .native arraycopyName ∈ WS := List.mem_filter.mpr ⟨List.mem_append_right _ (List.mem_of_getElem? (i := 423) (by decide +kernel)), by decide +kernel⟩
theorem kw_19 : .static arraycopyName ∈ WS := List.mem_filter.mpr ⟨List.mem_append_right _ (List.mem_of_getElem? (i := 422) (by decide +kernel)), by decide +kernel⟩
theorem kw_20 : .initialized "java/lang/System" ∈ WS := List.mem_filter.mpr ⟨List.mem_append_right _ (List.mem_of_getElem? (i := 17) (by decide +kernel)), by decide +kernel⟩
theorem kw_21 : .code y_AbstractStringBuilder_newCapacity b_AbstractStringBuilder_newCapacity 6 (some .int) ∈ WS := List.mem_filter.mpr ⟨List.mem_append_right _ (List.mem_of_getElem? (i := 741) (by decide +kernel)), by decide +kernel⟩
theorem kw_22 : .initialized R_AbstractStringBuilder ∈ WS := List.mem_filter.mpr ⟨List.mem_append_right _ (List.mem_of_getElem? (i := 20) (by decide +kernel)), by decide +kernel⟩
theorem kw_23 : .methodLink R_AbstractStringBuilder 104 y_AbstractStringBuilder_newCapacity ∈ WS := List.mem_filter.mpr ⟨List.mem_append_right _ (List.mem_of_getElem? (i := 738) (by decide +kernel)), by decide +kernel⟩
theorem kw_24 : .instanceMethod y_AbstractStringBuilder_newCapacity ∈ WS := List.mem_filter.mpr ⟨List.mem_append_right _ (List.mem_of_getElem? (i := 740) (by decide +kernel)), by decide +kernel⟩
theorem kw_25 : .code y_Arrays_copyOf b_Arrays_copyOf 3 (some (.array .byte)) ∈ WS := List.mem_filter.mpr ⟨List.mem_append_right _ (List.mem_of_getElem? (i := 755) (by decide +kernel)), by decide +kernel⟩
theorem kw_26 : .initialized R_Arrays ∈ WS := List.mem_filter.mpr ⟨List.mem_append_right _ (List.mem_of_getElem? (i := 5) (by decide +kernel)), by decide +kernel⟩
theorem kw_27 : .methodLink R_AbstractStringBuilder 108 y_Arrays_copyOf ∈ WS := List.mem_filter.mpr ⟨List.mem_append_right _ (List.mem_of_getElem? (i := 753) (by decide +kernel)), by decide +kernel⟩
theorem kw_28 : .static y_Arrays_copyOf ∈ WS := List.mem_filter.mpr ⟨List.mem_append_right _ (List.mem_of_getElem? (i := 754) (by decide +kernel)), by decide +kernel⟩
theorem kw_29 : .fieldLink R_AbstractStringBuilder 79 "java/lang/AbstractStringBuilder" "count" "I" ∈ WS := List.mem_filter.mpr ⟨List.mem_append_right _ (List.mem_of_getElem? (i := 673) (by decide +kernel)), by decide +kernel⟩
theorem kw_30 : .code y_AbstractStringBuilder_ensureCapacityInternal b_AbstractStringBuilder_ensureCapacityInternal 3 none ∈ WS := List.mem_filter.mpr ⟨List.mem_append_right _ (List.mem_of_getElem? (i := 737) (by decide +kernel)), by decide +kernel⟩
theorem kw_31 : .methodLink R_AbstractStringBuilder 100 y_AbstractStringBuilder_ensureCapacityInternal ∈ WS := List.mem_filter.mpr ⟨List.mem_append_right _ (List.mem_of_getElem? (i := 734) (by decide +kernel)), by decide +kernel⟩
theorem kw_32 : .instanceMethod y_AbstractStringBuilder_ensureCapacityInternal ∈ WS := List.mem_filter.mpr ⟨List.mem_append_right _ (List.mem_of_getElem? (i := 736) (by decide +kernel)), by decide +kernel⟩
theorem kw_33 : .code y_AbstractStringBuilder_isLatin1 b_AbstractStringBuilder_isLatin1 1 (some .boolean) ∈ WS := List.mem_filter.mpr ⟨List.mem_append_right _ (List.mem_of_getElem? (i := 771) (by decide +kernel)), by decide +kernel⟩
theorem kw_34 : .methodLink R_AbstractStringBuilder 83 y_AbstractStringBuilder_isLatin1 ∈ WS := List.mem_filter.mpr ⟨List.mem_append_right _ (List.mem_of_getElem? (i := 767) (by decide +kernel)), by decide +kernel⟩
theorem kw_35 : .instanceMethod y_AbstractStringBuilder_isLatin1 ∈ WS := List.mem_filter.mpr ⟨List.mem_append_right _ (List.mem_of_getElem? (i := 768) (by decide +kernel)), by decide +kernel⟩
theorem kw_36 : .selects R_SB y_AbstractStringBuilder_isLatin1 y_AbstractStringBuilder_isLatin1 ∈ WS := List.mem_filter.mpr ⟨List.mem_append_right _ (List.mem_of_getElem? (i := 770) (by decide +kernel)), by decide +kernel⟩
theorem kw_37 : .code y_StringLatin1_canEncode b_StringLatin1_canEncode 1 (some .boolean) ∈ WS := List.mem_filter.mpr ⟨List.mem_append_right _ (List.mem_of_getElem? (i := 774) (by decide +kernel)), by decide +kernel⟩
theorem kw_38 : .initialized R_StringLatin1 ∈ WS := List.mem_filter.mpr ⟨List.mem_append_right _ (List.mem_of_getElem? (i := 24) (by decide +kernel)), by decide +kernel⟩
theorem kw_39 : .methodLink R_AbstractStringBuilder 191 y_StringLatin1_canEncode ∈ WS := List.mem_filter.mpr ⟨List.mem_append_right _ (List.mem_of_getElem? (i := 772) (by decide +kernel)), by decide +kernel⟩
theorem kw_40 : .static y_StringLatin1_canEncode ∈ WS := List.mem_filter.mpr ⟨List.mem_append_right _ (List.mem_of_getElem? (i := 773) (by decide +kernel)), by decide +kernel⟩
theorem kw_41 : .code y_AbstractStringBuilder_append_C b_AbstractStringBuilder_append_C 2 (some (.object "java/lang/AbstractStringBuilder")) ∈ WS := List.mem_filter.mpr ⟨List.mem_append_right _ (List.mem_of_getElem? (i := 733) (by decide +kernel)), by decide +kernel⟩
theorem kw_42 : .methodLink R_SB 50 y_AbstractStringBuilder_append_C ∈ WS := List.mem_filter.mpr ⟨List.mem_append_right _ (List.mem_of_getElem? (i := 731) (by decide +kernel)), by decide +kernel⟩
theorem kw_43 : .instanceMethod y_AbstractStringBuilder_append_C ∈ WS := List.mem_filter.mpr ⟨List.mem_append_right _ (List.mem_of_getElem? (i := 732) (by decide +kernel)), by decide +kernel⟩
theorem kw_44 : .sameMethod R_AbstractStringBuilder R_AbstractStringBuilder "append" "(C)Ljava/lang/AbstractStringBuilder;" ∈ WS := List.mem_filter.mpr ⟨List.mem_append_right _ (List.mem_of_getElem? (i := 1156) (by decide +kernel)), by decide +kernel⟩
theorem kw_45 : .superclass R_SB R_AbstractStringBuilder ∈ WS := List.mem_filter.mpr ⟨List.mem_append_right _ (List.mem_of_getElem? (i := 682) (by decide +kernel)), by decide +kernel⟩
theorem kw_46 : .fieldLink R_Integer 83 "java/lang/Integer" "DigitOnes" "[B" ∈ WS := List.mem_filter.mpr ⟨List.mem_append_right _ (List.mem_of_getElem? (i := 816) (by decide +kernel)), by decide +kernel⟩
theorem kw_47 : .fieldLink R_Integer 87 "java/lang/Integer" "DigitTens" "[B" ∈ WS := List.mem_filter.mpr ⟨List.mem_append_right _ (List.mem_of_getElem? (i := 818) (by decide +kernel)), by decide +kernel⟩
theorem kw_48 : .code y_Integer_stringSize b_Integer_stringSize 4 (some .int) ∈ WS := List.mem_filter.mpr ⟨List.mem_append_right _ (List.mem_of_getElem? (i := 812) (by decide +kernel)), by decide +kernel⟩
theorem kw_49 : .initialized R_Integer ∈ WS := List.mem_filter.mpr ⟨List.mem_append_right _ (List.mem_of_getElem? (i := 16) (by decide +kernel)), by decide +kernel⟩
theorem kw_50 : .methodLink R_AbstractStringBuilder 245 y_Integer_stringSize ∈ WS := List.mem_filter.mpr ⟨List.mem_append_right _ (List.mem_of_getElem? (i := 810) (by decide +kernel)), by decide +kernel⟩
theorem kw_51 : .static y_Integer_stringSize ∈ WS := List.mem_filter.mpr ⟨List.mem_append_right _ (List.mem_of_getElem? (i := 811) (by decide +kernel)), by decide +kernel⟩
theorem kw_52 : .code y_Integer_getChars b_Integer_getChars 7 (some .int) ∈ WS := List.mem_filter.mpr ⟨List.mem_append_right _ (List.mem_of_getElem? (i := 815) (by decide +kernel)), by decide +kernel⟩
theorem kw_53 : .methodLink R_AbstractStringBuilder 248 y_Integer_getChars ∈ WS := List.mem_filter.mpr ⟨List.mem_append_right _ (List.mem_of_getElem? (i := 813) (by decide +kernel)), by decide +kernel⟩
theorem kw_54 : .static y_Integer_getChars ∈ WS := List.mem_filter.mpr ⟨List.mem_append_right _ (List.mem_of_getElem? (i := 814) (by decide +kernel)), by decide +kernel⟩
theorem kw_55 : .code y_AbstractStringBuilder_append_I b_AbstractStringBuilder_append_I 4 (some (.object "java/lang/AbstractStringBuilder")) ∈ WS := List.mem_filter.mpr ⟨List.mem_append_right _ (List.mem_of_getElem? (i := 809) (by decide +kernel)), by decide +kernel⟩
theorem kw_56 : .methodLink R_SB 53 y_AbstractStringBuilder_append_I ∈ WS := List.mem_filter.mpr ⟨List.mem_append_right _ (List.mem_of_getElem? (i := 807) (by decide +kernel)), by decide +kernel⟩
theorem kw_57 : .instanceMethod y_AbstractStringBuilder_append_I ∈ WS := List.mem_filter.mpr ⟨List.mem_append_right _ (List.mem_of_getElem? (i := 808) (by decide +kernel)), by decide +kernel⟩
theorem kw_58 : .sameMethod R_AbstractStringBuilder R_AbstractStringBuilder "append" "(I)Ljava/lang/AbstractStringBuilder;" ∈ WS := List.mem_filter.mpr ⟨List.mem_append_right _ (List.mem_of_getElem? (i := 1160) (by decide +kernel)), by decide +kernel⟩
theorem hd_Math_max : y_Math_max.cls ≠ "java/lang/invoke/MethodHandle" ∧ y_Math_max.cls ≠ "java/lang/invoke/VarHandle" ∧ (parseMethodDescriptor y_Math_max.desc).map (fun d => d.parameters.length) = some 2 := by decide +kernel
theorem hd_ArraysSupport_newLength : y_ArraysSupport_newLength.cls ≠ "java/lang/invoke/MethodHandle" ∧ y_ArraysSupport_newLength.cls ≠ "java/lang/invoke/VarHandle" ∧ (parseMethodDescriptor y_ArraysSupport_newLength.desc).map (fun d => d.parameters.length) = some 3 := by decide +kernel
theorem hd_Math_min : y_Math_min.cls ≠ "java/lang/invoke/MethodHandle" ∧ y_Math_min.cls ≠ "java/lang/invoke/VarHandle" ∧ (parseMethodDescriptor y_Math_min.desc).map (fun d => d.parameters.length) = some 2 := by decide +kernel
theorem hd_AbstractStringBuilder_newCapacity : y_AbstractStringBuilder_newCapacity.cls ≠ "java/lang/invoke/MethodHandle" ∧ y_AbstractStringBuilder_newCapacity.cls ≠ "java/lang/invoke/VarHandle" ∧ (parseMethodDescriptor y_AbstractStringBuilder_newCapacity.desc).map (fun d => d.parameters.length) = some 1 := by decide +kernel
theorem hd_Arrays_copyOf : y_Arrays_copyOf.cls ≠ "java/lang/invoke/MethodHandle" ∧ y_Arrays_copyOf.cls ≠ "java/lang/invoke/VarHandle" ∧ (parseMethodDescriptor y_Arrays_copyOf.desc).map (fun d => d.parameters.length) = some 2 := by decide +kernel
theorem hd_AbstractStringBuilder_ensureCapacityInternal : y_AbstractStringBuilder_ensureCapacityInternal.cls ≠ "java/lang/invoke/MethodHandle" ∧ y_AbstractStringBuilder_ensureCapacityInternal.cls ≠ "java/lang/invoke/VarHandle" ∧ (parseMethodDescriptor y_AbstractStringBuilder_ensureCapacityInternal.desc).map (fun d => d.parameters.length) = some 1 := by decide +kernel
theorem hd_AbstractStringBuilder_isLatin1 : y_AbstractStringBuilder_isLatin1.cls ≠ "java/lang/invoke/MethodHandle" ∧ y_AbstractStringBuilder_isLatin1.cls ≠ "java/lang/invoke/VarHandle" ∧ (parseMethodDescriptor y_AbstractStringBuilder_isLatin1.desc).map (fun d => d.parameters.length) = some 0 := by decide +kernel
theorem hd_StringLatin1_canEncode : y_StringLatin1_canEncode.cls ≠ "java/lang/invoke/MethodHandle" ∧ y_StringLatin1_canEncode.cls ≠ "java/lang/invoke/VarHandle" ∧ (parseMethodDescriptor y_StringLatin1_canEncode.desc).map (fun d => d.parameters.length) = some 1 := by decide +kernel
theorem hd_AbstractStringBuilder_append_C : y_AbstractStringBuilder_append_C.cls ≠ "java/lang/invoke/MethodHandle" ∧ y_AbstractStringBuilder_append_C.cls ≠ "java/lang/invoke/VarHandle" ∧ (parseMethodDescriptor y_AbstractStringBuilder_append_C.desc).map (fun d => d.parameters.length) = some 1 := by decide +kernel
theorem hd_Integer_stringSize : y_Integer_stringSize.cls ≠ "java/lang/invoke/MethodHandle" ∧ y_Integer_stringSize.cls ≠ "java/lang/invoke/VarHandle" ∧ (parseMethodDescriptor y_Integer_stringSize.desc).map (fun d => d.parameters.length) = some 1 := by decide +kernel
theorem hd_Integer_getChars : y_Integer_getChars.cls ≠ "java/lang/invoke/MethodHandle" ∧ y_Integer_getChars.cls ≠ "java/lang/invoke/VarHandle" ∧ (parseMethodDescriptor y_Integer_getChars.desc).map (fun d => d.parameters.length) = some 3 := by decide +kernel
theorem hd_AbstractStringBuilder_append_I : y_AbstractStringBuilder_append_I.cls ≠ "java/lang/invoke/MethodHandle" ∧ y_AbstractStringBuilder_append_I.cls ≠ "java/lang/invoke/VarHandle" ∧ (parseMethodDescriptor y_AbstractStringBuilder_append_I.desc).map (fun d => d.parameters.length) = some 1 := by decide +kernel
set_option maxHeartbeats 4000000 in
set_option maxRecDepth 100000 in
theorem h_max (l : Launch) (G : GT) (Hx : Heap) (x y : Int32) : Met l y_Math_max (.code y_Math_max b_Math_max 2 (some .int) :: WS) { frames := 0, cells := 0, slots := 0, locals := 0 } (hPre G [.int (x), .int (y)] (fun H9 => H9 = Hx)) (hQi G (fun r9 H9 => r9 = mxI x y ∧ H9 = Hx)) 0 0 (gAb G) := by
  refine h_startF (own := R_Math) (by decide +kernel) rfl (Nat.le_of_ble_eq_true rfl) ?_
  intro p e zs zm below meth zc ls C hI hl
  subst hI
  obtain ⟨hx, hb, hr, hml, hown, hts, hlk, hE, hbs⟩ := C
  have hK := hE.1
  have hl : lv_has ls 2 [(0, .int (x)), (1, .int (y))] := hl
  obtain ⟨locs, hlocs⟩ : ∃ l9 : List Loc, l9 = [] := ⟨_, rfl⟩
  rw [← hlocs]
  have hW : WW G zs.heap [] zs.heap locs := WW_nil hlocs
  refine lv_iload_n hx hb d_Math_max_0 rfl (lv_at hl 0 rfl) ?_
  refine lv_iload_n hx hb d_Math_max_1 rfl (lv_at hl 1 rfl) ?_
  refine lv_icmp_lt (tgt := 9) hx hb d_Math_max_2 (by decide) (fun c_1 => ?_) (fun c_1 => ?_)
  · skip
    refine lv_iload_n hx hb d_Math_max_9 rfl (lv_at hl 1 rfl) ?_
    exact h_iret hx hb hr hlk hW.2.2 ⟨by unfold mxI; rw [if_pos c_1], rfl⟩ (Nat.le_of_ble_eq_true rfl) (Nat.le_of_ble_eq_true rfl) d_Math_max_10
  · skip
    refine lv_iload_n hx hb d_Math_max_5 rfl (lv_at hl 0 rfl) ?_
    refine lv_goto (tgt := 10) hx hb d_Math_max_6 (by decide) ?_
    exact h_iret hx hb hr hlk hW.2.2 ⟨by unfold mxI; rw [if_neg c_1], rfl⟩ (Nat.le_of_ble_eq_true rfl) (Nat.le_of_ble_eq_true rfl) d_Math_max_10
set_option maxHeartbeats 4000000 in
set_option maxRecDepth 100000 in
theorem h_min (l : Launch) (G : GT) (Hx : Heap) (x y : Int32) : Met l y_Math_min (.code y_Math_min b_Math_min 2 (some .int) :: WS) { frames := 0, cells := 0, slots := 0, locals := 0 } (hPre G [.int (x), .int (y)] (fun H9 => H9 = Hx)) (hQi G (fun r9 H9 => r9 = mnI x y ∧ H9 = Hx)) 0 0 (gAb G) := by
  refine h_startF (own := R_Math) (by decide +kernel) rfl (Nat.le_of_ble_eq_true rfl) ?_
  intro p e zs zm below meth zc ls C hI hl
  subst hI
  obtain ⟨hx, hb, hr, hml, hown, hts, hlk, hE, hbs⟩ := C
  have hK := hE.1
  have hl : lv_has ls 2 [(0, .int (x)), (1, .int (y))] := hl
  obtain ⟨locs, hlocs⟩ : ∃ l9 : List Loc, l9 = [] := ⟨_, rfl⟩
  rw [← hlocs]
  have hW : WW G zs.heap [] zs.heap locs := WW_nil hlocs
  refine lv_iload_n hx hb d_Math_min_0 rfl (lv_at hl 0 rfl) ?_
  refine lv_iload_n hx hb d_Math_min_1 rfl (lv_at hl 1 rfl) ?_
  refine lv_icmp_gt (tgt := 9) hx hb d_Math_min_2 (by decide) (fun c_1 => ?_) (fun c_1 => ?_)
  · skip
    refine lv_iload_n hx hb d_Math_min_9 rfl (lv_at hl 1 rfl) ?_
    exact h_iret hx hb hr hlk hW.2.2 ⟨by unfold mnI; rw [if_pos c_1], rfl⟩ (Nat.le_of_ble_eq_true rfl) (Nat.le_of_ble_eq_true rfl) d_Math_min_10
  · skip
    refine lv_iload_n hx hb d_Math_min_5 rfl (lv_at hl 0 rfl) ?_
    refine lv_goto (tgt := 10) hx hb d_Math_min_6 (by decide) ?_
    exact h_iret hx hb hr hlk hW.2.2 ⟨by unfold mnI; rw [if_neg c_1], rfl⟩ (Nat.le_of_ble_eq_true rfl) (Nat.le_of_ble_eq_true rfl) d_Math_min_10
set_option maxHeartbeats 4000000 in
set_option maxRecDepth 100000 in
theorem h_newLength (l : Launch) (G : GT) (Hx : Heap) (b : Nat) (hb18 : b ≤ 18) : Met l y_ArraysSupport_newLength (.code y_ArraysSupport_newLength b_ArraysSupport_newLength 4 (some .int) :: WS) { frames := 1, cells := 0, slots := 0, locals := 21 } (hPre G [.int (nI 16), .int (nI b), .int (nI 18)] (fun H9 => H9 = Hx)) (hQi G (fun r9 H9 => r9 = nI 34 ∧ H9 = Hx)) 0 0 (gAb G) := by
  refine h_startF (own := R_ArraysSupport) (by decide +kernel) rfl (Nat.le_of_ble_eq_true rfl) ?_
  intro p e zs zm below meth zc ls C hI hl
  subst hI
  obtain ⟨hx, hb, hr, hml, hown, hts, hlk, hE, hbs⟩ := C
  have hK := hE.1
  have hl : lv_has ls 4 [(0, .int (nI 16)), (1, .int (nI b)), (2, .int (nI 18))] := hl
  obtain ⟨locs, hlocs⟩ : ∃ l9 : List Loc, l9 = [] := ⟨_, rfl⟩
  rw [← hlocs]
  have hW : WW G zs.heap [] zs.heap locs := WW_nil hlocs
  refine lv_iload_n hx hb d_ArraysSupport_newLength_0 rfl (lv_at hl 0 rfl) ?_
  refine lv_iload_n hx hb d_ArraysSupport_newLength_1 rfl (lv_at hl 1 rfl) ?_
  refine lv_iload_n hx hb d_ArraysSupport_newLength_2 rfl (lv_at hl 2 rfl) ?_
  refine h_ci (G := G) (h_runS (G := G) (G' := G) (I := fun Hz => Hz = zs.heap) hx hb hml hown hts hE hW.2.2 (Nat.le_refl _) rfl (Nat.le_trans hbs hW.2.2.1) rfl (h_max l G zs.heap (nI b) (nI 18)) kw_2 kw_3 kw_1 kw_0 rfl rfl hd_Math_max ⟨Nat.le_of_ble_eq_true rfl, Nat.le_of_ble_eq_true rfl⟩ (As := [.int (nI b), .int (nI 18)]) (rest := [.int (nI 16)]) rfl hl.1 rfl (Nat.le_of_ble_eq_true rfl) d_ArraysSupport_newLength_3 ⟨Nat.le_of_ble_eq_true rfl, Nat.le_of_ble_eq_true rfl⟩) hW.2.2 (Nat.le_refl _) (fun r9 H9 locs hJ hz9 hk9 hS9 => ?_)
  obtain ⟨hr9, hH9⟩ := hJ
  have hr9 := hr9.symm; subst hr9
  have hH9 := hH9.symm; subst hH9
  have hW : WW G zs.heap [] zs.heap locs := ⟨hW.1, hW.2.1, hS9⟩
  refine e_top (v := nI 18) (mx18 hb18) ?_
  refine lv_iadd hx hb d_ArraysSupport_newLength_6 ?_
  refine e_top (v := nI (16 + 18)) (nI_add (16) (18)) ?_
  refine lv_istore_n (lv' := [(3, .int (nI (16 + 18))), (0, .int (nI 16)), (1, .int (nI b)), (2, .int (nI 18))]) hx hb d_ArraysSupport_newLength_7 rfl hl (by decide) rfl (fun ls hl => ?_)
  refine lv_iconst (v := 0) hx hb d_ArraysSupport_newLength_8 (by decide) ?_
  refine lv_iload_n hx hb d_ArraysSupport_newLength_9 rfl (lv_at hl 0 rfl) ?_
  refine lv_icmp_ge (tgt := 21) hx hb d_ArraysSupport_newLength_10 (by decide) (fun c_1 => ?_) (fun c_1 => ?_)
  · skip
    exact absurd c_1 (by decide)
  · skip
    refine lv_iload_n hx hb d_ArraysSupport_newLength_13 rfl (lv_at hl 0 rfl) ?_
    refine lv_ldc (v := 2147483639) hx hb hown (hts _ kw_4) d_ArraysSupport_newLength_14 ?_
    refine lv_icmp_gt (tgt := 21) hx hb d_ArraysSupport_newLength_16 (by decide) (fun c_2 => ?_) (fun c_2 => ?_)
    · skip
      exact absurd c_2 (by decide)
    · skip
      refine lv_iload_n hx hb d_ArraysSupport_newLength_19 rfl (lv_at hl 0 rfl) ?_
      exact h_iret hx hb hr hlk hW.2.2 ⟨rfl, rfl⟩ (Nat.le_of_ble_eq_true rfl) (Nat.le_of_ble_eq_true rfl) d_ArraysSupport_newLength_20
set_option maxHeartbeats 4000000 in
set_option maxRecDepth 100000 in
theorem h_asbL1 (l : Launch) (G : GT) (Hx : Heap) (sa va n m : Nat) (a : Nat → Int32) (hP : va_P G.1 gcl [(sa, .inr (iSB, [.ref va, .int (0), .int (0), .int (nI n)])), (va, aI (gC G 8) (m) (a))] Hx) (hD : va_D (gAb G) [(sa, .inr (iSB, [.ref va, .int (0), .int (0), .int (nI n)])), (va, aI (gC G 8) (m) (a))]) : Met l y_AbstractStringBuilder_isLatin1 (.code y_AbstractStringBuilder_isLatin1 b_AbstractStringBuilder_isLatin1 1 (some .boolean) :: WS) { frames := 0, cells := 0, slots := 0, locals := 0 } (hPre G [.ref sa] (fun H9 => H9 = Hx)) (hQi G (fun r9 H9 => r9 = 1 ∧ H9 = Hx)) 0 0 (gAb G) := by
  refine h_startF (own := R_AbstractStringBuilder) (by decide +kernel) rfl (Nat.le_of_ble_eq_true rfl) ?_
  intro p e zs zm below meth zc ls C hI hl
  subst hI
  obtain ⟨hx, hb, hr, hml, hown, hts, hlk, hE, hbs⟩ := C
  have hK := hE.1
  have hl : lv_has ls 1 [(0, .ref sa)] := hl
  obtain ⟨locs, hlocs⟩ : ∃ l9 : List Loc, l9 = [] := ⟨_, rfl⟩
  rw [← hlocs]
  have hW : WW G zs.heap [(sa, .inr (iSB, [.ref va, .int (0), .int (0), .int (nI n)])), (va, aI (gC G 8) (m) (a))] zs.heap locs := ⟨hP, hD, by rw [hlocs]; exact va_S.rf⟩
  obtain ⟨eC, eF, ⟨tO, eO, eO'⟩, ⟨tT, eT, eT'⟩, ⟨aK, aV, eL, eL'⟩, eA, eV, eM⟩ := hE.2.2.2.2.2.2.2.2.2
  refine va_gets hx hb eC hW.2.2 hown (hts _ kw_5) (fun _ h => h) d_AbstractStringBuilder_isLatin1_0 ?_
  refine lv_if_eq (tgt := 17) hx hb d_AbstractStringBuilder_isLatin1_3 (by decide) (fun c_1 => ?_) (fun c_1 => ?_)
  · exact absurd c_1 (by decide)
  · skip
    refine lv_aload_n hx hb d_AbstractStringBuilder_isLatin1_6 rfl (lv_at hl 0 rfl) ?_
    refine va_get (v := .int (0)) hx hb hts i_SB hown hK hW.1 0 rfl rfl 1 (by decide) (hts _ kw_6) (fun _ h => h) rfl d_AbstractStringBuilder_isLatin1_7 ?_
    refine lv_if_ne (tgt := 17) hx hb d_AbstractStringBuilder_isLatin1_10 (by decide) (fun c_2 => ?_) (fun c_2 => ?_)
    · exact absurd c_2 (by decide)
    · skip
      refine lv_iconst (v := 1) hx hb d_AbstractStringBuilder_isLatin1_13 (by decide) ?_
      refine lv_goto (tgt := 18) hx hb d_AbstractStringBuilder_isLatin1_14 (by decide) ?_
      exact h_zret hx hb hr hlk hW.2.2 (rfl) ⟨rfl, rfl⟩ (Nat.le_of_ble_eq_true rfl) (Nat.le_of_ble_eq_true rfl) d_AbstractStringBuilder_isLatin1_18
set_option maxHeartbeats 4000000 in
set_option maxRecDepth 100000 in
theorem h_canEnc (l : Launch) (G : GT) (Hx : Heap) (c : Nat) (hc : c < 256) : Met l y_StringLatin1_canEncode (.code y_StringLatin1_canEncode b_StringLatin1_canEncode 1 (some .boolean) :: WS) { frames := 0, cells := 0, slots := 0, locals := 0 } (hPre G [.int (nI c)] (fun H9 => H9 = Hx)) (hQi G (fun r9 H9 => r9 = 1 ∧ H9 = Hx)) 0 0 (gAb G) := by
  refine h_startF (own := R_StringLatin1) (by decide +kernel) rfl (Nat.le_of_ble_eq_true rfl) ?_
  intro p e zs zm below meth zc ls C hI hl
  subst hI
  obtain ⟨hx, hb, hr, hml, hown, hts, hlk, hE, hbs⟩ := C
  have hK := hE.1
  have hl : lv_has ls 1 [(0, .int (nI c))] := hl
  obtain ⟨locs, hlocs⟩ : ∃ l9 : List Loc, l9 = [] := ⟨_, rfl⟩
  rw [← hlocs]
  have hW : WW G zs.heap [] zs.heap locs := WW_nil hlocs
  refine lv_iload_n hx hb d_StringLatin1_canEncode_0 rfl (lv_at hl 0 rfl) ?_
  refine lv_sipush (v := 255) hx hb d_StringLatin1_canEncode_1 (by decide) ?_
  refine lv_icmp_gt (tgt := 11) hx hb d_StringLatin1_canEncode_4 (by decide) (fun c_1 => ?_) (fun c_1 => ?_)
  · skip
    exact absurd c_1 (nI_nlt (a := 255) (b := c) (by omega) (by decide))
  · skip
    refine lv_iconst (v := 1) hx hb d_StringLatin1_canEncode_7 (by decide) ?_
    refine lv_goto (tgt := 12) hx hb d_StringLatin1_canEncode_8 (by decide) ?_
    exact h_zret hx hb hr hlk hW.2.2 (rfl) ⟨rfl, rfl⟩ (Nat.le_of_ble_eq_true rfl) (Nat.le_of_ble_eq_true rfl) d_StringLatin1_canEncode_12
set_option maxHeartbeats 4000000 in
set_option maxRecDepth 100000 in
theorem h_newCap (l : Launch) (G : GT) (Hx : Heap) (sa va n q : Nat) (a : Nat → Int32) (hq1 : 16 < q) (hq2 : q ≤ 34) (hP : va_P G.1 gcl [(sa, .inr (iSB, [.ref va, .int (0), .int (0), .int (nI n)])), (va, aI (gC G 8) (16) (a))] Hx) (hD : va_D (gAb G) [(sa, .inr (iSB, [.ref va, .int (0), .int (0), .int (nI n)])), (va, aI (gC G 8) (16) (a))]) : Met l y_AbstractStringBuilder_newCapacity (.code y_AbstractStringBuilder_newCapacity b_AbstractStringBuilder_newCapacity 6 (some .int) :: WS) { frames := 2, cells := 0, slots := 0, locals := 44 } (hPre G [.ref sa, .int (nI q)] (fun H9 => H9 = Hx)) (hQi G (fun r9 H9 => r9 = nI 34 ∧ H9 = Hx)) 0 0 (gAb G) := by
  refine h_startF (own := R_AbstractStringBuilder) (by decide +kernel) rfl (Nat.le_of_ble_eq_true rfl) ?_
  intro p e zs zm below meth zc ls C hI hl
  subst hI
  obtain ⟨hx, hb, hr, hml, hown, hts, hlk, hE, hbs⟩ := C
  have hK := hE.1
  have hl : lv_has ls 6 [(0, .ref sa), (1, .int (nI q))] := hl
  obtain ⟨locs, hlocs⟩ : ∃ l9 : List Loc, l9 = [] := ⟨_, rfl⟩
  rw [← hlocs]
  have hW : WW G zs.heap [(sa, .inr (iSB, [.ref va, .int (0), .int (0), .int (nI n)])), (va, aI (gC G 8) (16) (a))] zs.heap locs := ⟨hP, hD, by rw [hlocs]; exact va_S.rf⟩
  refine lv_aload_n hx hb d_AbstractStringBuilder_newCapacity_0 rfl (lv_at hl 0 rfl) ?_
  refine va_get (v := .ref va) hx hb hts i_SB hown hK hW.1 0 rfl rfl 0 (by decide) (hts _ kw_7) (fun _ h => h) rfl d_AbstractStringBuilder_newCapacity_1 ?_
  refine va_alen (v := nI (16)) hx hb hK hW.1 1 8 rfl (ty := .byte) rfl rfl d_AbstractStringBuilder_newCapacity_4 ?_
  refine lv_istore_n (lv' := [(2, .int (nI (16))), (0, .ref sa), (1, .int (nI q))]) hx hb d_AbstractStringBuilder_newCapacity_5 rfl hl (by decide) rfl (fun ls hl => ?_)
  refine lv_iload_n hx hb d_AbstractStringBuilder_newCapacity_6 rfl (lv_at hl 2 rfl) ?_
  refine lv_aload_n hx hb d_AbstractStringBuilder_newCapacity_7 rfl (lv_at hl 1 rfl) ?_
  refine va_get (v := .int (0)) hx hb hts i_SB hown hK hW.1 0 rfl rfl 1 (by decide) (hts _ kw_6) (fun _ h => h) rfl d_AbstractStringBuilder_newCapacity_8 ?_
  refine lv_ishl hx hb d_AbstractStringBuilder_newCapacity_11 ?_
  refine e_top (v := nI q) (sb_shl0 _) ?_
  refine lv_istore_n (lv' := [(3, .int (nI q)), (2, .int (nI (16))), (0, .ref sa), (1, .int (nI q))]) hx hb d_AbstractStringBuilder_newCapacity_12 rfl hl (by decide) rfl (fun ls hl => ?_)
  refine lv_iload_n hx hb d_AbstractStringBuilder_newCapacity_13 rfl (lv_at hl 0 rfl) ?_
  refine lv_iload_n hx hb d_AbstractStringBuilder_newCapacity_14 rfl (lv_at hl 1 rfl) ?_
  refine lv_isub hx hb d_AbstractStringBuilder_newCapacity_15 ?_
  refine e_top (v := nI (q - 16)) (pk_sub (a := q) (b := 16) (by omega)) ?_
  refine lv_istore (lv' := [(4, .int (nI (q - 16))), (3, .int (nI q)), (2, .int (nI (16))), (0, .ref sa), (1, .int (nI q))]) hx hb d_AbstractStringBuilder_newCapacity_16 hl (by decide) rfl (fun ls hl => ?_)
  refine lv_iload_n hx hb d_AbstractStringBuilder_newCapacity_18 rfl (lv_at hl 2 rfl) ?_
  refine lv_iload hx hb d_AbstractStringBuilder_newCapacity_19 (lv_at hl 0 rfl) ?_
  refine lv_iload_n hx hb d_AbstractStringBuilder_newCapacity_21 rfl (lv_at hl 2 rfl) ?_
  refine lv_iconst (v := 2) hx hb d_AbstractStringBuilder_newCapacity_22 (by decide) ?_
  refine lv_aload_n hx hb d_AbstractStringBuilder_newCapacity_23 rfl (lv_at hl 3 rfl) ?_
  refine va_get (v := .int (0)) hx hb hts i_SB hown hK hW.1 0 rfl rfl 1 (by decide) (hts _ kw_6) (fun _ h => h) rfl d_AbstractStringBuilder_newCapacity_24 ?_
  refine lv_ishl hx hb d_AbstractStringBuilder_newCapacity_27 ?_
  refine e_top (v := 2) (sb_shl0 _) ?_
  refine lv_iadd hx hb d_AbstractStringBuilder_newCapacity_28 ?_
  refine e_top (v := nI (16 + 2)) (nI_add (16) (2)) ?_
  refine e_top (v := nI 18) rfl ?_
  refine h_ci (G := G) (h_runS (G := G) (G' := G) (I := fun Hz => Hz = zs.heap) hx hb hml hown hts hE hW.2.2 (Nat.le_refl _) rfl (Nat.le_trans hbs hW.2.2.1) rfl (h_newLength l G zs.heap (q - 16) (by omega)) kw_10 kw_11 kw_9 kw_8 rfl rfl hd_ArraysSupport_newLength ⟨Nat.le_of_ble_eq_true rfl, Nat.le_of_ble_eq_true rfl⟩ (As := [.int (nI (16)), .int (nI (q - 16)), .int (nI 18)]) (rest := []) rfl hl.1 rfl (Nat.le_of_ble_eq_true rfl) d_AbstractStringBuilder_newCapacity_29 ⟨Nat.le_of_ble_eq_true rfl, Nat.le_of_ble_eq_true rfl⟩) hW.2.2 (Nat.le_refl _) (fun r9 H9 locs hJ hz9 hk9 hS9 => ?_)
  obtain ⟨hr9, hH9⟩ := hJ
  have hr9 := hr9.symm; subst hr9
  have hH9 := hH9.symm; subst hH9
  have hW : WW G zs.heap [(sa, .inr (iSB, [.ref va, .int (0), .int (0), .int (nI n)])), (va, aI (gC G 8) (16) (a))] zs.heap locs := ⟨hW.1, hW.2.1, hS9⟩
  refine lv_istore (lv' := [(5, .int (nI 34)), (4, .int (nI (q - 16))), (3, .int (nI q)), (2, .int (nI (16))), (0, .ref sa), (1, .int (nI q))]) hx hb d_AbstractStringBuilder_newCapacity_32 hl (by decide) rfl (fun ls hl => ?_)
  refine lv_iload hx hb d_AbstractStringBuilder_newCapacity_34 (lv_at hl 0 rfl) ?_
  refine lv_ldc (v := 2147483647) hx hb hown (hts _ kw_12) d_AbstractStringBuilder_newCapacity_36 ?_
  refine lv_icmp_ne (tgt := 51) hx hb d_AbstractStringBuilder_newCapacity_38 (by decide) (fun c_1 => ?_) (fun c_1 => ?_)
  · skip
    refine lv_iload hx hb d_AbstractStringBuilder_newCapacity_51 (lv_at hl 0 rfl) ?_
    refine lv_aload_n hx hb d_AbstractStringBuilder_newCapacity_53 rfl (lv_at hl 4 rfl) ?_
    refine va_get (v := .int (0)) hx hb hts i_SB hown hK hW.1 0 rfl rfl 1 (by decide) (hts _ kw_6) (fun _ h => h) rfl d_AbstractStringBuilder_newCapacity_54 ?_
    refine lv_ishr hx hb d_AbstractStringBuilder_newCapacity_57 ?_
    refine e_top (v := nI 34) (sb_shr0 _) ?_
    exact h_iret hx hb hr hlk hW.2.2 ⟨rfl, rfl⟩ (Nat.le_of_ble_eq_true rfl) (Nat.le_of_ble_eq_true rfl) d_AbstractStringBuilder_newCapacity_58
  · skip
    exact absurd c_1 (by decide)
set_option maxHeartbeats 4000000 in
set_option maxRecDepth 100000 in
theorem h_copyOf (l : Launch) (G : GT) (Hx : Heap) (sa va n : Nat) (a : Nat → Int32) (hf : sb_Fit a) (hP : va_P G.1 gcl [(sa, .inr (iSB, [.ref va, .int (0), .int (0), .int (nI n)])), (va, aI (gC G 8) (16) (a))] Hx) (hD : va_D (gAb G) [(sa, .inr (iSB, [.ref va, .int (0), .int (0), .int (nI n)])), (va, aI (gC G 8) (16) (a))]) : Met l y_Arrays_copyOf (.code y_Arrays_copyOf b_Arrays_copyOf 3 (some (.array .byte)) :: WS) { frames := 1, cells := 1, slots := 34, locals := 40 } (hPre G [.ref va, .int (nI 34)] (fun H9 => H9 = Hx)) (hQr G (fun r9 H9 => va_P G.1 gcl (sbW G sa va n 16 a ++ [(r9, aI (gC G 8) 34 (va_cpy a (fun _ => 0) 0 0 16))]) H9 ∧ va_D (gAb G) (sbW G sa va n 16 a ++ [(r9, aI (gC G 8) 34 (va_cpy a (fun _ => 0) 0 0 16))]))) 1 34 (gAb G) := by
  refine h_startF (own := R_Arrays) (by decide +kernel) rfl (Nat.le_of_ble_eq_true rfl) ?_
  intro p e zs zm below meth zc ls C hI hl
  subst hI
  obtain ⟨hx, hb, hr, hml, hown, hts, hlk, hE, hbs⟩ := C
  have hK := hE.1
  have hl : lv_has ls 3 [(0, .ref va), (1, .int (nI 34))] := hl
  obtain ⟨locs, hlocs⟩ : ∃ l9 : List Loc, l9 = [] := ⟨_, rfl⟩
  rw [← hlocs]
  have hW : WW G zs.heap [(sa, .inr (iSB, [.ref va, .int (0), .int (0), .int (nI n)])), (va, aI (gC G 8) (16) (a))] zs.heap locs := ⟨hP, hD, by rw [hlocs]; exact va_S.rf⟩
  refine lv_iload_n hx hb d_Arrays_copyOf_0 rfl (lv_at hl 1 rfl) ?_
  refine lv_aload_n hx hb d_Arrays_copyOf_1 rfl (lv_at hl 0 rfl) ?_
  refine va_alen (v := nI (16)) hx hb hK hW.1 1 8 rfl (ty := .byte) rfl rfl d_Arrays_copyOf_2 ?_
  refine lv_icmp_ne (tgt := 14) hx hb d_Arrays_copyOf_3 (by decide) (fun c_1 => ?_) (fun c_1 => ?_)
  · skip
    refine lv_iload_n hx hb d_Arrays_copyOf_14 rfl (lv_at hl 1 rfl) ?_
    obtain ⟨na_2, e_na_2⟩ : ∃ q9 : Nat, q9 = Array.size zs.heap := ⟨_, rfl⟩
    refine h_newa (G := G) (atype := .byte) (t0 := 8) (N' := 34) (a0 := (34, .inl (fun _ => 0))) hx hb hts kw_13 (List.mem_of_getElem? (i := 8) rfl) hE hW.2.2 (fun _ => by first | rfl | (rw [vp_cell_i]; rfl)) (by decide) (by decide) (by decide) (Nat.le_of_ble_eq_true rfl) (Nat.le_of_ble_eq_true rfl) d_Arrays_copyOf_15 (fun H ha9 hz9 hk9 hS9 => ?_)
    have hW := WW_push hW hbs ha9 hk9 hS9
    rw [← e_na_2] at hW ⊢
    have hW : WW G zs.heap [(sa, .inr (iSB, [.ref va, .int (0), .int (0), .int (nI n)])), (va, aI (gC G 8) (16) (a)), (na_2, aI (gC G 8) (34) (fun _ => 0))] H locs := hW
    refine lv_astore_n (lv' := [(2, .ref na_2), (0, .ref va), (1, .int (nI 34))]) hx hb d_Arrays_copyOf_17 rfl hl (by decide) rfl (fun ls hl => ?_)
    refine lv_aload_n hx hb d_Arrays_copyOf_18 rfl (lv_at hl 1 rfl) ?_
    refine lv_iconst (v := 0) hx hb d_Arrays_copyOf_19 (by decide) ?_
    refine lv_aload_n hx hb d_Arrays_copyOf_20 rfl (lv_at hl 0 rfl) ?_
    refine lv_iconst (v := 0) hx hb d_Arrays_copyOf_21 (by decide) ?_
    refine lv_aload_n hx hb d_Arrays_copyOf_22 rfl (lv_at hl 1 rfl) ?_
    refine va_alen (v := nI (16)) hx hb hK hW.1 1 8 rfl (ty := .byte) rfl rfl d_Arrays_copyOf_23 ?_
    refine lv_iload_n hx hb d_Arrays_copyOf_24 rfl (lv_at hl 2 rfl) ?_
    refine h_ci (G := G) (h_runS (G := G) (G' := G) (I := fun Hz => Hz = H) hx hb hml hown hts hE hW.2.2 (Nat.le_refl _) rfl (Nat.le_trans hbs hW.2.2.1) rfl (h_min l G H (nI (16)) (nI 34)) kw_15 kw_16 kw_1 kw_14 rfl rfl hd_Math_min ⟨Nat.le_of_ble_eq_true rfl, Nat.le_of_ble_eq_true rfl⟩ (As := [.int (nI (16)), .int (nI 34)]) (rest := [.int (0), .ref na_2, .int (0), .ref va]) rfl hl.1 rfl (Nat.le_of_ble_eq_true rfl) d_Arrays_copyOf_25 ⟨Nat.le_of_ble_eq_true rfl, Nat.le_of_ble_eq_true rfl⟩) hW.2.2 (Nat.le_refl _) (fun r9 H9 locs hJ hz9 hk9 hS9 => ?_)
    obtain ⟨hr9, hH9⟩ := hJ
    have hr9 := hr9.symm; subst hr9
    have hH9 := hH9.symm; subst hH9
    have hW : WW G zs.heap [(sa, .inr (iSB, [.ref va, .int (0), .int (0), .int (nI n)])), (va, aI (gC G 8) (16) (a)), (na_2, aI (gC G 8) (34) (fun _ => 0))] H locs := ⟨hW.1, hW.2.1, hS9⟩
    refine e_top (v := nI 16) (by decide) ?_
    refine va_copyi (rest := []) hx hb (by rw [hml]; exact hl.1.symm) hown (hts _ kw_17) (hts _ kw_18) (hts _ kw_19) (hts _ kw_20) hK hW.1 hW.2.1 hW.2.2 1 2 8 8 rfl rfl rfl rfl (by decide) (by decide) (by decide) (by decide) (by decide) (by decide) (fun _ _ => hf _) (Nat.le_of_ble_eq_true rfl) (by decide) d_Arrays_copyOf_28 (fun H locs h1 h2 h3 => ?_)
    rw [sb_cl0, show (nI 16).toNatClampNeg = 16 by decide] at h1 h2
    have hW : WW G zs.heap [(sa, .inr (iSB, [.ref va, .int (0), .int (0), .int (nI n)])), (va, aI (gC G 8) (16) (a)), (na_2, aI (gC G 8) (34) (va_cpy (a) (fun _ => 0) 0 0 16))] H locs := ⟨h1, h2, h3⟩
    refine lv_aload_n hx hb d_Arrays_copyOf_31 rfl (lv_at hl 0 rfl) ?_
    exact h_aret hx hb hr (Or.inr ⟨_, rfl⟩) hlk hW.2.2 ⟨hW.1, hW.2.1⟩ (Nat.le_of_ble_eq_true rfl) (Nat.le_of_ble_eq_true rfl) d_Arrays_copyOf_32
  · skip
    exact absurd c_1 (by decide)
set_option maxHeartbeats 4000000 in
set_option maxRecDepth 100000 in
theorem h_ensure (l : Launch) (G : GT) (Hx : Heap) (sa va n m q : Nat) (a : Nat → Int32) (hf : sb_Fit a) (hm : m = 16 ∨ m = 34) (hq2 : q ≤ 34) (hP : va_P G.1 gcl [(sa, .inr (iSB, [.ref va, .int (0), .int (0), .int (nI n)])), (va, aI (gC G 8) (m) (a))] Hx) (hD : va_D (gAb G) [(sa, .inr (iSB, [.ref va, .int (0), .int (0), .int (nI n)])), (va, aI (gC G 8) (m) (a))]) : Met l y_AbstractStringBuilder_ensureCapacityInternal (.code y_AbstractStringBuilder_ensureCapacityInternal b_AbstractStringBuilder_ensureCapacityInternal 3 none :: WS) { frames := 3, cells := 1, slots := 34, locals := 69 } (hPre G [.ref sa, .int (nI q)] (fun H9 => H9 = Hx)) (hQv G (fun H9 => ∃ (va1 m1 : Nat) (a1 : Nat → Int32), va_P G.1 gcl (sbW G sa va1 n m1 a1) H9 ∧ va_D (gAb G) (sbW G sa va1 n m1 a1) ∧ sb_Fit a1 ∧ q ≤ m1 ∧ (m1 = 16 ∨ m1 = 34) ∧ ∀ j, j < m → a1 j = a j)) 1 34 (gAb G) := by
  refine h_startF (own := R_AbstractStringBuilder) (by decide +kernel) rfl (Nat.le_of_ble_eq_true rfl) ?_
  intro p e zs zm below meth zc ls C hI hl
  subst hI
  obtain ⟨hx, hb, hr, hml, hown, hts, hlk, hE, hbs⟩ := C
  have hK := hE.1
  have hl : lv_has ls 3 [(0, .ref sa), (1, .int (nI q))] := hl
  obtain ⟨locs, hlocs⟩ : ∃ l9 : List Loc, l9 = [] := ⟨_, rfl⟩
  rw [← hlocs]
  have hW : WW G zs.heap [(sa, .inr (iSB, [.ref va, .int (0), .int (0), .int (nI n)])), (va, aI (gC G 8) (m) (a))] zs.heap locs := ⟨hP, hD, by rw [hlocs]; exact va_S.rf⟩
  refine lv_aload_n hx hb d_AbstractStringBuilder_ensureCapacityInternal_0 rfl (lv_at hl 0 rfl) ?_
  refine va_get (v := .ref va) hx hb hts i_SB hown hK hW.1 0 rfl rfl 0 (by decide) (hts _ kw_7) (fun _ h => h) rfl d_AbstractStringBuilder_ensureCapacityInternal_1 ?_
  refine va_alen (v := nI (m)) hx hb hK hW.1 1 8 rfl (ty := .byte) rfl rfl d_AbstractStringBuilder_ensureCapacityInternal_4 ?_
  refine lv_aload_n hx hb d_AbstractStringBuilder_ensureCapacityInternal_5 rfl (lv_at hl 0 rfl) ?_
  refine va_get (v := .int (0)) hx hb hts i_SB hown hK hW.1 0 rfl rfl 1 (by decide) (hts _ kw_6) (fun _ h => h) rfl d_AbstractStringBuilder_ensureCapacityInternal_6 ?_
  refine lv_ishr hx hb d_AbstractStringBuilder_ensureCapacityInternal_9 ?_
  refine e_top (v := nI (m)) (sb_shr0 _) ?_
  refine lv_istore_n (lv' := [(2, .int (nI (m))), (0, .ref sa), (1, .int (nI q))]) hx hb d_AbstractStringBuilder_ensureCapacityInternal_10 rfl hl (by decide) rfl (fun ls hl => ?_)
  refine lv_iload_n hx hb d_AbstractStringBuilder_ensureCapacityInternal_11 rfl (lv_at hl 2 rfl) ?_
  refine lv_iload_n hx hb d_AbstractStringBuilder_ensureCapacityInternal_12 rfl (lv_at hl 0 rfl) ?_
  refine lv_isub hx hb d_AbstractStringBuilder_ensureCapacityInternal_13 ?_
  refine lv_if_le (tgt := 38) hx hb d_AbstractStringBuilder_ensureCapacityInternal_14 (by decide) (fun c_1 => ?_) (fun c_1 => ?_)
  · skip
    exact h_vret hx hb hr hlk hW.2.2 ⟨va, m, a, hW.1, hW.2.1, hf, sb_qle hm hq2 c_1, hm, fun _ _ => rfl⟩ (Nat.le_of_ble_eq_true rfl) (Nat.le_of_ble_eq_true rfl) d_AbstractStringBuilder_ensureCapacityInternal_38
  · skip
    obtain ⟨rfl, hq1⟩ := sb_m16 hm hq2 c_1
    refine lv_aload_n hx hb d_AbstractStringBuilder_ensureCapacityInternal_17 rfl (lv_at hl 1 rfl) ?_
    refine lv_aload_n hx hb d_AbstractStringBuilder_ensureCapacityInternal_18 rfl (lv_at hl 1 rfl) ?_
    refine va_get (v := .ref va) hx hb hts i_SB hown hK hW.1 0 rfl rfl 0 (by decide) (hts _ kw_7) (fun _ h => h) rfl d_AbstractStringBuilder_ensureCapacityInternal_19 ?_
    refine lv_aload_n hx hb d_AbstractStringBuilder_ensureCapacityInternal_22 rfl (lv_at hl 1 rfl) ?_
    refine lv_iload_n hx hb d_AbstractStringBuilder_ensureCapacityInternal_23 rfl (lv_at hl 2 rfl) ?_
    refine h_ci (G := G) (h_runV (C := R_SB) (G := G) (G' := G) (I := fun Hz => Hz = zs.heap) hx hb hml hown hts hE hW.2.2 (Nat.le_refl _) rfl (Nat.le_trans hbs hW.2.2.1) rfl hW.1 0 rfl rfl (h_newCap l G zs.heap _ _ _ (q) _ (by omega) (by omega) hW.1 hW.2.1) kw_23 kw_24 (va_Nw.use rfl (hE.2.2.2.2.2.2.2.2.2.2.2.2.2.2.2.2.2 _ (List.mem_of_getElem? (i := 1) rfl))) kw_22 kw_21 rfl rfl hd_AbstractStringBuilder_newCapacity ⟨Nat.le_of_ble_eq_true rfl, Nat.le_of_ble_eq_true rfl⟩ (As := [.int (nI q)]) (rest := [.ref va, .ref sa]) rfl hl.1 rfl (Nat.le_of_ble_eq_true rfl) d_AbstractStringBuilder_ensureCapacityInternal_24 ⟨Nat.le_of_ble_eq_true rfl, Nat.le_of_ble_eq_true rfl⟩) hW.2.2 (Nat.le_refl _) (fun r9 H9 locs hJ hz9 hk9 hS9 => ?_)
    obtain ⟨hr9, hH9⟩ := hJ
    have hr9 := hr9.symm; subst hr9
    have hH9 := hH9.symm; subst hH9
    have hW : WW G zs.heap [(sa, .inr (iSB, [.ref va, .int (0), .int (0), .int (nI n)])), (va, aI (gC G 8) (16) (a))] zs.heap locs := ⟨hW.1, hW.2.1, hS9⟩
    refine lv_aload_n hx hb d_AbstractStringBuilder_ensureCapacityInternal_27 rfl (lv_at hl 1 rfl) ?_
    refine va_get (v := .int (0)) hx hb hts i_SB hown hK hW.1 0 rfl rfl 1 (by decide) (hts _ kw_6) (fun _ h => h) rfl d_AbstractStringBuilder_ensureCapacityInternal_28 ?_
    refine lv_ishl hx hb d_AbstractStringBuilder_ensureCapacityInternal_31 ?_
    refine e_top (v := nI 34) (sb_shl0 _) ?_
    refine h_cr (G := G) (h_runS (G := G) (G' := G) (I := fun Hz => Hz = zs.heap) hx hb hml hown hts hE hW.2.2 (Nat.le_refl _) rfl (Nat.le_trans hbs hW.2.2.1) rfl (h_copyOf l G zs.heap _ _ _ _ hf hW.1 hW.2.1) kw_27 kw_28 kw_26 kw_25 rfl rfl hd_Arrays_copyOf ⟨Nat.le_of_ble_eq_true rfl, Nat.le_of_ble_eq_true rfl⟩ (As := [.ref va, .int (nI 34)]) (rest := [.ref sa]) rfl hl.1 rfl (Nat.le_of_ble_eq_true rfl) d_AbstractStringBuilder_ensureCapacityInternal_32 ⟨Nat.le_of_ble_eq_true rfl, Nat.le_of_ble_eq_true rfl⟩) hW.2.2 (Nat.le_refl _) (fun r9 H9 locs hJ hz9 hk9 hS9 => ?_)
    obtain ⟨hJ1, hJ2⟩ := hJ
    have hW : WW G zs.heap [(sa, .inr (iSB, [.ref va, .int (0), .int (0), .int (nI n)])), (va, aI (gC G 8) (16) (a)), (r9, aI (gC G 8) (34) (va_cpy a (fun _ => 0) 0 0 16))] H9 locs := ⟨hJ1, hJ2, hS9⟩
    skip
    refine va_put hx hb hts i_SB t_SB t_SB_ok n_SB hown hK hW.1 hW.2.1 hW.2.2 0 rfl rfl 0 (by decide) (hts _ kw_7) (fun _ h => h) rfl (t_SB_ok 0 (by decide)) rfl rfl (Nat.le_of_ble_eq_true rfl) d_AbstractStringBuilder_ensureCapacityInternal_35 (fun H locs h1 h2 h3 => ?_)
    have hW : WW G zs.heap [(sa, .inr (iSB, [.ref r9, .int (0), .int (0), .int (nI n)])), (va, aI (gC G 8) (16) (a)), (r9, aI (gC G 8) (34) (va_cpy a (fun _ => 0) 0 0 16))] H locs := ⟨h1, h2, h3⟩
    have hV := WW_sub (ws' := sbW G sa r9 n 34 (va_cpy a (fun _ => 0) 0 0 16)) hW [0, 2] (by decide) rfl
    exact h_vret hx hb hr hlk hW.2.2 ⟨r9, 34, _, hV.1, hV.2.1, sb_fitC hf sb_fit0, hq2, Or.inr rfl, fun j hj => sb_cpy0 hj⟩ (Nat.le_of_ble_eq_true rfl) (Nat.le_of_ble_eq_true rfl) d_AbstractStringBuilder_ensureCapacityInternal_38
set_option maxHeartbeats 4000000 in
set_option maxRecDepth 100000 in
theorem h_asbAppC (l : Launch) (G : GT) (Hx : Heap) (sa va m : Nat) (t : List Nat) (a : Nat → Int32) (hL : sbL t a) (hf : sb_Fit a) (hnm : t.length ≤ m) (hm : m = 16 ∨ m = 34) (c : Nat) (hc : c < 256) (hn34 : t.length < 34) (hP : va_P G.1 gcl [(sa, .inr (iSB, [.ref va, .int (0), .int (0), .int (nI (t.length))])), (va, aI (gC G 8) (m) (a))] Hx) (hD : va_D (gAb G) [(sa, .inr (iSB, [.ref va, .int (0), .int (0), .int (nI (t.length))])), (va, aI (gC G 8) (m) (a))]) : Met l y_AbstractStringBuilder_append_C (.code y_AbstractStringBuilder_append_C b_AbstractStringBuilder_append_C 2 (some (.object "java/lang/AbstractStringBuilder")) :: WS) { frames := 4, cells := 1, slots := 34, locals := 91 } (hPre G [.ref sa, .int (nI c)] (fun H9 => H9 = Hx)) (hQr G (fun r9 H9 => r9 = sa ∧ SBH G sa (t ++ [c]) H9)) 1 34 (gAb G) := by
  refine h_startF (own := R_AbstractStringBuilder) (by decide +kernel) rfl (Nat.le_of_ble_eq_true rfl) ?_
  intro p e zs zm below meth zc ls C hI hl
  subst hI
  obtain ⟨hx, hb, hr, hml, hown, hts, hlk, hE, hbs⟩ := C
  have hK := hE.1
  have hl : lv_has ls 2 [(0, .ref sa), (1, .int (nI c))] := hl
  obtain ⟨locs, hlocs⟩ : ∃ l9 : List Loc, l9 = [] := ⟨_, rfl⟩
  rw [← hlocs]
  have hW : WW G zs.heap [(sa, .inr (iSB, [.ref va, .int (0), .int (0), .int (nI (t.length))])), (va, aI (gC G 8) (m) (a))] zs.heap locs := ⟨hP, hD, by rw [hlocs]; exact va_S.rf⟩
  refine lv_aload_n hx hb d_AbstractStringBuilder_append_C_0 rfl (lv_at hl 0 rfl) ?_
  refine lv_aload_n hx hb d_AbstractStringBuilder_append_C_1 rfl (lv_at hl 0 rfl) ?_
  refine va_get (v := .int (nI (t.length))) hx hb hts i_SB hown hK hW.1 0 rfl rfl 3 (by decide) (hts _ kw_29) (fun _ h => h) rfl d_AbstractStringBuilder_append_C_2 ?_
  refine lv_iconst (v := 1) hx hb d_AbstractStringBuilder_append_C_5 (by decide) ?_
  refine lv_iadd hx hb d_AbstractStringBuilder_append_C_6 ?_
  refine e_top (v := nI (t.length + 1)) (nI_add (t.length) (1)) ?_
  refine h_cv (G := G) (h_runV (C := R_SB) (G := G) (G' := G) (I := fun Hz => Hz = zs.heap) hx hb hml hown hts hE hW.2.2 (Nat.le_refl _) rfl (Nat.le_trans hbs hW.2.2.1) rfl hW.1 0 rfl rfl (h_ensure l G zs.heap _ _ _ _ (t.length + 1) _ hf hm (by omega) hW.1 hW.2.1) kw_31 kw_32 (va_Nw.use rfl (hE.2.2.2.2.2.2.2.2.2.2.2.2.2.2.2.2.2 _ (List.mem_of_getElem? (i := 0) rfl))) kw_22 kw_30 rfl rfl hd_AbstractStringBuilder_ensureCapacityInternal ⟨Nat.le_of_ble_eq_true rfl, Nat.le_of_ble_eq_true rfl⟩ (As := [.int (nI (t.length + 1))]) (rest := []) rfl hl.1 rfl (Nat.le_of_ble_eq_true rfl) d_AbstractStringBuilder_append_C_7 ⟨Nat.le_of_ble_eq_true rfl, Nat.le_of_ble_eq_true rfl⟩) hW.2.2 (Nat.le_refl _) (fun H9 locs hJ hz9 hk9 hS9 => ?_)
  obtain ⟨va1, m1, a1, hJ1, hJ2, hf1, hq1, hm1, hk1⟩ := hJ
  have hW : WW G zs.heap [(sa, .inr (iSB, [.ref va1, .int (0), .int (0), .int (nI (t.length))])), (va1, aI (gC G 8) (m1) (a1))] H9 locs := ⟨hJ1, hJ2, hS9⟩
  refine lv_aload_n hx hb d_AbstractStringBuilder_append_C_10 rfl (lv_at hl 0 rfl) ?_
  refine h_ci (G := G) (h_runV (C := R_SB) (G := G) (G' := G) (I := fun Hz => Hz = H9) hx hb hml hown hts hE hW.2.2 (Nat.le_refl _) rfl (Nat.le_trans hbs hW.2.2.1) rfl hW.1 0 rfl rfl (h_asbL1 l G H9 _ _ _ _ _ hW.1 hW.2.1) kw_34 kw_35 (hts _ kw_36) kw_22 kw_33 rfl rfl hd_AbstractStringBuilder_isLatin1 ⟨Nat.le_of_ble_eq_true rfl, Nat.le_of_ble_eq_true rfl⟩ (As := []) (rest := []) rfl hl.1 rfl (Nat.le_of_ble_eq_true rfl) d_AbstractStringBuilder_append_C_11 ⟨Nat.le_of_ble_eq_true rfl, Nat.le_of_ble_eq_true rfl⟩) hW.2.2 (Nat.le_refl _) (fun r9 H9 locs hJ hz9 hk9 hS9 => ?_)
  obtain ⟨hr9, hH9⟩ := hJ
  have hr9 := hr9.symm; subst hr9
  have hH9 := hH9.symm; subst hH9
  have hW : WW G zs.heap [(sa, .inr (iSB, [.ref va1, .int (0), .int (0), .int (nI (t.length))])), (va1, aI (gC G 8) (m1) (a1))] H9 locs := ⟨hW.1, hW.2.1, hS9⟩
  refine lv_if_eq (tgt := 45) hx hb d_AbstractStringBuilder_append_C_14 (by decide) (fun c_1 => ?_) (fun c_1 => ?_)
  · skip
    exact absurd c_1 (by decide)
  · skip
    refine lv_iload_n hx hb d_AbstractStringBuilder_append_C_17 rfl (lv_at hl 1 rfl) ?_
    refine h_ci (G := G) (h_runS (G := G) (G' := G) (I := fun Hz => Hz = H9) hx hb hml hown hts hE hW.2.2 (Nat.le_refl _) rfl (Nat.le_trans hbs hW.2.2.1) rfl (h_canEnc l G H9 (c) (by omega)) kw_39 kw_40 kw_38 kw_37 rfl rfl hd_StringLatin1_canEncode ⟨Nat.le_of_ble_eq_true rfl, Nat.le_of_ble_eq_true rfl⟩ (As := [.int (nI c)]) (rest := []) rfl hl.1 rfl (Nat.le_of_ble_eq_true rfl) d_AbstractStringBuilder_append_C_18 ⟨Nat.le_of_ble_eq_true rfl, Nat.le_of_ble_eq_true rfl⟩) hW.2.2 (Nat.le_refl _) (fun r9 H9 locs hJ hz9 hk9 hS9 => ?_)
    obtain ⟨hr9, hH9⟩ := hJ
    have hr9 := hr9.symm; subst hr9
    have hH9 := hH9.symm; subst hH9
    have hW : WW G zs.heap [(sa, .inr (iSB, [.ref va1, .int (0), .int (0), .int (nI (t.length))])), (va1, aI (gC G 8) (m1) (a1))] H9 locs := ⟨hW.1, hW.2.1, hS9⟩
    refine lv_if_eq (tgt := 45) hx hb d_AbstractStringBuilder_append_C_21 (by decide) (fun c_2 => ?_) (fun c_2 => ?_)
    · skip
      exact absurd c_2 (by decide)
    · skip
      refine lv_aload_n hx hb d_AbstractStringBuilder_append_C_24 rfl (lv_at hl 0 rfl) ?_
      refine va_get (v := .ref va1) hx hb hts i_SB hown hK hW.1 0 rfl rfl 0 (by decide) (hts _ kw_7) (fun _ h => h) rfl d_AbstractStringBuilder_append_C_25 ?_
      refine lv_aload_n hx hb d_AbstractStringBuilder_append_C_28 rfl (lv_at hl 0 rfl) ?_
      refine lv_dup hx hb d_AbstractStringBuilder_append_C_29 rfl ?_
      refine va_get (v := .int (nI (t.length))) hx hb hts i_SB hown hK hW.1 0 rfl rfl 3 (by decide) (hts _ kw_29) (fun _ h => h) rfl d_AbstractStringBuilder_append_C_30 ?_
      refine lv_dup_x1 hx hb d_AbstractStringBuilder_append_C_33 rfl rfl ?_
      refine lv_iconst (v := 1) hx hb d_AbstractStringBuilder_append_C_34 (by decide) ?_
      refine lv_iadd hx hb d_AbstractStringBuilder_append_C_35 ?_
      refine e_top (v := nI (t.length + 1)) (nI_add (t.length) (1)) ?_
      refine va_put hx hb hts i_SB t_SB t_SB_ok n_SB hown hK hW.1 hW.2.1 hW.2.2 0 rfl rfl 3 (by decide) (hts _ kw_29) (fun _ h => h) rfl (t_SB_ok 3 (by decide)) rfl rfl (Nat.le_of_ble_eq_true rfl) d_AbstractStringBuilder_append_C_36 (fun H locs h1 h2 h3 => ?_)
      have hW : WW G zs.heap [(sa, .inr (iSB, [.ref va1, .int (0), .int (0), .int (nI (t.length + 1))])), (va1, aI (gC G 8) (m1) (a1))] H locs := ⟨h1, h2, h3⟩
      refine lv_iload_n hx hb d_AbstractStringBuilder_append_C_39 rfl (lv_at hl 1 rfl) ?_
      refine lv_i2b (v := (nI c).toInt8.toInt32) hx hb d_AbstractStringBuilder_append_C_40 rfl ?_
      refine va_bast hx hb hK hW.1 hW.2.1 hW.2.2 1 8 rfl rfl (vp_in_nI (show t.length < m1 by omega) (by omega)) d_AbstractStringBuilder_append_C_41 (fun H locs h1 h2 h3 => ?_)
      rw [nI_clamp (show t.length < 2 ^ 31 by omega), pk_vb _] at h1 h2
      have hW : WW G zs.heap [(sa, .inr (iSB, [.ref va1, .int (0), .int (0), .int (nI (t.length + 1))])), (va1, aI (gC G 8) (m1) (upd (a1) (t.length) (sb_b (c))))] H locs := ⟨h1, h2, h3⟩
      refine lv_goto (tgt := 75) hx hb d_AbstractStringBuilder_append_C_42 (by decide) ?_
      refine lv_aload_n hx hb d_AbstractStringBuilder_append_C_75 rfl (lv_at hl 0 rfl) ?_
      have hA : sbL (t ++ [c]) (upd a1 t.length (sb_b c)) := sbL_app hL (fun j hj => (pk_un (by omega)).trans (hk1 j (by omega))) (fun i hi => by
        obtain rfl : i = 0 := by simp at hi; omega
        exact ⟨hc, pk_us⟩)
      have hlen : (t ++ [c]).length = t.length + 1 := by simp
      rw [← hlen] at hW
      exact h_aret hx hb hr (Or.inl ⟨_, rfl⟩) hlk hW.2.2 ⟨rfl, va1, m1, _, hW.1, hW.2.1, hA, sb_fitU hf1 (sb_fitB c), by omega, hm1⟩ (Nat.le_of_ble_eq_true rfl) (Nat.le_of_ble_eq_true rfl) d_AbstractStringBuilder_append_C_76
set_option maxHeartbeats 4000000 in
set_option maxRecDepth 100000 in
theorem h_sbAppC (l : Launch) (G : GT) (Hx : Heap) (sa va m : Nat) (t : List Nat) (a : Nat → Int32) (hL : sbL t a) (hf : sb_Fit a) (hnm : t.length ≤ m) (hm : m = 16 ∨ m = 34) (c : Nat) (hc : c < 256) (hn34 : t.length < 34) (hP : va_P G.1 gcl [(sa, .inr (iSB, [.ref va, .int (0), .int (0), .int (nI (t.length))])), (va, aI (gC G 8) (m) (a))] Hx) (hD : va_D (gAb G) [(sa, .inr (iSB, [.ref va, .int (0), .int (0), .int (nI (t.length))])), (va, aI (gC G 8) (m) (a))]) : Met l y_SB_append_C (.code y_SB_append_C b_SB_append_C 2 (some (.object "java/lang/StringBuilder")) :: WS) { frames := 5, cells := 1, slots := 34, locals := 112 } (hPre G [.ref sa, .int (nI c)] (fun H9 => H9 = Hx)) (hQr G (fun r9 H9 => r9 = sa ∧ SBH G sa (t ++ [c]) H9)) 1 34 (gAb G) := by
  refine h_startF (own := R_SB) (by decide +kernel) rfl (Nat.le_of_ble_eq_true rfl) ?_
  intro p e zs zm below meth zc ls C hI hl
  subst hI
  obtain ⟨hx, hb, hr, hml, hown, hts, hlk, hE, hbs⟩ := C
  have hK := hE.1
  have hl : lv_has ls 2 [(0, .ref sa), (1, .int (nI c))] := hl
  obtain ⟨locs, hlocs⟩ : ∃ l9 : List Loc, l9 = [] := ⟨_, rfl⟩
  rw [← hlocs]
  have hW : WW G zs.heap [(sa, .inr (iSB, [.ref va, .int (0), .int (0), .int (nI (t.length))])), (va, aI (gC G 8) (m) (a))] zs.heap locs := ⟨hP, hD, by rw [hlocs]; exact va_S.rf⟩
  refine lv_aload_n hx hb d_SB_append_C_0 rfl (lv_at hl 0 rfl) ?_
  refine lv_iload_n hx hb d_SB_append_C_1 rfl (lv_at hl 1 rfl) ?_
  refine h_cr (G := G) (h_runSU (C := R_SB) (G := G) (G' := G) (I := fun Hz => Hz = zs.heap) hx hb hml hown hts hE hW.2.2 (Nat.le_refl _) rfl (Nat.le_trans hbs hW.2.2.1) rfl hW.1 0 rfl rfl (h_asbAppC l G zs.heap _ _ _ _ _ hL hf hnm hm (c) (by omega) (by omega) hW.1 hW.2.1) kw_42 kw_43 kw_44 kw_45 kw_22 kw_41 rfl rfl ⟨by decide +kernel, hd_AbstractStringBuilder_append_C.2.2⟩ ⟨Nat.le_of_ble_eq_true rfl, Nat.le_of_ble_eq_true rfl⟩ (As := [.int (nI c)]) (rest := []) rfl hl.1 rfl (Nat.le_of_ble_eq_true rfl) d_SB_append_C_2 ⟨Nat.le_of_ble_eq_true rfl, Nat.le_of_ble_eq_true rfl⟩) hW.2.2 (Nat.le_refl _) (fun r9 H9 locs hJ hz9 hk9 hS9 => ?_)
  obtain ⟨hr9, va9, m9, a9, hJ1, hJ2, hL9, hf9, hn9, hm9⟩ := hJ
  have hr9 := hr9.symm; subst hr9
  have hW : WW G zs.heap [(sa, .inr (iSB, [.ref va9, .int (0), .int (0), .int (nI (t ++ [c]).length)])), (va9, aI (gC G 8) (m9) (a9))] H9 locs := ⟨hJ1, hJ2, hS9⟩
  refine lv_pop hx hb d_SB_append_C_5 rfl ?_
  refine lv_aload_n hx hb d_SB_append_C_6 rfl (lv_at hl 0 rfl) ?_
  exact h_aret hx hb hr (Or.inl ⟨_, rfl⟩) hlk hW.2.2 ⟨rfl, va9, m9, a9, hW.1, hW.2.1, hL9, hf9, hn9, hm9⟩ (Nat.le_of_ble_eq_true rfl) (Nat.le_of_ble_eq_true rfl) d_SB_append_C_7
set_option maxHeartbeats 4000000 in
set_option maxRecDepth 100000 in
theorem h_strSize (l : Launch) (G : GT) (Hx : Heap) (v : Nat) (hv : v < 10000) : Met l y_Integer_stringSize (.code y_Integer_stringSize b_Integer_stringSize 4 (some .int) :: WS) { frames := 0, cells := 0, slots := 0, locals := 0 } (hPre G [.int (nI v)] (fun H9 => H9 = Hx)) (hQi G (fun r9 H9 => r9 = nI (dgl v).length ∧ H9 = Hx)) 0 0 (gAb G) := by
  refine h_startF (own := R_Integer) (by decide +kernel) rfl (Nat.le_of_ble_eq_true rfl) ?_
  intro p e zs zm below meth zc ls C hI hl
  subst hI
  obtain ⟨hx, hb, hr, hml, hown, hts, hlk, hE, hbs⟩ := C
  have hK := hE.1
  have hl : lv_has ls 4 [(0, .int (nI v))] := hl
  obtain ⟨locs, hlocs⟩ : ∃ l9 : List Loc, l9 = [] := ⟨_, rfl⟩
  rw [← hlocs]
  have hW : WW G zs.heap [] zs.heap locs := WW_nil hlocs
  refine lv_iconst (v := 1) hx hb d_Integer_stringSize_0 (by decide) ?_
  refine lv_istore_n (lv' := [(1, .int (1)), (0, .int (nI v))]) hx hb d_Integer_stringSize_1 rfl hl (by decide) rfl (fun ls hl => ?_)
  refine lv_iload_n hx hb d_Integer_stringSize_2 rfl (lv_at hl 1 rfl) ?_
  refine lv_if_lt (tgt := 11) hx hb d_Integer_stringSize_3 (by decide) (fun c_1 => ?_) (fun c_1 => ?_)
  · skip
    exact absurd c_1 (nI_pos (by omega))
  · skip
    refine lv_iconst (v := 0) hx hb d_Integer_stringSize_6 (by decide) ?_
    refine lv_istore_n (lv' := [(1, .int (0)), (0, .int (nI v))]) hx hb d_Integer_stringSize_7 rfl hl (by decide) rfl (fun ls hl => ?_)
    refine lv_iload_n hx hb d_Integer_stringSize_8 rfl (lv_at hl 1 rfl) ?_
    refine lv_ineg hx hb d_Integer_stringSize_9 ?_
    refine lv_istore_n (lv' := [(0, .int (-(nI v))), (1, .int (0))]) hx hb d_Integer_stringSize_10 rfl hl (by decide) rfl (fun ls hl => ?_)
    refine lv_bipush (v := -10) hx hb d_Integer_stringSize_11 (by decide) ?_
    refine lv_istore_n (lv' := [(2, .int (-10)), (0, .int (-(nI v))), (1, .int (0))]) hx hb d_Integer_stringSize_13 rfl hl (by decide) rfl (fun ls hl => ?_)
    refine lv_iconst (v := 1) hx hb d_Integer_stringSize_14 (by decide) ?_
    refine lv_istore_n (lv' := [(3, .int (1)), (2, .int (-10)), (0, .int (-(nI v))), (1, .int (0))]) hx hb d_Integer_stringSize_15 rfl hl (by decide) rfl (fun ls hl => ?_)
    refine lv_iload_n hx hb d_Integer_stringSize_16 rfl (lv_at hl 0 rfl) ?_
    refine lv_bipush (v := 10) hx hb d_Integer_stringSize_17 (by decide) ?_
    refine lv_icmp_ge (tgt := 42) hx hb d_Integer_stringSize_19 (by decide) (fun c_2 => ?_) (fun c_2 => ?_)
    · exact absurd c_2 (by decide)
    · skip
      refine lv_iload_n hx hb d_Integer_stringSize_22 rfl (lv_at hl 2 rfl) ?_
      refine lv_iload_n hx hb d_Integer_stringSize_23 rfl (lv_at hl 1 rfl) ?_
      refine lv_icmp_le (tgt := 31) hx hb d_Integer_stringSize_24 (by decide) (fun c_3 => ?_) (fun c_3 => ?_)
      · skip
        refine lv_bipush (v := 10) hx hb d_Integer_stringSize_31 (by decide) ?_
        refine lv_iload_n hx hb d_Integer_stringSize_33 rfl (lv_at hl 1 rfl) ?_
        refine lv_imul hx hb d_Integer_stringSize_34 ?_
        refine e_top (v := -100) (by decide) ?_
        refine lv_istore_n (lv' := [(2, .int (-100)), (3, .int (1)), (0, .int (-(nI v))), (1, .int (0))]) hx hb d_Integer_stringSize_35 rfl hl (by decide) rfl (fun ls hl => ?_)
        refine lv_iinc (v := 2) (lv' := [(3, .int (2)), (2, .int (-100)), (0, .int (-(nI v))), (1, .int (0))]) hx hb d_Integer_stringSize_36 hl (k := 1) rfl (by decide) (by decide) rfl (fun ls hl => ?_)
        refine lv_goto (tgt := 16) hx hb d_Integer_stringSize_39 (by decide) ?_
        refine lv_iload_n hx hb d_Integer_stringSize_16 rfl (lv_at hl 0 rfl) ?_
        refine lv_bipush (v := 10) hx hb d_Integer_stringSize_17 (by decide) ?_
        refine lv_icmp_ge (tgt := 42) hx hb d_Integer_stringSize_19 (by decide) (fun c_4 => ?_) (fun c_4 => ?_)
        · exact absurd c_4 (by decide)
        · skip
          refine lv_iload_n hx hb d_Integer_stringSize_22 rfl (lv_at hl 2 rfl) ?_
          refine lv_iload_n hx hb d_Integer_stringSize_23 rfl (lv_at hl 1 rfl) ?_
          refine lv_icmp_le (tgt := 31) hx hb d_Integer_stringSize_24 (by decide) (fun c_5 => ?_) (fun c_5 => ?_)
          · skip
            refine lv_bipush (v := 10) hx hb d_Integer_stringSize_31 (by decide) ?_
            refine lv_iload_n hx hb d_Integer_stringSize_33 rfl (lv_at hl 1 rfl) ?_
            refine lv_imul hx hb d_Integer_stringSize_34 ?_
            refine e_top (v := -1000) (by decide) ?_
            refine lv_istore_n (lv' := [(2, .int (-1000)), (3, .int (2)), (0, .int (-(nI v))), (1, .int (0))]) hx hb d_Integer_stringSize_35 rfl hl (by decide) rfl (fun ls hl => ?_)
            refine lv_iinc (v := 3) (lv' := [(3, .int (3)), (2, .int (-1000)), (0, .int (-(nI v))), (1, .int (0))]) hx hb d_Integer_stringSize_36 hl (k := 1) rfl (by decide) (by decide) rfl (fun ls hl => ?_)
            refine lv_goto (tgt := 16) hx hb d_Integer_stringSize_39 (by decide) ?_
            refine lv_iload_n hx hb d_Integer_stringSize_16 rfl (lv_at hl 0 rfl) ?_
            refine lv_bipush (v := 10) hx hb d_Integer_stringSize_17 (by decide) ?_
            refine lv_icmp_ge (tgt := 42) hx hb d_Integer_stringSize_19 (by decide) (fun c_6 => ?_) (fun c_6 => ?_)
            · exact absurd c_6 (by decide)
            · skip
              refine lv_iload_n hx hb d_Integer_stringSize_22 rfl (lv_at hl 2 rfl) ?_
              refine lv_iload_n hx hb d_Integer_stringSize_23 rfl (lv_at hl 1 rfl) ?_
              refine lv_icmp_le (tgt := 31) hx hb d_Integer_stringSize_24 (by decide) (fun c_7 => ?_) (fun c_7 => ?_)
              · skip
                refine lv_bipush (v := 10) hx hb d_Integer_stringSize_31 (by decide) ?_
                refine lv_iload_n hx hb d_Integer_stringSize_33 rfl (lv_at hl 1 rfl) ?_
                refine lv_imul hx hb d_Integer_stringSize_34 ?_
                refine e_top (v := -10000) (by decide) ?_
                refine lv_istore_n (lv' := [(2, .int (-10000)), (3, .int (3)), (0, .int (-(nI v))), (1, .int (0))]) hx hb d_Integer_stringSize_35 rfl hl (by decide) rfl (fun ls hl => ?_)
                refine lv_iinc (v := 4) (lv' := [(3, .int (4)), (2, .int (-10000)), (0, .int (-(nI v))), (1, .int (0))]) hx hb d_Integer_stringSize_36 hl (k := 1) rfl (by decide) (by decide) rfl (fun ls hl => ?_)
                refine lv_goto (tgt := 16) hx hb d_Integer_stringSize_39 (by decide) ?_
                refine lv_iload_n hx hb d_Integer_stringSize_16 rfl (lv_at hl 0 rfl) ?_
                refine lv_bipush (v := 10) hx hb d_Integer_stringSize_17 (by decide) ?_
                refine lv_icmp_ge (tgt := 42) hx hb d_Integer_stringSize_19 (by decide) (fun c_8 => ?_) (fun c_8 => ?_)
                · exact absurd c_8 (by decide)
                · skip
                  refine lv_iload_n hx hb d_Integer_stringSize_22 rfl (lv_at hl 2 rfl) ?_
                  refine lv_iload_n hx hb d_Integer_stringSize_23 rfl (lv_at hl 1 rfl) ?_
                  refine lv_icmp_le (tgt := 31) hx hb d_Integer_stringSize_24 (by decide) (fun c_9 => ?_) (fun c_9 => ?_)
                  · skip
                    exact absurd ((sb_cmpn (c := 10000) (show v < 2 ^ 31 by omega) (by decide) (by decide)).mp c_9) (by omega)
                  · skip
                    refine lv_iload_n hx hb d_Integer_stringSize_27 rfl (lv_at hl 0 rfl) ?_
                    refine lv_iload_n hx hb d_Integer_stringSize_28 rfl (lv_at hl 3 rfl) ?_
                    refine lv_iadd hx hb d_Integer_stringSize_29 ?_
                    refine e_top (v := nI (4 + 0)) (nI_add (4) (0)) ?_
                    have z_c_3 := ((sb_cmpn (c := 10) (x := -10) (show v < 2 ^ 31 by omega) (by decide) (by decide))).mp c_3
                    have z_c_5 := ((sb_cmpn (c := 100) (x := -100) (show v < 2 ^ 31 by omega) (by decide) (by decide))).mp c_5
                    have z_c_7 := ((sb_cmpn (c := 1000) (x := -1000) (show v < 2 ^ 31 by omega) (by decide) (by decide))).mp c_7
                    have z_c_9 := (not_congr (sb_cmpn (c := 10000) (x := -10000) (show v < 2 ^ 31 by omega) (by decide) (by decide))).mp c_9
                    exact h_iret hx hb hr hlk hW.2.2 ⟨by rw [dgl4 (by omega)]; rfl, rfl⟩ (Nat.le_of_ble_eq_true rfl) (Nat.le_of_ble_eq_true rfl) d_Integer_stringSize_30
              · skip
                refine lv_iload_n hx hb d_Integer_stringSize_27 rfl (lv_at hl 0 rfl) ?_
                refine lv_iload_n hx hb d_Integer_stringSize_28 rfl (lv_at hl 3 rfl) ?_
                refine lv_iadd hx hb d_Integer_stringSize_29 ?_
                refine e_top (v := nI (3 + 0)) (nI_add (3) (0)) ?_
                have z_c_3 := ((sb_cmpn (c := 10) (x := -10) (show v < 2 ^ 31 by omega) (by decide) (by decide))).mp c_3
                have z_c_5 := ((sb_cmpn (c := 100) (x := -100) (show v < 2 ^ 31 by omega) (by decide) (by decide))).mp c_5
                have z_c_7 := (not_congr (sb_cmpn (c := 1000) (x := -1000) (show v < 2 ^ 31 by omega) (by decide) (by decide))).mp c_7
                exact h_iret hx hb hr hlk hW.2.2 ⟨by rw [dgl3 (by omega) (by omega)]; rfl, rfl⟩ (Nat.le_of_ble_eq_true rfl) (Nat.le_of_ble_eq_true rfl) d_Integer_stringSize_30
          · skip
            refine lv_iload_n hx hb d_Integer_stringSize_27 rfl (lv_at hl 0 rfl) ?_
            refine lv_iload_n hx hb d_Integer_stringSize_28 rfl (lv_at hl 3 rfl) ?_
            refine lv_iadd hx hb d_Integer_stringSize_29 ?_
            refine e_top (v := nI (2 + 0)) (nI_add (2) (0)) ?_
            have z_c_3 := ((sb_cmpn (c := 10) (x := -10) (show v < 2 ^ 31 by omega) (by decide) (by decide))).mp c_3
            have z_c_5 := (not_congr (sb_cmpn (c := 100) (x := -100) (show v < 2 ^ 31 by omega) (by decide) (by decide))).mp c_5
            exact h_iret hx hb hr hlk hW.2.2 ⟨by rw [dgl2 (by omega) (by omega)]; rfl, rfl⟩ (Nat.le_of_ble_eq_true rfl) (Nat.le_of_ble_eq_true rfl) d_Integer_stringSize_30
      · skip
        refine lv_iload_n hx hb d_Integer_stringSize_27 rfl (lv_at hl 0 rfl) ?_
        refine lv_iload_n hx hb d_Integer_stringSize_28 rfl (lv_at hl 3 rfl) ?_
        refine lv_iadd hx hb d_Integer_stringSize_29 ?_
        refine e_top (v := nI (1 + 0)) (nI_add (1) (0)) ?_
        have z_c_3 := (not_congr (sb_cmpn (c := 10) (x := -10) (show v < 2 ^ 31 by omega) (by decide) (by decide))).mp c_3
        exact h_iret hx hb hr hlk hW.2.2 ⟨by rw [dgl1 (by omega)]; rfl, rfl⟩ (Nat.le_of_ble_eq_true rfl) (Nat.le_of_ble_eq_true rfl) d_Integer_stringSize_30
set_option maxHeartbeats 4000000 in
set_option maxRecDepth 100000 in
theorem h_getChars (l : Launch) (G : GT) (Hx : Heap) (sa va m : Nat) (t : List Nat) (a : Nat → Int32) (hL : sbL t a) (hf : sb_Fit a) (v p0 : Nat) (hv : v < 10000) (hp : p0 = t.length + (dgl v).length) (hpm : p0 ≤ m) (hm : m = 16 ∨ m = 34) (hP : va_P G.1 gcl [(sa, .inr (iSB, [.ref va, .int (0), .int (0), .int (nI (t.length))])), (va, aI (gC G 8) (m) (a))] Hx) (hD : va_D (gAb G) [(sa, .inr (iSB, [.ref va, .int (0), .int (0), .int (nI (t.length))])), (va, aI (gC G 8) (m) (a))]) : Met l y_Integer_getChars (.code y_Integer_getChars b_Integer_getChars 7 (some .int) :: WS) { frames := 0, cells := 0, slots := 0, locals := 0 } (hPre G [.int (nI v), .int (nI p0), .ref va] (fun H9 => H9 = Hx)) (hQi G (fun r9 H9 => ∃ a1, va_P G.1 gcl (sbW G sa va t.length m a1) H9 ∧ va_D (gAb G) (sbW G sa va t.length m a1) ∧ sbL (t ++ dgl v) a1 ∧ sb_Fit a1)) 0 0 (gAb G) := by
  refine h_startF (own := R_Integer) (by decide +kernel) rfl (Nat.le_of_ble_eq_true rfl) ?_
  intro p e zs zm below meth zc ls C hI hl
  subst hI
  obtain ⟨hx, hb, hr, hml, hown, hts, hlk, hE, hbs⟩ := C
  have hK := hE.1
  have hl : lv_has ls 7 [(0, .int (nI v)), (1, .int (nI p0)), (2, .ref va)] := hl
  obtain ⟨locs, hlocs⟩ : ∃ l9 : List Loc, l9 = [] := ⟨_, rfl⟩
  rw [← hlocs]
  have hW : WW G zs.heap [(sa, .inr (iSB, [.ref va, .int (0), .int (0), .int (nI (t.length))])), (va, aI (gC G 8) (m) (a))] zs.heap locs := ⟨hP, hD, by rw [hlocs]; exact va_S.rf⟩
  obtain ⟨eC, eF, ⟨tO, eO, eO'⟩, ⟨tT, eT, eT'⟩, ⟨aK, aV, eL, eL'⟩, eA, eV, eM⟩ := hE.2.2.2.2.2.2.2.2.2
  have hd4 := dgl_len v
  have hd9 : 10 ≤ v → 2 ≤ (dgl v).length := fun h => by unfold dgl; rw [if_neg (by omega)]; (repeat' split) <;> simp
  have hd8 : 100 ≤ v → 3 ≤ (dgl v).length := fun h => by unfold dgl; rw [if_neg (by omega), if_neg (by omega)]; split <;> simp
  have hd7 : 1000 ≤ v → 4 ≤ (dgl v).length := fun h => by rw [dgl4 (by omega)]; simp
  refine lv_iload_n hx hb d_Integer_getChars_0 rfl (lv_at hl 1 rfl) ?_
  refine lv_istore (lv' := [(5, .int (nI p0)), (0, .int (nI v)), (1, .int (nI p0)), (2, .ref va)]) hx hb d_Integer_getChars_1 hl (by decide) rfl (fun ls hl => ?_)
  refine lv_iload_n hx hb d_Integer_getChars_3 rfl (lv_at hl 1 rfl) ?_
  refine lv_if_ge (tgt := 11) hx hb d_Integer_getChars_4 (by decide) (fun c_1 => ?_) (fun c_1 => ?_)
  · skip
    refine lv_iconst (v := 0) hx hb d_Integer_getChars_11 (by decide) ?_
    refine lv_istore (lv' := [(6, .int (0)), (5, .int (nI p0)), (0, .int (nI v)), (1, .int (nI p0)), (2, .ref va)]) hx hb d_Integer_getChars_12 hl (by decide) rfl (fun ls hl => ?_)
    refine lv_iload hx hb d_Integer_getChars_14 (lv_at hl 0 rfl) ?_
    refine lv_if_ne (tgt := 22) hx hb d_Integer_getChars_16 (by decide) (fun c_2 => ?_) (fun c_2 => ?_)
    · exact absurd c_2 (by decide)
    · skip
      refine lv_iload_n hx hb d_Integer_getChars_19 rfl (lv_at hl 2 rfl) ?_
      refine lv_ineg hx hb d_Integer_getChars_20 ?_
      refine lv_istore_n (lv' := [(0, .int (-(nI v))), (6, .int (0)), (5, .int (nI p0)), (1, .int (nI p0)), (2, .ref va)]) hx hb d_Integer_getChars_21 rfl hl (by decide) rfl (fun ls hl => ?_)
      refine lv_iload_n hx hb d_Integer_getChars_22 rfl (lv_at hl 0 rfl) ?_
      refine lv_bipush (v := -100) hx hb d_Integer_getChars_23 (by decide) ?_
      refine lv_icmp_gt (tgt := 72) hx hb d_Integer_getChars_25 (by decide) (fun c_3 => ?_) (fun c_3 => ?_)
      · skip
        have y_c_3 := ((sb_cmpl (v := v) (c := 100) (x := -100) (by omega) (by decide) (by decide))).mp c_3
        refine lv_aload_n hx hb d_Integer_getChars_72 rfl (lv_at hl 4 rfl) ?_
        refine lv_iinc (v := nI (p0 - 1)) (lv' := [(5, .int (nI (p0 - 1))), (0, .int (-(nI v))), (6, .int (0)), (1, .int (nI p0)), (2, .ref va)]) hx hb d_Integer_getChars_73 hl (k := 2) rfl (sb_m1 (show 0 < p0 by omega)) (by decide) rfl (fun ls hl => ?_)
        refine lv_iload hx hb d_Integer_getChars_76 (lv_at hl 0 rfl) ?_
        refine va_gets hx hb eO hW.2.2 hown (hts _ kw_46) (fun _ h => h) d_Integer_getChars_78 ?_
        refine lv_iload_n hx hb d_Integer_getChars_81 rfl (lv_at hl 1 rfl) ?_
        refine lv_ineg hx hb d_Integer_getChars_82 ?_
        refine e_top (v := nI (v)) Int32.neg_neg ?_
        refine va_tb (v := .int (nI (48 + v % 10))) hx hb eO' hW.2.2 (vp_in_nI (show v < 100 by omega) (by decide)) (by rw [nI_clamp (show v < 2 ^ 31 by omega)]) d_Integer_getChars_83 ?_
        refine va_bast hx hb hK hW.1 hW.2.1 hW.2.2 1 8 rfl rfl (vp_in_nI (show p0 - 1 < m by omega) (by omega)) d_Integer_getChars_84 (fun H locs h1 h2 h3 => ?_)
        rw [nI_clamp (show p0 - 1 < 2 ^ 31 by omega), sb_nb (48 + v % 10)] at h1 h2
        have hW : WW G zs.heap [(sa, .inr (iSB, [.ref va, .int (0), .int (0), .int (nI (t.length))])), (va, aI (gC G 8) (m) (upd (a) (p0 - 1) (sb_b (48 + v % 10))))] H locs := ⟨h1, h2, h3⟩
        refine lv_iload_n hx hb d_Integer_getChars_85 rfl (lv_at hl 1 rfl) ?_
        refine lv_bipush (v := -9) hx hb d_Integer_getChars_86 (by decide) ?_
        refine lv_icmp_ge (tgt := 104) hx hb d_Integer_getChars_88 (by decide) (fun c_4 => ?_) (fun c_4 => ?_)
        · skip
          have y_c_4 := ((sb_cmpg (v := v) (c := 9) (x := -9) (by omega) (by decide) (by decide))).mp c_4
          refine lv_iload hx hb d_Integer_getChars_104 (lv_at hl 2 rfl) ?_
          refine lv_if_eq (tgt := 118) hx hb d_Integer_getChars_106 (by decide) (fun c_5 => ?_) (fun c_5 => ?_)
          · skip
            refine lv_iload hx hb d_Integer_getChars_118 (lv_at hl 0 rfl) ?_
            refine h_iret hx hb hr hlk hW.2.2 ?_ (Nat.le_of_ble_eq_true rfl) (Nat.le_of_ble_eq_true rfl) d_Integer_getChars_120
            have hp2 : p0 = t.length + 1 := by rw [hp, dgl1 (by omega)]; rfl
            refine ⟨_, hW.1, hW.2.1, sbL_app hL (fun j hj => (pk_un (by omega)).trans (rfl)) (fun i hi => ⟨dgl_lt hv i hi, ?_⟩), sb_fitU (hf) (sb_fitB _)⟩
            rw [dgl1 (by omega)] at hi ⊢
            rcases (by simp at hi; omega : i = 0) with rfl
            · exact (updr (by omega)).trans (congrArg sb_b (by show (_ : Nat) = _; simp; try omega))
          · exact absurd c_5 (by decide)
        · skip
          have y_c_4 := (not_congr (sb_cmpg (v := v) (c := 9) (x := -9) (by omega) (by decide) (by decide))).mp c_4
          refine lv_aload_n hx hb d_Integer_getChars_91 rfl (lv_at hl 4 rfl) ?_
          refine lv_iinc (v := nI (p0 - 1 - 1)) (lv' := [(5, .int (nI (p0 - 1 - 1))), (0, .int (-(nI v))), (6, .int (0)), (1, .int (nI p0)), (2, .ref va)]) hx hb d_Integer_getChars_92 hl (k := 0) rfl (sb_m1 (show 0 < p0 - 1 by omega)) (by decide) rfl (fun ls hl => ?_)
          refine lv_iload hx hb d_Integer_getChars_95 (lv_at hl 0 rfl) ?_
          refine va_gets hx hb eT hW.2.2 hown (hts _ kw_47) (fun _ h => h) d_Integer_getChars_97 ?_
          refine lv_iload_n hx hb d_Integer_getChars_100 rfl (lv_at hl 1 rfl) ?_
          refine lv_ineg hx hb d_Integer_getChars_101 ?_
          refine e_top (v := nI (v)) Int32.neg_neg ?_
          refine va_tb (v := .int (nI (48 + v / 10))) hx hb eT' hW.2.2 (vp_in_nI (show v < 100 by omega) (by decide)) (by rw [nI_clamp (show v < 2 ^ 31 by omega)]) d_Integer_getChars_102 ?_
          refine va_bast hx hb hK hW.1 hW.2.1 hW.2.2 1 8 rfl rfl (vp_in_nI (show p0 - 1 - 1 < m by omega) (by omega)) d_Integer_getChars_103 (fun H locs h1 h2 h3 => ?_)
          rw [nI_clamp (show p0 - 1 - 1 < 2 ^ 31 by omega), sb_nb (48 + v / 10)] at h1 h2
          have hW : WW G zs.heap [(sa, .inr (iSB, [.ref va, .int (0), .int (0), .int (nI (t.length))])), (va, aI (gC G 8) (m) (upd (upd (a) (p0 - 1) (sb_b (48 + v % 10))) (p0 - 1 - 1) (sb_b (48 + v / 10))))] H locs := ⟨h1, h2, h3⟩
          refine lv_iload hx hb d_Integer_getChars_104 (lv_at hl 2 rfl) ?_
          refine lv_if_eq (tgt := 118) hx hb d_Integer_getChars_106 (by decide) (fun c_6 => ?_) (fun c_6 => ?_)
          · skip
            refine lv_iload hx hb d_Integer_getChars_118 (lv_at hl 0 rfl) ?_
            refine h_iret hx hb hr hlk hW.2.2 ?_ (Nat.le_of_ble_eq_true rfl) (Nat.le_of_ble_eq_true rfl) d_Integer_getChars_120
            have hp2 : p0 = t.length + 2 := by rw [hp, dgl2 (by omega) (by omega)]; rfl
            refine ⟨_, hW.1, hW.2.1, sbL_app hL (fun j hj => (pk_un (by omega)).trans ((pk_un (by omega)).trans (rfl))) (fun i hi => ⟨dgl_lt hv i hi, ?_⟩), sb_fitU (sb_fitU (hf) (sb_fitB _)) (sb_fitB _)⟩
            rw [dgl2 (by omega) (by omega)] at hi ⊢
            rcases (by simp at hi; omega : i = 0 ∨ i = 1) with rfl | rfl
            · exact (updr (by omega)).trans (congrArg sb_b (by show (_ : Nat) = _; simp; try omega))
            · exact (pk_un (by omega)).trans ((updr (by omega)).trans (congrArg sb_b (by show (_ : Nat) = _; simp; try omega)))
          · exact absurd c_6 (by decide)
      · skip
        have y_c_3 := (not_congr (sb_cmpl (v := v) (c := 100) (x := -100) (by omega) (by decide) (by decide))).mp c_3
        refine lv_iload_n hx hb d_Integer_getChars_28 rfl (lv_at hl 0 rfl) ?_
        refine lv_bipush (v := 100) hx hb d_Integer_getChars_29 (by decide) ?_
        refine lv_idiv hx hb d_Integer_getChars_31 (by decide) ?_
        refine e_top (v := -(nI (v / 100))) (sb_ndiv (by omega)) ?_
        refine lv_istore_n (lv' := [(3, .int (-(nI (v / 100)))), (0, .int (-(nI v))), (6, .int (0)), (5, .int (nI p0)), (1, .int (nI p0)), (2, .ref va)]) hx hb d_Integer_getChars_32 rfl hl (by decide) rfl (fun ls hl => ?_)
        refine lv_iload_n hx hb d_Integer_getChars_33 rfl (lv_at hl 0 rfl) ?_
        refine lv_bipush (v := 100) hx hb d_Integer_getChars_34 (by decide) ?_
        refine lv_imul hx hb d_Integer_getChars_36 ?_
        refine lv_iload_n hx hb d_Integer_getChars_37 rfl (lv_at hl 1 rfl) ?_
        refine lv_isub hx hb d_Integer_getChars_38 ?_
        refine e_top (v := nI (v % 100)) (sb_nrem (by omega)) ?_
        refine lv_istore (lv' := [(4, .int (nI (v % 100))), (3, .int (-(nI (v / 100)))), (0, .int (-(nI v))), (6, .int (0)), (5, .int (nI p0)), (1, .int (nI p0)), (2, .ref va)]) hx hb d_Integer_getChars_39 hl (by decide) rfl (fun ls hl => ?_)
        refine lv_iload_n hx hb d_Integer_getChars_41 rfl (lv_at hl 1 rfl) ?_
        refine lv_istore_n (lv' := [(0, .int (-(nI (v / 100)))), (4, .int (nI (v % 100))), (3, .int (-(nI (v / 100)))), (6, .int (0)), (5, .int (nI p0)), (1, .int (nI p0)), (2, .ref va)]) hx hb d_Integer_getChars_42 rfl hl (by decide) rfl (fun ls hl => ?_)
        refine lv_aload_n hx hb d_Integer_getChars_43 rfl (lv_at hl 6 rfl) ?_
        refine lv_iinc (v := nI (p0 - 1)) (lv' := [(5, .int (nI (p0 - 1))), (0, .int (-(nI (v / 100)))), (4, .int (nI (v % 100))), (3, .int (-(nI (v / 100)))), (6, .int (0)), (1, .int (nI p0)), (2, .ref va)]) hx hb d_Integer_getChars_44 hl (k := 4) rfl (sb_m1 (show 0 < p0 by omega)) (by decide) rfl (fun ls hl => ?_)
        refine lv_iload hx hb d_Integer_getChars_47 (lv_at hl 0 rfl) ?_
        refine va_gets hx hb eO hW.2.2 hown (hts _ kw_46) (fun _ h => h) d_Integer_getChars_49 ?_
        refine lv_iload hx hb d_Integer_getChars_52 (lv_at hl 2 rfl) ?_
        refine va_tb (v := .int (nI (48 + (v % 100) % 10))) hx hb eO' hW.2.2 (vp_in_nI (show v % 100 < 100 by omega) (by decide)) (by rw [nI_clamp (show v % 100 < 2 ^ 31 by omega)]) d_Integer_getChars_54 ?_
        refine va_bast hx hb hK hW.1 hW.2.1 hW.2.2 1 8 rfl rfl (vp_in_nI (show p0 - 1 < m by omega) (by omega)) d_Integer_getChars_55 (fun H locs h1 h2 h3 => ?_)
        rw [nI_clamp (show p0 - 1 < 2 ^ 31 by omega), sb_nb (48 + (v % 100) % 10)] at h1 h2
        have hW : WW G zs.heap [(sa, .inr (iSB, [.ref va, .int (0), .int (0), .int (nI (t.length))])), (va, aI (gC G 8) (m) (upd (a) (p0 - 1) (sb_b (48 + (v % 100) % 10))))] H locs := ⟨h1, h2, h3⟩
        refine lv_aload_n hx hb d_Integer_getChars_56 rfl (lv_at hl 6 rfl) ?_
        refine lv_iinc (v := nI (p0 - 1 - 1)) (lv' := [(5, .int (nI (p0 - 1 - 1))), (0, .int (-(nI (v / 100)))), (4, .int (nI (v % 100))), (3, .int (-(nI (v / 100)))), (6, .int (0)), (1, .int (nI p0)), (2, .ref va)]) hx hb d_Integer_getChars_57 hl (k := 0) rfl (sb_m1 (show 0 < p0 - 1 by omega)) (by decide) rfl (fun ls hl => ?_)
        refine lv_iload hx hb d_Integer_getChars_60 (lv_at hl 0 rfl) ?_
        refine va_gets hx hb eT hW.2.2 hown (hts _ kw_47) (fun _ h => h) d_Integer_getChars_62 ?_
        refine lv_iload hx hb d_Integer_getChars_65 (lv_at hl 2 rfl) ?_
        refine va_tb (v := .int (nI (48 + (v % 100) / 10))) hx hb eT' hW.2.2 (vp_in_nI (show v % 100 < 100 by omega) (by decide)) (by rw [nI_clamp (show v % 100 < 2 ^ 31 by omega)]) d_Integer_getChars_67 ?_
        refine va_bast hx hb hK hW.1 hW.2.1 hW.2.2 1 8 rfl rfl (vp_in_nI (show p0 - 1 - 1 < m by omega) (by omega)) d_Integer_getChars_68 (fun H locs h1 h2 h3 => ?_)
        rw [nI_clamp (show p0 - 1 - 1 < 2 ^ 31 by omega), sb_nb (48 + (v % 100) / 10)] at h1 h2
        have hW : WW G zs.heap [(sa, .inr (iSB, [.ref va, .int (0), .int (0), .int (nI (t.length))])), (va, aI (gC G 8) (m) (upd (upd (a) (p0 - 1) (sb_b (48 + (v % 100) % 10))) (p0 - 1 - 1) (sb_b (48 + (v % 100) / 10))))] H locs := ⟨h1, h2, h3⟩
        refine lv_goto (tgt := 22) hx hb d_Integer_getChars_69 (by decide) ?_
        refine lv_iload_n hx hb d_Integer_getChars_22 rfl (lv_at hl 1 rfl) ?_
        refine lv_bipush (v := -100) hx hb d_Integer_getChars_23 (by decide) ?_
        refine lv_icmp_gt (tgt := 72) hx hb d_Integer_getChars_25 (by decide) (fun c_7 => ?_) (fun c_7 => ?_)
        · skip
          have y_c_7 := ((sb_cmpl (v := v / 100) (c := 100) (x := -100) (by omega) (by decide) (by decide))).mp c_7
          refine lv_aload_n hx hb d_Integer_getChars_72 rfl (lv_at hl 6 rfl) ?_
          refine lv_iinc (v := nI (p0 - 1 - 1 - 1)) (lv' := [(5, .int (nI (p0 - 1 - 1 - 1))), (0, .int (-(nI (v / 100)))), (4, .int (nI (v % 100))), (3, .int (-(nI (v / 100)))), (6, .int (0)), (1, .int (nI p0)), (2, .ref va)]) hx hb d_Integer_getChars_73 hl (k := 0) rfl (sb_m1 (show 0 < p0 - 1 - 1 by omega)) (by decide) rfl (fun ls hl => ?_)
          refine lv_iload hx hb d_Integer_getChars_76 (lv_at hl 0 rfl) ?_
          refine va_gets hx hb eO hW.2.2 hown (hts _ kw_46) (fun _ h => h) d_Integer_getChars_78 ?_
          refine lv_iload_n hx hb d_Integer_getChars_81 rfl (lv_at hl 1 rfl) ?_
          refine lv_ineg hx hb d_Integer_getChars_82 ?_
          refine e_top (v := nI (v / 100)) Int32.neg_neg ?_
          refine va_tb (v := .int (nI (48 + (v / 100) % 10))) hx hb eO' hW.2.2 (vp_in_nI (show v / 100 < 100 by omega) (by decide)) (by rw [nI_clamp (show v / 100 < 2 ^ 31 by omega)]) d_Integer_getChars_83 ?_
          refine va_bast hx hb hK hW.1 hW.2.1 hW.2.2 1 8 rfl rfl (vp_in_nI (show p0 - 1 - 1 - 1 < m by omega) (by omega)) d_Integer_getChars_84 (fun H locs h1 h2 h3 => ?_)
          rw [nI_clamp (show p0 - 1 - 1 - 1 < 2 ^ 31 by omega), sb_nb (48 + (v / 100) % 10)] at h1 h2
          have hW : WW G zs.heap [(sa, .inr (iSB, [.ref va, .int (0), .int (0), .int (nI (t.length))])), (va, aI (gC G 8) (m) (upd (upd (upd (a) (p0 - 1) (sb_b (48 + (v % 100) % 10))) (p0 - 1 - 1) (sb_b (48 + (v % 100) / 10))) (p0 - 1 - 1 - 1) (sb_b (48 + (v / 100) % 10))))] H locs := ⟨h1, h2, h3⟩
          refine lv_iload_n hx hb d_Integer_getChars_85 rfl (lv_at hl 1 rfl) ?_
          refine lv_bipush (v := -9) hx hb d_Integer_getChars_86 (by decide) ?_
          refine lv_icmp_ge (tgt := 104) hx hb d_Integer_getChars_88 (by decide) (fun c_8 => ?_) (fun c_8 => ?_)
          · skip
            have y_c_8 := ((sb_cmpg (v := v / 100) (c := 9) (x := -9) (by omega) (by decide) (by decide))).mp c_8
            refine lv_iload hx hb d_Integer_getChars_104 (lv_at hl 4 rfl) ?_
            refine lv_if_eq (tgt := 118) hx hb d_Integer_getChars_106 (by decide) (fun c_9 => ?_) (fun c_9 => ?_)
            · skip
              refine lv_iload hx hb d_Integer_getChars_118 (lv_at hl 0 rfl) ?_
              refine h_iret hx hb hr hlk hW.2.2 ?_ (Nat.le_of_ble_eq_true rfl) (Nat.le_of_ble_eq_true rfl) d_Integer_getChars_120
              have hp2 : p0 = t.length + 3 := by rw [hp, dgl3 (by omega) (by omega)]; rfl
              refine ⟨_, hW.1, hW.2.1, sbL_app hL (fun j hj => (pk_un (by omega)).trans ((pk_un (by omega)).trans ((pk_un (by omega)).trans (rfl)))) (fun i hi => ⟨dgl_lt hv i hi, ?_⟩), sb_fitU (sb_fitU (sb_fitU (hf) (sb_fitB _)) (sb_fitB _)) (sb_fitB _)⟩
              rw [dgl3 (by omega) (by omega)] at hi ⊢
              rcases (by simp at hi; omega : i = 0 ∨ i = 1 ∨ i = 2) with rfl | rfl | rfl
              · exact (updr (by omega)).trans (congrArg sb_b (by show (_ : Nat) = _; simp; try omega))
              · exact (pk_un (by omega)).trans ((updr (by omega)).trans (congrArg sb_b (by show (_ : Nat) = _; simp; try omega)))
              · exact (pk_un (by omega)).trans ((pk_un (by omega)).trans ((updr (by omega)).trans (congrArg sb_b (by show (_ : Nat) = _; simp; try omega))))
            · exact absurd c_9 (by decide)
          · skip
            have y_c_8 := (not_congr (sb_cmpg (v := v / 100) (c := 9) (x := -9) (by omega) (by decide) (by decide))).mp c_8
            refine lv_aload_n hx hb d_Integer_getChars_91 rfl (lv_at hl 6 rfl) ?_
            refine lv_iinc (v := nI (p0 - 1 - 1 - 1 - 1)) (lv' := [(5, .int (nI (p0 - 1 - 1 - 1 - 1))), (0, .int (-(nI (v / 100)))), (4, .int (nI (v % 100))), (3, .int (-(nI (v / 100)))), (6, .int (0)), (1, .int (nI p0)), (2, .ref va)]) hx hb d_Integer_getChars_92 hl (k := 0) rfl (sb_m1 (show 0 < p0 - 1 - 1 - 1 by omega)) (by decide) rfl (fun ls hl => ?_)
            refine lv_iload hx hb d_Integer_getChars_95 (lv_at hl 0 rfl) ?_
            refine va_gets hx hb eT hW.2.2 hown (hts _ kw_47) (fun _ h => h) d_Integer_getChars_97 ?_
            refine lv_iload_n hx hb d_Integer_getChars_100 rfl (lv_at hl 1 rfl) ?_
            refine lv_ineg hx hb d_Integer_getChars_101 ?_
            refine e_top (v := nI (v / 100)) Int32.neg_neg ?_
            refine va_tb (v := .int (nI (48 + (v / 100) / 10))) hx hb eT' hW.2.2 (vp_in_nI (show v / 100 < 100 by omega) (by decide)) (by rw [nI_clamp (show v / 100 < 2 ^ 31 by omega)]) d_Integer_getChars_102 ?_
            refine va_bast hx hb hK hW.1 hW.2.1 hW.2.2 1 8 rfl rfl (vp_in_nI (show p0 - 1 - 1 - 1 - 1 < m by omega) (by omega)) d_Integer_getChars_103 (fun H locs h1 h2 h3 => ?_)
            rw [nI_clamp (show p0 - 1 - 1 - 1 - 1 < 2 ^ 31 by omega), sb_nb (48 + (v / 100) / 10)] at h1 h2
            have hW : WW G zs.heap [(sa, .inr (iSB, [.ref va, .int (0), .int (0), .int (nI (t.length))])), (va, aI (gC G 8) (m) (upd (upd (upd (upd (a) (p0 - 1) (sb_b (48 + (v % 100) % 10))) (p0 - 1 - 1) (sb_b (48 + (v % 100) / 10))) (p0 - 1 - 1 - 1) (sb_b (48 + (v / 100) % 10))) (p0 - 1 - 1 - 1 - 1) (sb_b (48 + (v / 100) / 10))))] H locs := ⟨h1, h2, h3⟩
            refine lv_iload hx hb d_Integer_getChars_104 (lv_at hl 4 rfl) ?_
            refine lv_if_eq (tgt := 118) hx hb d_Integer_getChars_106 (by decide) (fun c_10 => ?_) (fun c_10 => ?_)
            · skip
              refine lv_iload hx hb d_Integer_getChars_118 (lv_at hl 0 rfl) ?_
              refine h_iret hx hb hr hlk hW.2.2 ?_ (Nat.le_of_ble_eq_true rfl) (Nat.le_of_ble_eq_true rfl) d_Integer_getChars_120
              have hp2 : p0 = t.length + 4 := by rw [hp, dgl4 (by omega)]; rfl
              refine ⟨_, hW.1, hW.2.1, sbL_app hL (fun j hj => (pk_un (by omega)).trans ((pk_un (by omega)).trans ((pk_un (by omega)).trans ((pk_un (by omega)).trans (rfl))))) (fun i hi => ⟨dgl_lt hv i hi, ?_⟩), sb_fitU (sb_fitU (sb_fitU (sb_fitU (hf) (sb_fitB _)) (sb_fitB _)) (sb_fitB _)) (sb_fitB _)⟩
              rw [dgl4 (by omega)] at hi ⊢
              rcases (by simp at hi; omega : i = 0 ∨ i = 1 ∨ i = 2 ∨ i = 3) with rfl | rfl | rfl | rfl
              · exact (updr (by omega)).trans (congrArg sb_b (by show (_ : Nat) = _; simp; try omega))
              · exact (pk_un (by omega)).trans ((updr (by omega)).trans (congrArg sb_b (by show (_ : Nat) = _; simp; try omega)))
              · exact (pk_un (by omega)).trans ((pk_un (by omega)).trans ((updr (by omega)).trans (congrArg sb_b (by show (_ : Nat) = _; simp; try omega))))
              · exact (pk_un (by omega)).trans ((pk_un (by omega)).trans ((pk_un (by omega)).trans ((updr (by omega)).trans (congrArg sb_b (by show (_ : Nat) = _; simp; try omega)))))
            · exact absurd c_10 (by decide)
        · skip
          exact absurd ((sb_cmpl (v := v / 100) (c := 100) (by omega) (by decide) (by decide)).mpr (by omega)) c_7
  · skip
    exact absurd (nI_pos' (n := v) (by omega)) c_1
set_option maxHeartbeats 4000000 in
set_option maxRecDepth 100000 in
theorem h_asbAppI (l : Launch) (G : GT) (Hx : Heap) (sa va m : Nat) (t : List Nat) (a : Nat → Int32) (hL : sbL t a) (hf : sb_Fit a) (hnm : t.length ≤ m) (hm : m = 16 ∨ m = 34) (v : Nat) (hv : v < 10000) (hn34 : t.length + (dgl v).length ≤ 34) (hP : va_P G.1 gcl [(sa, .inr (iSB, [.ref va, .int (0), .int (0), .int (nI (t.length))])), (va, aI (gC G 8) (m) (a))] Hx) (hD : va_D (gAb G) [(sa, .inr (iSB, [.ref va, .int (0), .int (0), .int (nI (t.length))])), (va, aI (gC G 8) (m) (a))]) : Met l y_AbstractStringBuilder_append_I (.code y_AbstractStringBuilder_append_I b_AbstractStringBuilder_append_I 4 (some (.object "java/lang/AbstractStringBuilder")) :: WS) { frames := 4, cells := 1, slots := 34, locals := 91 } (hPre G [.ref sa, .int (nI v)] (fun H9 => H9 = Hx)) (hQr G (fun r9 H9 => r9 = sa ∧ SBH G sa (t ++ dgl v) H9)) 1 34 (gAb G) := by
  refine h_startF (own := R_AbstractStringBuilder) (by decide +kernel) rfl (Nat.le_of_ble_eq_true rfl) ?_
  intro p e zs zm below meth zc ls C hI hl
  subst hI
  obtain ⟨hx, hb, hr, hml, hown, hts, hlk, hE, hbs⟩ := C
  have hK := hE.1
  have hl : lv_has ls 4 [(0, .ref sa), (1, .int (nI v))] := hl
  obtain ⟨locs, hlocs⟩ : ∃ l9 : List Loc, l9 = [] := ⟨_, rfl⟩
  rw [← hlocs]
  have hW : WW G zs.heap [(sa, .inr (iSB, [.ref va, .int (0), .int (0), .int (nI (t.length))])), (va, aI (gC G 8) (m) (a))] zs.heap locs := ⟨hP, hD, by rw [hlocs]; exact va_S.rf⟩
  refine lv_aload_n hx hb d_AbstractStringBuilder_append_I_0 rfl (lv_at hl 0 rfl) ?_
  refine va_get (v := .int (nI (t.length))) hx hb hts i_SB hown hK hW.1 0 rfl rfl 3 (by decide) (hts _ kw_29) (fun _ h => h) rfl d_AbstractStringBuilder_append_I_1 ?_
  refine lv_istore_n (lv' := [(2, .int (nI (t.length))), (0, .ref sa), (1, .int (nI v))]) hx hb d_AbstractStringBuilder_append_I_4 rfl hl (by decide) rfl (fun ls hl => ?_)
  refine lv_iload_n hx hb d_AbstractStringBuilder_append_I_5 rfl (lv_at hl 0 rfl) ?_
  refine lv_iload_n hx hb d_AbstractStringBuilder_append_I_6 rfl (lv_at hl 2 rfl) ?_
  refine h_ci (G := G) (h_runS (G := G) (G' := G) (I := fun Hz => Hz = zs.heap) hx hb hml hown hts hE hW.2.2 (Nat.le_refl _) rfl (Nat.le_trans hbs hW.2.2.1) rfl (h_strSize l G zs.heap (v) (by omega)) kw_50 kw_51 kw_49 kw_48 rfl rfl hd_Integer_stringSize ⟨Nat.le_of_ble_eq_true rfl, Nat.le_of_ble_eq_true rfl⟩ (As := [.int (nI v)]) (rest := [.int (nI (t.length))]) rfl hl.1 rfl (Nat.le_of_ble_eq_true rfl) d_AbstractStringBuilder_append_I_7 ⟨Nat.le_of_ble_eq_true rfl, Nat.le_of_ble_eq_true rfl⟩) hW.2.2 (Nat.le_refl _) (fun r9 H9 locs hJ hz9 hk9 hS9 => ?_)
  obtain ⟨hr9, hH9⟩ := hJ
  have hr9 := hr9.symm; subst hr9
  have hH9 := hH9.symm; subst hH9
  have hW : WW G zs.heap [(sa, .inr (iSB, [.ref va, .int (0), .int (0), .int (nI (t.length))])), (va, aI (gC G 8) (m) (a))] zs.heap locs := ⟨hW.1, hW.2.1, hS9⟩
  refine lv_iadd hx hb d_AbstractStringBuilder_append_I_10 ?_
  refine e_top (v := nI (t.length + (dgl v).length)) (nI_add (t.length) ((dgl v).length)) ?_
  refine lv_istore_n (lv' := [(3, .int (nI (t.length + (dgl v).length))), (2, .int (nI (t.length))), (0, .ref sa), (1, .int (nI v))]) hx hb d_AbstractStringBuilder_append_I_11 rfl hl (by decide) rfl (fun ls hl => ?_)
  refine lv_aload_n hx hb d_AbstractStringBuilder_append_I_12 rfl (lv_at hl 2 rfl) ?_
  refine lv_iload_n hx hb d_AbstractStringBuilder_append_I_13 rfl (lv_at hl 0 rfl) ?_
  refine h_cv (G := G) (h_runV (C := R_SB) (G := G) (G' := G) (I := fun Hz => Hz = zs.heap) hx hb hml hown hts hE hW.2.2 (Nat.le_refl _) rfl (Nat.le_trans hbs hW.2.2.1) rfl hW.1 0 rfl rfl (h_ensure l G zs.heap _ _ _ _ (t.length + (dgl v).length) _ hf hm (by omega) hW.1 hW.2.1) kw_31 kw_32 (va_Nw.use rfl (hE.2.2.2.2.2.2.2.2.2.2.2.2.2.2.2.2.2 _ (List.mem_of_getElem? (i := 0) rfl))) kw_22 kw_30 rfl rfl hd_AbstractStringBuilder_ensureCapacityInternal ⟨Nat.le_of_ble_eq_true rfl, Nat.le_of_ble_eq_true rfl⟩ (As := [.int (nI (t.length + (dgl v).length))]) (rest := []) rfl hl.1 rfl (Nat.le_of_ble_eq_true rfl) d_AbstractStringBuilder_append_I_14 ⟨Nat.le_of_ble_eq_true rfl, Nat.le_of_ble_eq_true rfl⟩) hW.2.2 (Nat.le_refl _) (fun H9 locs hJ hz9 hk9 hS9 => ?_)
  obtain ⟨va1, m1, a1, hJ1, hJ2, hf1, hq1, hm1, hk1⟩ := hJ
  have hW : WW G zs.heap [(sa, .inr (iSB, [.ref va1, .int (0), .int (0), .int (nI (t.length))])), (va1, aI (gC G 8) (m1) (a1))] H9 locs := ⟨hJ1, hJ2, hS9⟩
  refine lv_aload_n hx hb d_AbstractStringBuilder_append_I_17 rfl (lv_at hl 2 rfl) ?_
  refine h_ci (G := G) (h_runV (C := R_SB) (G := G) (G' := G) (I := fun Hz => Hz = H9) hx hb hml hown hts hE hW.2.2 (Nat.le_refl _) rfl (Nat.le_trans hbs hW.2.2.1) rfl hW.1 0 rfl rfl (h_asbL1 l G H9 _ _ _ _ _ hW.1 hW.2.1) kw_34 kw_35 (hts _ kw_36) kw_22 kw_33 rfl rfl hd_AbstractStringBuilder_isLatin1 ⟨Nat.le_of_ble_eq_true rfl, Nat.le_of_ble_eq_true rfl⟩ (As := []) (rest := []) rfl hl.1 rfl (Nat.le_of_ble_eq_true rfl) d_AbstractStringBuilder_append_I_18 ⟨Nat.le_of_ble_eq_true rfl, Nat.le_of_ble_eq_true rfl⟩) hW.2.2 (Nat.le_refl _) (fun r9 H9 locs hJ hz9 hk9 hS9 => ?_)
  obtain ⟨hr9, hH9⟩ := hJ
  have hr9 := hr9.symm; subst hr9
  have hH9 := hH9.symm; subst hH9
  have hW : WW G zs.heap [(sa, .inr (iSB, [.ref va1, .int (0), .int (0), .int (nI (t.length))])), (va1, aI (gC G 8) (m1) (a1))] H9 locs := ⟨hW.1, hW.2.1, hS9⟩
  refine lv_if_eq (tgt := 37) hx hb d_AbstractStringBuilder_append_I_21 (by decide) (fun c_1 => ?_) (fun c_1 => ?_)
  · skip
    exact absurd c_1 (by decide)
  · skip
    refine lv_iload_n hx hb d_AbstractStringBuilder_append_I_24 rfl (lv_at hl 3 rfl) ?_
    refine lv_iload_n hx hb d_AbstractStringBuilder_append_I_25 rfl (lv_at hl 0 rfl) ?_
    refine lv_aload_n hx hb d_AbstractStringBuilder_append_I_26 rfl (lv_at hl 2 rfl) ?_
    refine va_get (v := .ref va1) hx hb hts i_SB hown hK hW.1 0 rfl rfl 0 (by decide) (hts _ kw_7) (fun _ h => h) rfl d_AbstractStringBuilder_append_I_27 ?_
    refine h_ci (G := G) (h_runS (G := G) (G' := G) (I := fun Hz => Hz = H9) hx hb hml hown hts hE hW.2.2 (Nat.le_refl _) rfl (Nat.le_trans hbs hW.2.2.1) rfl (h_getChars l G H9 _ _ _ _ _ (sb_latKeep hL (fun j hj => hk1 j (by omega))) hf1 (v) _ (by omega) rfl hq1 hm1 hW.1 hW.2.1) kw_53 kw_54 kw_49 kw_52 rfl rfl hd_Integer_getChars ⟨Nat.le_of_ble_eq_true rfl, Nat.le_of_ble_eq_true rfl⟩ (As := [.int (nI v), .int (nI (t.length + (dgl v).length)), .ref va1]) (rest := []) rfl hl.1 rfl (Nat.le_of_ble_eq_true rfl) d_AbstractStringBuilder_append_I_30 ⟨Nat.le_of_ble_eq_true rfl, Nat.le_of_ble_eq_true rfl⟩) hW.2.2 (Nat.le_refl _) (fun r9 H9 locs hJ hz9 hk9 hS9 => ?_)
    obtain ⟨a2, hJ1, hJ2, hL2, hf2⟩ := hJ
    have hW : WW G zs.heap [(sa, .inr (iSB, [.ref va1, .int (0), .int (0), .int (nI (t.length))])), (va1, aI (gC G 8) (m1) (a2))] H9 locs := ⟨hJ1, hJ2, hS9⟩
    refine lv_pop hx hb d_AbstractStringBuilder_append_I_33 rfl ?_
    refine lv_goto (tgt := 48) hx hb d_AbstractStringBuilder_append_I_34 (by decide) ?_
    refine lv_aload_n hx hb d_AbstractStringBuilder_append_I_48 rfl (lv_at hl 2 rfl) ?_
    refine lv_iload_n hx hb d_AbstractStringBuilder_append_I_49 rfl (lv_at hl 0 rfl) ?_
    refine va_put hx hb hts i_SB t_SB t_SB_ok n_SB hown hK hW.1 hW.2.1 hW.2.2 0 rfl rfl 3 (by decide) (hts _ kw_29) (fun _ h => h) rfl (t_SB_ok 3 (by decide)) rfl rfl (Nat.le_of_ble_eq_true rfl) d_AbstractStringBuilder_append_I_50 (fun H locs h1 h2 h3 => ?_)
    have hW : WW G zs.heap [(sa, .inr (iSB, [.ref va1, .int (0), .int (0), .int (nI (t.length + (dgl v).length))])), (va1, aI (gC G 8) (m1) (a2))] H locs := ⟨h1, h2, h3⟩
    refine lv_aload_n hx hb d_AbstractStringBuilder_append_I_53 rfl (lv_at hl 2 rfl) ?_
    have hlen : (t ++ dgl v).length = t.length + (dgl v).length := by simp
    rw [← hlen] at hW hq1
    exact h_aret hx hb hr (Or.inl ⟨_, rfl⟩) hlk hW.2.2 ⟨rfl, va1, m1, _, hW.1, hW.2.1, hL2, hf2, hq1, hm1⟩ (Nat.le_of_ble_eq_true rfl) (Nat.le_of_ble_eq_true rfl) d_AbstractStringBuilder_append_I_54
set_option maxHeartbeats 4000000 in
set_option maxRecDepth 100000 in
theorem h_sbAppI (l : Launch) (G : GT) (Hx : Heap) (sa va m : Nat) (t : List Nat) (a : Nat → Int32) (hL : sbL t a) (hf : sb_Fit a) (hnm : t.length ≤ m) (hm : m = 16 ∨ m = 34) (v : Nat) (hv : v < 10000) (hn34 : t.length + (dgl v).length ≤ 34) (hP : va_P G.1 gcl [(sa, .inr (iSB, [.ref va, .int (0), .int (0), .int (nI (t.length))])), (va, aI (gC G 8) (m) (a))] Hx) (hD : va_D (gAb G) [(sa, .inr (iSB, [.ref va, .int (0), .int (0), .int (nI (t.length))])), (va, aI (gC G 8) (m) (a))]) : Met l y_SB_append_I (.code y_SB_append_I b_SB_append_I 2 (some (.object "java/lang/StringBuilder")) :: WS) { frames := 5, cells := 1, slots := 34, locals := 114 } (hPre G [.ref sa, .int (nI v)] (fun H9 => H9 = Hx)) (hQr G (fun r9 H9 => r9 = sa ∧ SBH G sa (t ++ dgl v) H9)) 1 34 (gAb G) := by
  refine h_startF (own := R_SB) (by decide +kernel) rfl (Nat.le_of_ble_eq_true rfl) ?_
  intro p e zs zm below meth zc ls C hI hl
  subst hI
  obtain ⟨hx, hb, hr, hml, hown, hts, hlk, hE, hbs⟩ := C
  have hK := hE.1
  have hl : lv_has ls 2 [(0, .ref sa), (1, .int (nI v))] := hl
  obtain ⟨locs, hlocs⟩ : ∃ l9 : List Loc, l9 = [] := ⟨_, rfl⟩
  rw [← hlocs]
  have hW : WW G zs.heap [(sa, .inr (iSB, [.ref va, .int (0), .int (0), .int (nI (t.length))])), (va, aI (gC G 8) (m) (a))] zs.heap locs := ⟨hP, hD, by rw [hlocs]; exact va_S.rf⟩
  refine lv_aload_n hx hb d_SB_append_I_0 rfl (lv_at hl 0 rfl) ?_
  refine lv_iload_n hx hb d_SB_append_I_1 rfl (lv_at hl 1 rfl) ?_
  refine h_cr (G := G) (h_runSU (C := R_SB) (G := G) (G' := G) (I := fun Hz => Hz = zs.heap) hx hb hml hown hts hE hW.2.2 (Nat.le_refl _) rfl (Nat.le_trans hbs hW.2.2.1) rfl hW.1 0 rfl rfl (h_asbAppI l G zs.heap _ _ _ _ _ hL hf hnm hm (v) (by omega) (by omega) hW.1 hW.2.1) kw_56 kw_57 kw_58 kw_45 kw_22 kw_55 rfl rfl ⟨by decide +kernel, hd_AbstractStringBuilder_append_I.2.2⟩ ⟨Nat.le_of_ble_eq_true rfl, Nat.le_of_ble_eq_true rfl⟩ (As := [.int (nI v)]) (rest := []) rfl hl.1 rfl (Nat.le_of_ble_eq_true rfl) d_SB_append_I_2 ⟨Nat.le_of_ble_eq_true rfl, Nat.le_of_ble_eq_true rfl⟩) hW.2.2 (Nat.le_refl _) (fun r9 H9 locs hJ hz9 hk9 hS9 => ?_)
  obtain ⟨hr9, va9, m9, a9, hJ1, hJ2, hL9, hf9, hn9, hm9⟩ := hJ
  have hr9 := hr9.symm; subst hr9
  have hW : WW G zs.heap [(sa, .inr (iSB, [.ref va9, .int (0), .int (0), .int (nI (t ++ dgl v).length)])), (va9, aI (gC G 8) (m9) (a9))] H9 locs := ⟨hJ1, hJ2, hS9⟩
  refine lv_pop hx hb d_SB_append_I_5 rfl ?_
  refine lv_aload_n hx hb d_SB_append_I_6 rfl (lv_at hl 0 rfl) ?_
  exact h_aret hx hb hr (Or.inl ⟨_, rfl⟩) hlk hW.2.2 ⟨rfl, va9, m9, a9, hW.1, hW.2.1, hL9, hf9, hn9, hm9⟩ (Nat.le_of_ble_eq_true rfl) (Nat.le_of_ble_eq_true rfl) d_SB_append_I_7
