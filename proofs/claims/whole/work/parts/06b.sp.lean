theorem kw_88 : .methodLink R_AbstractStringBuilder 3 Lib.objectInit ∈ WS := List.mem_filter.mpr ⟨List.mem_append_right _ (List.mem_of_getElem? (i := 661) (by decide +kernel)), by decide +kernel⟩
theorem kw_89 : .instanceMethod Lib.objectInit ∈ WS := List.mem_filter.mpr ⟨List.mem_append_right _ (List.mem_of_getElem? (i := 33) (by decide +kernel)), by decide +kernel⟩
theorem kw_90 : .code Lib.objectInit ⟨#[0xb1]⟩ 1 none ∈ WS := List.mem_filter.mpr ⟨List.mem_append_right _ (List.mem_of_getElem? (i := 34) (by decide +kernel)), by decide +kernel⟩
theorem kw_91 : .code y_AbstractStringBuilder_init b_AbstractStringBuilder_init 2 none ∈ WS := List.mem_filter.mpr ⟨List.mem_append_right _ (List.mem_of_getElem? (i := 660) (by decide +kernel)), by decide +kernel⟩
theorem kw_92 : .methodLink R_SB 1 y_AbstractStringBuilder_init ∈ WS := List.mem_filter.mpr ⟨List.mem_append_right _ (List.mem_of_getElem? (i := 658) (by decide +kernel)), by decide +kernel⟩
theorem kw_93 : .instanceMethod y_AbstractStringBuilder_init ∈ WS := List.mem_filter.mpr ⟨List.mem_append_right _ (List.mem_of_getElem? (i := 659) (by decide +kernel)), by decide +kernel⟩
theorem kw_94 : .code y_SB_append_C b_SB_append_C 2 (some (.object "java/lang/StringBuilder")) ∈ WS := List.mem_filter.mpr ⟨List.mem_append_right _ (List.mem_of_getElem? (i := 730) (by decide +kernel)), by decide +kernel⟩
theorem kw_95 : .initialized R_SB ∈ WS := List.mem_filter.mpr ⟨List.mem_append_right _ (List.mem_of_getElem? (i := 21) (by decide +kernel)), by decide +kernel⟩
theorem kw_96 : .methodLink R_Msg 61 y_SB_append_C ∈ WS := List.mem_filter.mpr ⟨List.mem_append_right _ (List.mem_of_getElem? (i := 727) (by decide +kernel)), by decide +kernel⟩
theorem kw_97 : .instanceMethod y_SB_append_C ∈ WS := List.mem_filter.mpr ⟨List.mem_append_right _ (List.mem_of_getElem? (i := 728) (by decide +kernel)), by decide +kernel⟩
theorem kw_98 : .selects R_SB y_SB_append_C y_SB_append_C ∈ WS := List.mem_filter.mpr ⟨List.mem_append_right _ (List.mem_of_getElem? (i := 729) (by decide +kernel)), by decide +kernel⟩
theorem kw_99 : .code y_SB_append_I b_SB_append_I 2 (some (.object "java/lang/StringBuilder")) ∈ WS := List.mem_filter.mpr ⟨List.mem_append_right _ (List.mem_of_getElem? (i := 806) (by decide +kernel)), by decide +kernel⟩
theorem kw_100 : .methodLink R_Msg 75 y_SB_append_I ∈ WS := List.mem_filter.mpr ⟨List.mem_append_right _ (List.mem_of_getElem? (i := 803) (by decide +kernel)), by decide +kernel⟩
theorem kw_101 : .instanceMethod y_SB_append_I ∈ WS := List.mem_filter.mpr ⟨List.mem_append_right _ (List.mem_of_getElem? (i := 804) (by decide +kernel)), by decide +kernel⟩
theorem kw_102 : .selects R_SB y_SB_append_I y_SB_append_I ∈ WS := List.mem_filter.mpr ⟨List.mem_append_right _ (List.mem_of_getElem? (i := 805) (by decide +kernel)), by decide +kernel⟩
theorem kw_103 : .code y_PC_ballotOf b_PC_ballotOf 1 (some .int) ∈ WS := List.mem_filter.mpr ⟨List.mem_append_right _ (List.mem_of_getElem? (i := 561) (by decide +kernel)), by decide +kernel⟩
theorem kw_104 : .initialized R_PC ∈ WS := List.mem_filter.mpr ⟨List.mem_append_right _ (List.mem_of_getElem? (i := 1) (by decide +kernel)), by decide +kernel⟩
theorem kw_105 : .static y_PC_ballotOf ∈ WS := List.mem_filter.mpr ⟨List.mem_append_right _ (List.mem_of_getElem? (i := 560) (by decide +kernel)), by decide +kernel⟩
theorem kw_106 : .code y_PC_voteOf b_PC_voteOf 1 (some .int) ∈ WS := List.mem_filter.mpr ⟨List.mem_append_right _ (List.mem_of_getElem? (i := 564) (by decide +kernel)), by decide +kernel⟩
theorem kw_107 : .static y_PC_voteOf ∈ WS := List.mem_filter.mpr ⟨List.mem_append_right _ (List.mem_of_getElem? (i := 563) (by decide +kernel)), by decide +kernel⟩
theorem kw_108 : .fieldLink R_Msg 9 "PaxosCommit$Message" "kind" "I" ∈ WS := List.mem_filter.mpr ⟨List.mem_append_right _ (List.mem_of_getElem? (i := 52) (by decide +kernel)), by decide +kernel⟩
theorem kw_109 : .code y_String_charAt b_String_charAt 2 (some .char) ∈ WS := List.mem_filter.mpr ⟨List.mem_append_right _ (List.mem_of_getElem? (i := 691) (by decide +kernel)), by decide +kernel⟩
theorem kw_110 : .methodLink R_Msg 55 y_String_charAt ∈ WS := List.mem_filter.mpr ⟨List.mem_append_right _ (List.mem_of_getElem? (i := 688) (by decide +kernel)), by decide +kernel⟩
theorem kw_111 : .selects R_String y_String_charAt y_String_charAt ∈ WS := List.mem_filter.mpr ⟨List.mem_append_right _ (List.mem_of_getElem? (i := 690) (by decide +kernel)), by decide +kernel⟩
theorem kw_112 : .instanceMethod y_String_charAt ∈ WS := List.mem_filter.mpr ⟨List.mem_append_right _ (List.mem_of_getElem? (i := 689) (by decide +kernel)), by decide +kernel⟩
theorem kw_113 : .fieldLink R_Msg 15 "PaxosCommit$Message" "transaction" "I" ∈ WS := List.mem_filter.mpr ⟨List.mem_append_right _ (List.mem_of_getElem? (i := 54) (by decide +kernel)), by decide +kernel⟩
theorem kw_114 : .code y_Msg_spellPart b_Msg_spellPart 3 none ∈ WS := List.mem_filter.mpr ⟨List.mem_append_right _ (List.mem_of_getElem? (i := 802) (by decide +kernel)), by decide +kernel⟩
theorem kw_115 : .initialized R_Msg ∈ WS := List.mem_filter.mpr ⟨List.mem_append_right _ (List.mem_of_getElem? (i := 3) (by decide +kernel)), by decide +kernel⟩
theorem kw_116 : .methodLink R_Msg 67 y_Msg_spellPart ∈ WS := List.mem_filter.mpr ⟨List.mem_append_right _ (List.mem_of_getElem? (i := 800) (by decide +kernel)), by decide +kernel⟩
theorem kw_117 : .static y_Msg_spellPart ∈ WS := List.mem_filter.mpr ⟨List.mem_append_right _ (List.mem_of_getElem? (i := 801) (by decide +kernel)), by decide +kernel⟩
theorem kw_118 : .fieldLink R_Msg 18 "PaxosCommit$Message" "store" "I" ∈ WS := List.mem_filter.mpr ⟨List.mem_append_right _ (List.mem_of_getElem? (i := 56) (by decide +kernel)), by decide +kernel⟩
theorem kw_119 : .fieldLink R_Msg 21 "PaxosCommit$Message" "acceptor" "I" ∈ WS := List.mem_filter.mpr ⟨List.mem_append_right _ (List.mem_of_getElem? (i := 58) (by decide +kernel)), by decide +kernel⟩
theorem kw_120 : .fieldLink R_Msg 24 "PaxosCommit$Message" "leader" "I" ∈ WS := List.mem_filter.mpr ⟨List.mem_append_right _ (List.mem_of_getElem? (i := 60) (by decide +kernel)), by decide +kernel⟩
theorem kw_121 : .fieldLink R_Msg 27 "PaxosCommit$Message" "ballot" "I" ∈ WS := List.mem_filter.mpr ⟨List.mem_append_right _ (List.mem_of_getElem? (i := 62) (by decide +kernel)), by decide +kernel⟩
theorem kw_122 : .fieldLink R_Msg 30 "PaxosCommit$Message" "vote" "I" ∈ WS := List.mem_filter.mpr ⟨List.mem_append_right _ (List.mem_of_getElem? (i := 64) (by decide +kernel)), by decide +kernel⟩
theorem kw_123 : .fieldLink R_Msg 33 "PaxosCommit$Message" "replied" "[I" ∈ WS := List.mem_filter.mpr ⟨List.mem_append_right _ (List.mem_of_getElem? (i := 66) (by decide +kernel)), by decide +kernel⟩
theorem kw_124 : .code y_Msg_spellReplied b_Msg_spellReplied 2 none ∈ WS := List.mem_filter.mpr ⟨List.mem_append_right _ (List.mem_of_getElem? (i := 839) (by decide +kernel)), by decide +kernel⟩
theorem kw_125 : .methodLink R_Msg 71 y_Msg_spellReplied ∈ WS := List.mem_filter.mpr ⟨List.mem_append_right _ (List.mem_of_getElem? (i := 837) (by decide +kernel)), by decide +kernel⟩
theorem kw_126 : .static y_Msg_spellReplied ∈ WS := List.mem_filter.mpr ⟨List.mem_append_right _ (List.mem_of_getElem? (i := 838) (by decide +kernel)), by decide +kernel⟩
theorem hd_AbstractStringBuilder_init : y_AbstractStringBuilder_init.cls ≠ "java/lang/invoke/MethodHandle" ∧ y_AbstractStringBuilder_init.cls ≠ "java/lang/invoke/VarHandle" ∧ (parseMethodDescriptor y_AbstractStringBuilder_init.desc).map (fun d => d.parameters.length) = some 1 := by decide +kernel
theorem hd_SB_append_C : y_SB_append_C.cls ≠ "java/lang/invoke/MethodHandle" ∧ y_SB_append_C.cls ≠ "java/lang/invoke/VarHandle" ∧ (parseMethodDescriptor y_SB_append_C.desc).map (fun d => d.parameters.length) = some 1 := by decide +kernel
theorem hd_SB_append_I : y_SB_append_I.cls ≠ "java/lang/invoke/MethodHandle" ∧ y_SB_append_I.cls ≠ "java/lang/invoke/VarHandle" ∧ (parseMethodDescriptor y_SB_append_I.desc).map (fun d => d.parameters.length) = some 1 := by decide +kernel
theorem hd_PC_ballotOf : y_PC_ballotOf.cls ≠ "java/lang/invoke/MethodHandle" ∧ y_PC_ballotOf.cls ≠ "java/lang/invoke/VarHandle" ∧ (parseMethodDescriptor y_PC_ballotOf.desc).map (fun d => d.parameters.length) = some 1 := by decide +kernel
theorem hd_PC_voteOf : y_PC_voteOf.cls ≠ "java/lang/invoke/MethodHandle" ∧ y_PC_voteOf.cls ≠ "java/lang/invoke/VarHandle" ∧ (parseMethodDescriptor y_PC_voteOf.desc).map (fun d => d.parameters.length) = some 1 := by decide +kernel
theorem hd_String_charAt : y_String_charAt.cls ≠ "java/lang/invoke/MethodHandle" ∧ y_String_charAt.cls ≠ "java/lang/invoke/VarHandle" ∧ (parseMethodDescriptor y_String_charAt.desc).map (fun d => d.parameters.length) = some 1 := by decide +kernel
theorem hd_Msg_spellPart : y_Msg_spellPart.cls ≠ "java/lang/invoke/MethodHandle" ∧ y_Msg_spellPart.cls ≠ "java/lang/invoke/VarHandle" ∧ (parseMethodDescriptor y_Msg_spellPart.desc).map (fun d => d.parameters.length) = some 3 := by decide +kernel
theorem hd_Msg_spellReplied : y_Msg_spellReplied.cls ≠ "java/lang/invoke/MethodHandle" ∧ y_Msg_spellReplied.cls ≠ "java/lang/invoke/VarHandle" ∧ (parseMethodDescriptor y_Msg_spellReplied.desc).map (fun d => d.parameters.length) = some 2 := by decide +kernel
set_option maxHeartbeats 4000000 in
set_option maxRecDepth 100000 in
theorem h_asbInit (l : Launch) (G : GT) (Hx : Heap) (sa : Nat) (hP : va_P G.1 gcl [(sa, .inr (iSB, [.null, .int (0), .int (0), .int (0)]))] Hx) (hD : va_D (gAb G) [(sa, .inr (iSB, [.null, .int (0), .int (0), .int (0)]))]) : Met l y_AbstractStringBuilder_init (.code y_AbstractStringBuilder_init b_AbstractStringBuilder_init 2 none :: WS) { frames := 1, cells := 1, slots := 16, locals := 30 } (hPre G [.ref sa, .int (16)] (fun H9 => H9 = Hx)) (hQv G (fun H9 => SBH G sa [] H9)) 1 16 (gAb G) := by
  refine h_startF (own := R_AbstractStringBuilder) (by decide +kernel) rfl (Nat.le_of_ble_eq_true rfl) ?_
  intro p e zs zm below meth zc ls C hI hl
  subst hI
  obtain ⟨hx, hb, hr, hml, hown, hts, hlk, hE, hbs⟩ := C
  have hK := hE.1
  have hl : lv_has ls 2 [(0, .ref sa), (1, .int (16))] := hl
  obtain ⟨locs, hlocs⟩ : ∃ l9 : List Loc, l9 = [] := ⟨_, rfl⟩
  rw [← hlocs]
  have hW : WW G zs.heap [(sa, .inr (iSB, [.null, .int (0), .int (0), .int (0)]))] zs.heap locs := ⟨hP, hD, by rw [hlocs]; exact va_S.rf⟩
  obtain ⟨eC, eF, ⟨tO, eO, eO'⟩, ⟨tT, eT, eT'⟩, ⟨aK, aV, eL, eL'⟩, eA, eV, eM⟩ := hE.2.2.2.2.2.2.2.2.2
  refine lv_aload_n hx hb d_AbstractStringBuilder_init_0 rfl (lv_at hl 0 rfl) ?_
  refine h_oinit hx hb hown (hts _ kw_88) (hts _ kw_89) (hts _ kw_90) (by rw [hml]; exact hl.1) d_AbstractStringBuilder_init_1 (Nat.le_of_ble_eq_true rfl) (Nat.le_of_ble_eq_true rfl) ?_
  refine va_gets hx hb eC hW.2.2 hown (hts _ kw_5) (fun _ h => h) d_AbstractStringBuilder_init_4 ?_
  refine lv_if_eq (tgt := 25) hx hb d_AbstractStringBuilder_init_7 (by decide) (fun c_1 => ?_) (fun c_1 => ?_)
  · exact absurd c_1 (by decide)
  · skip
    refine lv_aload_n hx hb d_AbstractStringBuilder_init_10 rfl (lv_at hl 0 rfl) ?_
    refine lv_iload_n hx hb d_AbstractStringBuilder_init_11 rfl (lv_at hl 1 rfl) ?_
    obtain ⟨na_1, e_na_1⟩ : ∃ q9 : Nat, q9 = Array.size zs.heap := ⟨_, rfl⟩
    refine h_newa (G := G) (atype := .byte) (t0 := 8) (N' := 16) (a0 := (16, .inl (fun _ => 0))) hx hb hts kw_13 (List.mem_of_getElem? (i := 8) rfl) hE hW.2.2 (fun _ => by first | rfl | (rw [vp_cell_i]; rfl)) (by decide) (by decide) (by decide) (Nat.le_of_ble_eq_true rfl) (Nat.le_of_ble_eq_true rfl) d_AbstractStringBuilder_init_12 (fun H ha9 hz9 hk9 hS9 => ?_)
    have hW := WW_push hW hbs ha9 hk9 hS9
    rw [← e_na_1] at hW ⊢
    have hW : WW G zs.heap [(sa, .inr (iSB, [.null, .int (0), .int (0), .int (0)])), (na_1, aI (gC G 8) (16) (fun _ => 0))] H locs := hW
    refine va_put hx hb hts i_SB t_SB t_SB_ok n_SB hown hK hW.1 hW.2.1 hW.2.2 0 rfl rfl 0 (by decide) (hts _ kw_7) (fun _ h => h) rfl (t_SB_ok 0 (by decide)) rfl rfl (Nat.le_of_ble_eq_true rfl) d_AbstractStringBuilder_init_14 (fun H locs h1 h2 h3 => ?_)
    have hW : WW G zs.heap [(sa, .inr (iSB, [.ref na_1, .int (0), .int (0), .int (0)])), (na_1, aI (gC G 8) (16) (fun _ => 0))] H locs := ⟨h1, h2, h3⟩
    refine lv_aload_n hx hb d_AbstractStringBuilder_init_17 rfl (lv_at hl 0 rfl) ?_
    refine lv_iconst (v := 0) hx hb d_AbstractStringBuilder_init_18 (by decide) ?_
    refine va_put hx hb hts i_SB t_SB t_SB_ok n_SB hown hK hW.1 hW.2.1 hW.2.2 0 rfl rfl 1 (by decide) (hts _ kw_6) (fun _ h => h) rfl (t_SB_ok 1 (by decide)) rfl rfl (Nat.le_of_ble_eq_true rfl) d_AbstractStringBuilder_init_19 (fun H locs h1 h2 h3 => ?_)
    have hW : WW G zs.heap [(sa, .inr (iSB, [.ref na_1, .int (0), .int (0), .int (0)])), (na_1, aI (gC G 8) (16) (fun _ => 0))] H locs := ⟨h1, h2, h3⟩
    refine lv_goto (tgt := 38) hx hb d_AbstractStringBuilder_init_22 (by decide) ?_
    exact h_vret hx hb hr hlk hW.2.2 ⟨na_1, 16, _, hW.1, hW.2.1, sbL_nil, sb_fit0, Nat.zero_le _, Or.inl rfl⟩ (Nat.le_of_ble_eq_true rfl) (Nat.le_of_ble_eq_true rfl) d_AbstractStringBuilder_init_38
set_option maxHeartbeats 4000000 in
set_option maxRecDepth 100000 in
theorem h_sbInit (l : Launch) (G : GT) (Hx : Heap) (sa : Nat) (hP : va_P G.1 gcl [(sa, .inr (iSB, [.null, .int (0), .int (0), .int (0)]))] Hx) (hD : va_D (gAb G) [(sa, .inr (iSB, [.null, .int (0), .int (0), .int (0)]))]) : Met l y_SB_init (.code y_SB_init b_SB_init 1 none :: WS) { frames := 2, cells := 1, slots := 16, locals := 51 } (hPre G [.ref sa] (fun H9 => H9 = Hx)) (hQv G (fun H9 => SBH G sa [] H9)) 1 16 (gAb G) := by
  refine h_startF (own := R_SB) (by decide +kernel) rfl (Nat.le_of_ble_eq_true rfl) ?_
  intro p e zs zm below meth zc ls C hI hl
  subst hI
  obtain ⟨hx, hb, hr, hml, hown, hts, hlk, hE, hbs⟩ := C
  have hK := hE.1
  have hl : lv_has ls 1 [(0, .ref sa)] := hl
  obtain ⟨locs, hlocs⟩ : ∃ l9 : List Loc, l9 = [] := ⟨_, rfl⟩
  rw [← hlocs]
  have hW : WW G zs.heap [(sa, .inr (iSB, [.null, .int (0), .int (0), .int (0)]))] zs.heap locs := ⟨hP, hD, by rw [hlocs]; exact va_S.rf⟩
  refine lv_aload_n hx hb d_SB_init_0 rfl (lv_at hl 0 rfl) ?_
  refine lv_bipush (v := 16) hx hb d_SB_init_1 (by decide) ?_
  refine h_cv (G := G) (h_runI (G := G) (G' := G) (I := fun Hz => Hz = zs.heap) hx hb hml hown hts hE hW.2.2 (Nat.le_refl _) rfl (Nat.le_trans hbs hW.2.2.1) rfl (h_asbInit l G zs.heap _ hW.1 hW.2.1) kw_92 kw_93 rfl kw_22 kw_91 rfl rfl hd_AbstractStringBuilder_init ⟨Nat.le_of_ble_eq_true rfl, Nat.le_of_ble_eq_true rfl⟩ (As := [.int (16)]) (rest := []) rfl hl.1 rfl (Nat.le_of_ble_eq_true rfl) d_SB_init_3 ⟨Nat.le_of_ble_eq_true rfl, Nat.le_of_ble_eq_true rfl⟩) hW.2.2 (Nat.le_refl _) (fun H9 locs hJ hz9 hk9 hS9 => ?_)
  obtain ⟨va, m, a, hJ1, hJ2, hL, hf, hnm, hm⟩ := hJ
  have hW : WW G zs.heap [(sa, .inr (iSB, [.ref va, .int (0), .int (0), .int (nI ([] : List Nat).length)])), (va, aI (gC G 8) (m) (a))] H9 locs := ⟨hJ1, hJ2, hS9⟩
  exact h_vret hx hb hr hlk hW.2.2 ⟨va, m, a, hW.1, hW.2.1, hL, hf, hnm, hm⟩ (Nat.le_of_ble_eq_true rfl) (Nat.le_of_ble_eq_true rfl) d_SB_init_6
set_option maxHeartbeats 4000000 in
set_option maxRecDepth 100000 in
theorem h_spellPart (l : Launch) (G : GT) (Hx : Heap) (sa : Nat) (t : List Nat) (c : Nat) (x : Int32) (hc : c < 256) (hn9 : nmB 10000 x) (h34 : t.length + (prt c x).length ≤ 34) (hB : SBH G sa t Hx) : Met l y_Msg_spellPart (.code y_Msg_spellPart b_Msg_spellPart 3 none :: WS) { frames := 6, cells := 2, slots := 68, locals := 135 } (hPre G [.ref sa, .int (nI c), .int (x)] (fun H9 => H9 = Hx)) (hQv G (fun H9 => SBH G sa (t ++ prt c x) H9)) 2 68 (gAb G) := by
  refine h_startF (own := R_Msg) (by decide +kernel) rfl (Nat.le_of_ble_eq_true rfl) ?_
  intro p e zs zm below meth zc ls C hI hl
  subst hI
  obtain ⟨hx, hb, hr, hml, hown, hts, hlk, hE, hbs⟩ := C
  have hK := hE.1
  have hl : lv_has ls 3 [(0, .ref sa), (1, .int (nI c)), (2, .int (x))] := hl
  obtain ⟨locs, hlocs⟩ : ∃ l9 : List Loc, l9 = [] := ⟨_, rfl⟩
  rw [← hlocs]
  obtain ⟨va, m, a, hP, hD, hL, hf, hnm, hm⟩ := hB
  have hW : WW G zs.heap [(sa, .inr (iSB, [.ref va, .int (0), .int (0), .int (nI (t.length))])), (va, aI (gC G 8) (m) (a))] zs.heap locs := ⟨hP, hD, by rw [hlocs]; exact va_S.rf⟩
  refine lv_iload_n hx hb d_Msg_spellPart_0 rfl (lv_at hl 2 rfl) ?_
  refine lv_iconst (v := -1) hx hb d_Msg_spellPart_1 (by decide) ?_
  refine lv_icmp_eq (tgt := 17) hx hb d_Msg_spellPart_2 (by decide) (fun c_1 => ?_) (fun c_1 => ?_)
  · skip
    exact h_vret hx hb hr hlk hW.2.2 (by show SBH G sa (t ++ prt c x) _; rw [show prt c x = [] by unfold prt; rw [if_pos c_1], List.append_nil]; exact ⟨va, m, a, hW.1, hW.2.1, hL, hf, hnm, hm⟩) (Nat.le_of_ble_eq_true rfl) (Nat.le_of_ble_eq_true rfl) d_Msg_spellPart_17
  · skip
    obtain ⟨v, hv, rfl⟩ := hn9.resolve_left c_1
    have e9 : prt c (nI v) = c :: dgl v := by unfold prt; rw [if_neg c_1, nI_clamp (by omega)]
    rw [e9, List.length_cons] at h34
    refine lv_aload_n hx hb d_Msg_spellPart_5 rfl (lv_at hl 0 rfl) ?_
    refine lv_iload_n hx hb d_Msg_spellPart_6 rfl (lv_at hl 1 rfl) ?_
    refine h_cr (G := G) (h_runV (C := R_SB) (G := G) (G' := G) (I := fun Hz => Hz = zs.heap) hx hb hml hown hts hE hW.2.2 (Nat.le_refl _) rfl (Nat.le_trans hbs hW.2.2.1) rfl hW.1 0 rfl rfl (h_sbAppC l G zs.heap _ _ _ _ _ hL hf hnm hm (c) (by omega) (by omega) hW.1 hW.2.1) kw_96 kw_97 (hts _ kw_98) kw_95 kw_94 rfl rfl hd_SB_append_C ⟨Nat.le_of_ble_eq_true rfl, Nat.le_of_ble_eq_true rfl⟩ (As := [.int (nI c)]) (rest := []) rfl hl.1 rfl (Nat.le_of_ble_eq_true rfl) d_Msg_spellPart_7 ⟨Nat.le_of_ble_eq_true rfl, Nat.le_of_ble_eq_true rfl⟩) hW.2.2 (Nat.le_refl _) (fun r9 H9 locs hJ hz9 hk9 hS9 => ?_)
    obtain ⟨hr9, va, m, a, hJ1, hJ2, hL, hf, hnm, hm⟩ := hJ
    have hr9 := hr9.symm; subst hr9
    have hW : WW G zs.heap [(sa, .inr (iSB, [.ref va, .int (0), .int (0), .int (nI (t ++ [c]).length)])), (va, aI (gC G 8) (m) (a))] H9 locs := ⟨hJ1, hJ2, hS9⟩
    refine lv_pop hx hb d_Msg_spellPart_10 rfl ?_
    refine lv_aload_n hx hb d_Msg_spellPart_11 rfl (lv_at hl 0 rfl) ?_
    refine lv_iload_n hx hb d_Msg_spellPart_12 rfl (lv_at hl 2 rfl) ?_
    refine h_cr (G := G) (h_runV (C := R_SB) (G := G) (G' := G) (I := fun Hz => Hz = H9) hx hb hml hown hts hE hW.2.2 (Nat.le_refl _) rfl (Nat.le_trans hbs hW.2.2.1) rfl hW.1 0 rfl rfl (h_sbAppI l G H9 _ _ _ _ _ hL hf hnm hm (v) (by omega) (by rw [List.length_append]; simp only [List.length_cons, List.length_nil]; omega) hW.1 hW.2.1) kw_100 kw_101 (hts _ kw_102) kw_95 kw_99 rfl rfl hd_SB_append_I ⟨Nat.le_of_ble_eq_true rfl, Nat.le_of_ble_eq_true rfl⟩ (As := [.int (nI v)]) (rest := []) rfl hl.1 rfl (Nat.le_of_ble_eq_true rfl) d_Msg_spellPart_13 ⟨Nat.le_of_ble_eq_true rfl, Nat.le_of_ble_eq_true rfl⟩) hW.2.2 (Nat.le_refl _) (fun r9 H9 locs hJ hz9 hk9 hS9 => ?_)
    obtain ⟨hr9, va, m, a, hJ1, hJ2, hL, hf, hnm, hm⟩ := hJ
    have hr9 := hr9.symm; subst hr9
    have hW : WW G zs.heap [(sa, .inr (iSB, [.ref va, .int (0), .int (0), .int (nI ((t ++ [c]) ++ dgl v).length)])), (va, aI (gC G 8) (m) (a))] H9 locs := ⟨hJ1, hJ2, hS9⟩
    refine lv_pop hx hb d_Msg_spellPart_16 rfl ?_
    exact h_vret hx hb hr hlk hW.2.2 (by show SBH G sa (t ++ prt c (nI v)) _; rw [e9, show t ++ c :: dgl v = (t ++ [c]) ++ dgl v by simp]; exact ⟨va, m, a, hW.1, hW.2.1, hL, hf, hnm, hm⟩) (Nat.le_of_ble_eq_true rfl) (Nat.le_of_ble_eq_true rfl) d_Msg_spellPart_17
set_option maxHeartbeats 4000000 in
set_option maxRecDepth 100000 in
theorem h_ballotOf (l : Launch) (G : GT) (Hx : Heap) (x : Int32) : Met l y_PC_ballotOf (.code y_PC_ballotOf b_PC_ballotOf 1 (some .int) :: WS) { frames := 0, cells := 0, slots := 0, locals := 0 } (hPre G [.int (x)] (fun H9 => H9 = Hx)) (hQi G (fun r9 H9 => r9 = balI x ∧ H9 = Hx)) 0 0 (gAb G) := by
  refine h_startF (own := R_PC) (by decide +kernel) rfl (Nat.le_of_ble_eq_true rfl) ?_
  intro p e zs zm below meth zc ls C hI hl
  subst hI
  obtain ⟨hx, hb, hr, hml, hown, hts, hlk, hE, hbs⟩ := C
  have hK := hE.1
  have hl : lv_has ls 1 [(0, .int (x))] := hl
  obtain ⟨locs, hlocs⟩ : ∃ l9 : List Loc, l9 = [] := ⟨_, rfl⟩
  rw [← hlocs]
  have hW : WW G zs.heap [] zs.heap locs := WW_nil hlocs
  refine lv_iload_n hx hb d_PC_ballotOf_0 rfl (lv_at hl 0 rfl) ?_
  refine lv_iconst (v := -1) hx hb d_PC_ballotOf_1 (by decide) ?_
  refine lv_icmp_ne (tgt := 9) hx hb d_PC_ballotOf_2 (by decide) (fun c_1 => ?_) (fun c_1 => ?_)
  · skip
    refine lv_iload_n hx hb d_PC_ballotOf_9 rfl (lv_at hl 0 rfl) ?_
    refine lv_iconst (v := 2) hx hb d_PC_ballotOf_10 (by decide) ?_
    refine lv_idiv hx hb d_PC_ballotOf_11 (by decide) ?_
    exact h_iret hx hb hr hlk hW.2.2 ⟨by unfold balI; rw [if_neg c_1], rfl⟩ (Nat.le_of_ble_eq_true rfl) (Nat.le_of_ble_eq_true rfl) d_PC_ballotOf_12
  · skip
    refine lv_iconst (v := -1) hx hb d_PC_ballotOf_5 (by decide) ?_
    refine lv_goto (tgt := 12) hx hb d_PC_ballotOf_6 (by decide) ?_
    exact h_iret hx hb hr hlk hW.2.2 ⟨by unfold balI; rw [if_pos c_1], rfl⟩ (Nat.le_of_ble_eq_true rfl) (Nat.le_of_ble_eq_true rfl) d_PC_ballotOf_12
set_option maxHeartbeats 4000000 in
set_option maxRecDepth 100000 in
theorem h_voteOf (l : Launch) (G : GT) (Hx : Heap) (x : Int32) : Met l y_PC_voteOf (.code y_PC_voteOf b_PC_voteOf 1 (some .int) :: WS) { frames := 0, cells := 0, slots := 0, locals := 0 } (hPre G [.int (x)] (fun H9 => H9 = Hx)) (hQi G (fun r9 H9 => r9 = votI x ∧ H9 = Hx)) 0 0 (gAb G) := by
  refine h_startF (own := R_PC) (by decide +kernel) rfl (Nat.le_of_ble_eq_true rfl) ?_
  intro p e zs zm below meth zc ls C hI hl
  subst hI
  obtain ⟨hx, hb, hr, hml, hown, hts, hlk, hE, hbs⟩ := C
  have hK := hE.1
  have hl : lv_has ls 1 [(0, .int (x))] := hl
  obtain ⟨locs, hlocs⟩ : ∃ l9 : List Loc, l9 = [] := ⟨_, rfl⟩
  rw [← hlocs]
  have hW : WW G zs.heap [] zs.heap locs := WW_nil hlocs
  refine lv_iload_n hx hb d_PC_voteOf_0 rfl (lv_at hl 0 rfl) ?_
  refine lv_iconst (v := 2) hx hb d_PC_voteOf_1 (by decide) ?_
  refine lv_irem hx hb d_PC_voteOf_2 (by decide) ?_
  refine lv_if_ne (tgt := 10) hx hb d_PC_voteOf_3 (by decide) (fun c_1 => ?_) (fun c_1 => ?_)
  · skip
    refine lv_iconst (v := 1) hx hb d_PC_voteOf_10 (by decide) ?_
    exact h_iret hx hb hr hlk hW.2.2 ⟨by unfold votI; rw [if_neg c_1], rfl⟩ (Nat.le_of_ble_eq_true rfl) (Nat.le_of_ble_eq_true rfl) d_PC_voteOf_11
  · skip
    refine lv_iconst (v := 0) hx hb d_PC_voteOf_6 (by decide) ?_
    refine lv_goto (tgt := 11) hx hb d_PC_voteOf_7 (by decide) ?_
    exact h_iret hx hb hr hlk hW.2.2 ⟨by unfold votI; rw [if_pos c_1], rfl⟩ (Nat.le_of_ble_eq_true rfl) (Nat.le_of_ble_eq_true rfl) d_PC_voteOf_11
set_option maxHeartbeats 4000000 in
set_option maxRecDepth 100000 in
theorem h_spellReplied (l : Launch) (G : GT) (Hx : Heap) (sa : Nat) (t : List Nat) (x : Int32) (hn9 : nmB 20000 x) (h34 : t.length + (rpl x).length ≤ 34) (hB : SBH G sa t Hx) : Met l y_Msg_spellReplied (.code y_Msg_spellReplied b_Msg_spellReplied 2 none :: WS) { frames := 6, cells := 2, slots := 68, locals := 135 } (hPre G [.ref sa, .int (x)] (fun H9 => H9 = Hx)) (hQv G (fun H9 => SBH G sa (t ++ rpl x) H9)) 2 68 (gAb G) := by
  refine h_startF (own := R_Msg) (by decide +kernel) rfl (Nat.le_of_ble_eq_true rfl) ?_
  intro p e zs zm below meth zc ls C hI hl
  subst hI
  obtain ⟨hx, hb, hr, hml, hown, hts, hlk, hE, hbs⟩ := C
  have hK := hE.1
  have hl : lv_has ls 2 [(0, .ref sa), (1, .int (x))] := hl
  obtain ⟨locs, hlocs⟩ : ∃ l9 : List Loc, l9 = [] := ⟨_, rfl⟩
  rw [← hlocs]
  obtain ⟨va, m, a, hP, hD, hL, hf, hnm, hm⟩ := hB
  have hW : WW G zs.heap [(sa, .inr (iSB, [.ref va, .int (0), .int (0), .int (nI (t.length))])), (va, aI (gC G 8) (m) (a))] zs.heap locs := ⟨hP, hD, by rw [hlocs]; exact va_S.rf⟩
  refine lv_iload_n hx hb d_Msg_spellReplied_0 rfl (lv_at hl 1 rfl) ?_
  refine lv_iconst (v := -1) hx hb d_Msg_spellReplied_1 (by decide) ?_
  refine lv_icmp_ne (tgt := 15) hx hb d_Msg_spellReplied_2 (by decide) (fun c_1 => ?_) (fun c_1 => ?_)
  · skip
    obtain ⟨v, hv, rfl⟩ := hn9.resolve_left c_1
    have e9 : rpl (nI v) = dgl (v / 2) ++ vtl (votI (nI v)) := by unfold rpl; rw [if_neg c_1, balN (by omega), nI_clamp (by omega)]
    rw [e9, List.length_append, vtl_len] at h34
    refine lv_aload_n hx hb d_Msg_spellReplied_15 rfl (lv_at hl 0 rfl) ?_
    refine lv_iload_n hx hb d_Msg_spellReplied_16 rfl (lv_at hl 1 rfl) ?_
    refine h_ci (G := G) (h_runSN (G := G) (G' := G) (I := fun Hz => Hz = zs.heap) hx hb hml hown hts hE hW.2.2 (Nat.le_refl _) rfl (Nat.le_trans hbs hW.2.2.1) rfl (h_ballotOf l G zs.heap (nI v)) km_9 kw_105 kw_104 kw_103 rfl rfl hd_PC_ballotOf ⟨Nat.le_of_ble_eq_true rfl, Nat.le_of_ble_eq_true rfl⟩ (As := [.int (nI v)]) (rest := [.ref sa]) rfl hl.1 rfl (Nat.le_of_ble_eq_true rfl) d_Msg_spellReplied_17 ⟨Nat.le_of_ble_eq_true rfl, Nat.le_of_ble_eq_true rfl⟩) hW.2.2 (Nat.le_refl _) (fun r9 H9 locs hJ hz9 hk9 hS9 => ?_)
    obtain ⟨hr9, hH9⟩ := hJ
    have hr9 := hr9.symm; subst hr9
    have hH9 := hH9.symm; subst hH9
    have hW : WW G zs.heap [(sa, .inr (iSB, [.ref va, .int (0), .int (0), .int (nI (t.length))])), (va, aI (gC G 8) (m) (a))] zs.heap locs := ⟨hW.1, hW.2.1, hS9⟩
    refine e_top (v := nI (v / 2)) (balN (by omega)) ?_
    refine h_cr (G := G) (h_runV (C := R_SB) (G := G) (G' := G) (I := fun Hz => Hz = zs.heap) hx hb hml hown hts hE hW.2.2 (Nat.le_refl _) rfl (Nat.le_trans hbs hW.2.2.1) rfl hW.1 0 rfl rfl (h_sbAppI l G zs.heap _ _ _ _ _ hL hf hnm hm (v / 2) (by omega) (by omega) hW.1 hW.2.1) kw_100 kw_101 (hts _ kw_102) kw_95 kw_99 rfl rfl hd_SB_append_I ⟨Nat.le_of_ble_eq_true rfl, Nat.le_of_ble_eq_true rfl⟩ (As := [.int (nI (v / 2))]) (rest := []) rfl hl.1 rfl (Nat.le_of_ble_eq_true rfl) d_Msg_spellReplied_20 ⟨Nat.le_of_ble_eq_true rfl, Nat.le_of_ble_eq_true rfl⟩) hW.2.2 (Nat.le_refl _) (fun r9 H9 locs hJ hz9 hk9 hS9 => ?_)
    obtain ⟨hr9, va, m, a, hJ1, hJ2, hL, hf, hnm, hm⟩ := hJ
    have hr9 := hr9.symm; subst hr9
    have hW : WW G zs.heap [(sa, .inr (iSB, [.ref va, .int (0), .int (0), .int (nI (t ++ dgl (v / 2)).length)])), (va, aI (gC G 8) (m) (a))] H9 locs := ⟨hJ1, hJ2, hS9⟩
    refine lv_pop hx hb d_Msg_spellReplied_23 rfl ?_
    refine lv_aload_n hx hb d_Msg_spellReplied_24 rfl (lv_at hl 0 rfl) ?_
    refine lv_iload_n hx hb d_Msg_spellReplied_25 rfl (lv_at hl 1 rfl) ?_
    refine h_ci (G := G) (h_runSN (G := G) (G' := G) (I := fun Hz => Hz = H9) hx hb hml hown hts hE hW.2.2 (Nat.le_refl _) rfl (Nat.le_trans hbs hW.2.2.1) rfl (h_voteOf l G H9 (nI v)) km_10 kw_107 kw_104 kw_106 rfl rfl hd_PC_voteOf ⟨Nat.le_of_ble_eq_true rfl, Nat.le_of_ble_eq_true rfl⟩ (As := [.int (nI v)]) (rest := [.ref sa]) rfl hl.1 rfl (Nat.le_of_ble_eq_true rfl) d_Msg_spellReplied_26 ⟨Nat.le_of_ble_eq_true rfl, Nat.le_of_ble_eq_true rfl⟩) hW.2.2 (Nat.le_refl _) (fun r9 H9 locs hJ hz9 hk9 hS9 => ?_)
    obtain ⟨hr9, hH9⟩ := hJ
    have hr9 := hr9.symm; subst hr9
    have hH9 := hH9.symm; subst hH9
    have hW : WW G zs.heap [(sa, .inr (iSB, [.ref va, .int (0), .int (0), .int (nI (t ++ dgl (v / 2)).length)])), (va, aI (gC G 8) (m) (a))] H9 locs := ⟨hW.1, hW.2.1, hS9⟩
    refine lv_iconst (v := 1) hx hb d_Msg_spellReplied_29 (by decide) ?_
    refine lv_icmp_ne (tgt := 38) hx hb d_Msg_spellReplied_30 (by decide) (fun c_2 => ?_) (fun c_2 => ?_)
    · skip
      refine lv_bipush (v := 78) hx hb d_Msg_spellReplied_38 (by decide) ?_
      refine h_cr (G := G) (h_runV (C := R_SB) (G := G) (G' := G) (I := fun Hz => Hz = H9) hx hb hml hown hts hE hW.2.2 (Nat.le_refl _) rfl (Nat.le_trans hbs hW.2.2.1) rfl hW.1 0 rfl rfl (h_sbAppC l G H9 _ _ _ _ _ hL hf hnm hm (78) (by omega) (by first | omega | (rw [List.length_append]; omega)) hW.1 hW.2.1) kw_96 kw_97 (hts _ kw_98) kw_95 kw_94 rfl rfl hd_SB_append_C ⟨Nat.le_of_ble_eq_true rfl, Nat.le_of_ble_eq_true rfl⟩ (As := [.int (78)]) (rest := []) rfl hl.1 rfl (Nat.le_of_ble_eq_true rfl) d_Msg_spellReplied_40 ⟨Nat.le_of_ble_eq_true rfl, Nat.le_of_ble_eq_true rfl⟩) hW.2.2 (Nat.le_refl _) (fun r9 H9 locs hJ hz9 hk9 hS9 => ?_)
      obtain ⟨hr9, va, m, a, hJ1, hJ2, hL, hf, hnm, hm⟩ := hJ
      have hr9 := hr9.symm; subst hr9
      have hW : WW G zs.heap [(sa, .inr (iSB, [.ref va, .int (0), .int (0), .int (nI (t ++ dgl (v / 2) ++ [78]).length)])), (va, aI (gC G 8) (m) (a))] H9 locs := ⟨hJ1, hJ2, hS9⟩
      refine lv_pop hx hb d_Msg_spellReplied_43 rfl ?_
      exact h_vret hx hb hr hlk hW.2.2 (by show SBH G sa (t ++ rpl (nI v)) _; rw [e9, show vtl (votI (nI v)) = [78] by unfold vtl; rw [if_neg c_2], ← List.append_assoc]; exact ⟨va, m, a, hW.1, hW.2.1, hL, hf, hnm, hm⟩) (Nat.le_of_ble_eq_true rfl) (Nat.le_of_ble_eq_true rfl) d_Msg_spellReplied_44
    · skip
      refine lv_bipush (v := 89) hx hb d_Msg_spellReplied_33 (by decide) ?_
      refine lv_goto (tgt := 40) hx hb d_Msg_spellReplied_35 (by decide) ?_
      refine h_cr (G := G) (h_runV (C := R_SB) (G := G) (G' := G) (I := fun Hz => Hz = H9) hx hb hml hown hts hE hW.2.2 (Nat.le_refl _) rfl (Nat.le_trans hbs hW.2.2.1) rfl hW.1 0 rfl rfl (h_sbAppC l G H9 _ _ _ _ _ hL hf hnm hm (89) (by omega) (by first | omega | (rw [List.length_append]; omega)) hW.1 hW.2.1) kw_96 kw_97 (hts _ kw_98) kw_95 kw_94 rfl rfl hd_SB_append_C ⟨Nat.le_of_ble_eq_true rfl, Nat.le_of_ble_eq_true rfl⟩ (As := [.int (89)]) (rest := []) rfl hl.1 rfl (Nat.le_of_ble_eq_true rfl) d_Msg_spellReplied_40 ⟨Nat.le_of_ble_eq_true rfl, Nat.le_of_ble_eq_true rfl⟩) hW.2.2 (Nat.le_refl _) (fun r9 H9 locs hJ hz9 hk9 hS9 => ?_)
      obtain ⟨hr9, va, m, a, hJ1, hJ2, hL, hf, hnm, hm⟩ := hJ
      have hr9 := hr9.symm; subst hr9
      have hW : WW G zs.heap [(sa, .inr (iSB, [.ref va, .int (0), .int (0), .int (nI (t ++ dgl (v / 2) ++ [89]).length)])), (va, aI (gC G 8) (m) (a))] H9 locs := ⟨hJ1, hJ2, hS9⟩
      refine lv_pop hx hb d_Msg_spellReplied_43 rfl ?_
      exact h_vret hx hb hr hlk hW.2.2 (by show SBH G sa (t ++ rpl (nI v)) _; rw [e9, show vtl (votI (nI v)) = [89] by unfold vtl; rw [if_pos c_2], ← List.append_assoc]; exact ⟨va, m, a, hW.1, hW.2.1, hL, hf, hnm, hm⟩) (Nat.le_of_ble_eq_true rfl) (Nat.le_of_ble_eq_true rfl) d_Msg_spellReplied_44
  · skip
    rw [show rpl x = [45] by unfold rpl; rw [if_pos c_1]] at h34
    simp only [List.length_cons, List.length_nil] at h34
    refine lv_aload_n hx hb d_Msg_spellReplied_5 rfl (lv_at hl 0 rfl) ?_
    refine lv_bipush (v := 45) hx hb d_Msg_spellReplied_6 (by decide) ?_
    refine h_cr (G := G) (h_runV (C := R_SB) (G := G) (G' := G) (I := fun Hz => Hz = zs.heap) hx hb hml hown hts hE hW.2.2 (Nat.le_refl _) rfl (Nat.le_trans hbs hW.2.2.1) rfl hW.1 0 rfl rfl (h_sbAppC l G zs.heap _ _ _ _ _ hL hf hnm hm (45) (by omega) (by first | omega | (rw [List.length_append]; omega)) hW.1 hW.2.1) kw_96 kw_97 (hts _ kw_98) kw_95 kw_94 rfl rfl hd_SB_append_C ⟨Nat.le_of_ble_eq_true rfl, Nat.le_of_ble_eq_true rfl⟩ (As := [.int (45)]) (rest := []) rfl hl.1 rfl (Nat.le_of_ble_eq_true rfl) d_Msg_spellReplied_8 ⟨Nat.le_of_ble_eq_true rfl, Nat.le_of_ble_eq_true rfl⟩) hW.2.2 (Nat.le_refl _) (fun r9 H9 locs hJ hz9 hk9 hS9 => ?_)
    obtain ⟨hr9, va, m, a, hJ1, hJ2, hL, hf, hnm, hm⟩ := hJ
    have hr9 := hr9.symm; subst hr9
    have hW : WW G zs.heap [(sa, .inr (iSB, [.ref va, .int (0), .int (0), .int (nI (t ++ [45]).length)])), (va, aI (gC G 8) (m) (a))] H9 locs := ⟨hJ1, hJ2, hS9⟩
    refine lv_pop hx hb d_Msg_spellReplied_11 rfl ?_
    refine lv_goto (tgt := 44) hx hb d_Msg_spellReplied_12 (by decide) ?_
    exact h_vret hx hb hr hlk hW.2.2 (by show SBH G sa (t ++ rpl x) _; rw [show rpl x = [45] by unfold rpl; rw [if_pos c_1]]; exact ⟨va, m, a, hW.1, hW.2.1, hL, hf, hnm, hm⟩) (Nat.le_of_ble_eq_true rfl) (Nat.le_of_ble_eq_true rfl) d_Msg_spellReplied_44
set_option maxHeartbeats 4000000 in
set_option maxRecDepth 100000 in
theorem h_spell (l : Launch) (G : GT) (Hx : Heap) (sa ma ra k0 : Nat) (r q : Nat → Int32) (hk6 : k0 < 6) (hk0 : r 0 = nI k0) (hs1 : nmB 10 (r 1)) (hs2 : nmB 10 (r 2)) (hs3 : nmB 10 (r 3)) (hs4 : nmB 10 (r 4)) (hs5 : nmB 10000 (r 5)) (hq : r 0 = 2 → ∀ j, j < 3 → nmB 20000 (q j)) (hM : va_P G.1 gcl [(ma, .inr (iMsg, [.int (r 0), .int (r 1), .int (r 2), .int (r 3), .int (r 4), .int (r 5), .int (r 6), .ref ra])), (ra, aI (gC G 0) 3 q)] Hx) (hlo : ma < gbase G ∧ ra < gbase G) (hB : SBH G sa [] Hx) : Met l y_Msg_spell (.code y_Msg_spell b_Msg_spell 3 none :: WS) { frames := 7, cells := 18, slots := 612, locals := 157 } (hPre G [.ref ma, .ref sa] (fun H9 => H9 = Hx)) (hQv G (fun H9 => SBH G sa (txt r q) H9)) 18 612 (gAb G) := by
  refine h_startF (own := R_Msg) (by decide +kernel) rfl (Nat.le_of_ble_eq_true rfl) ?_
  intro p e zs zm below meth zc ls C hI hl
  subst hI
  obtain ⟨hx, hb, hr, hml, hown, hts, hlk, hE, hbs⟩ := C
  have hK := hE.1
  have hl : lv_has ls 3 [(0, .ref ma), (1, .ref sa)] := hl
  obtain ⟨locs, hlocs⟩ : ∃ l9 : List Loc, l9 = [] := ⟨_, rfl⟩
  rw [← hlocs]
  obtain ⟨va, m, a, hP, hD, hL, hf, hnm, hm⟩ := hB
  have hW : WW G zs.heap [(sa, .inr (iSB, [.ref va, .int (0), .int (0), .int (nI (([] : List Nat).length))])), (va, aI (gC G 8) (m) (a))] zs.heap locs := ⟨hP, hD, by rw [hlocs]; exact va_S.rf⟩
  obtain ⟨eC, eF, ⟨tO, eO, eO'⟩, ⟨tT, eT, eT'⟩, ⟨aK, aV, eL, eL'⟩, eA, eV, eM⟩ := hE.2.2.2.2.2.2.2.2.2
  have hMk : ∀ {H1 : Heap} {locs1 : List Loc}, va_S (gAb G) zs.heap H1 locs1 → va_P G.1 gcl [(ma, .inr (iMsg, [.int (r 0), .int (r 1), .int (r 2), .int (r 3), .int (r 4), .int (r 5), .int (r 6), .ref ra])), (ra, aI (gC G 0) 3 q)] H1 := fun hS => hM.kept (fun k x hk => hS.2.1 x.1 ((hM k x hk).lt) (lo2 hlo hk))
  refine lv_aload_n hx hb d_Msg_spell_0 rfl (lv_at hl 1 rfl) ?_
  refine va_ldcS hx hb hown eL' d_Msg_spell_1 ?_
  refine lv_aload_n hx hb d_Msg_spell_3 rfl (lv_at hl 0 rfl) ?_
  refine va_get (v := .int (r 0)) hx hb hts i_Msg hown hK (hMk hW.2.2) 0 rfl rfl 0 (by decide) (hts _ kw_108) (fun _ h => h) rfl d_Msg_spell_4 ?_
  refine e_top (v := nI k0) hk0 ?_
  refine h_ci (G := G) (h_runVL (G := G) (G' := G) hx hb hml hown hts hE eL hW.2.2 (Nat.le_refl _) rfl (Nat.le_trans hbs hW.2.2.1) (h_strChar l G zs.heap aK aV k0 hk6) kw_110 kw_112 kw_111 kw_70 kw_109 rfl rfl hd_String_charAt ⟨Nat.le_of_ble_eq_true rfl, Nat.le_of_ble_eq_true rfl⟩ (As := [.int (nI k0)]) (rest := [.ref sa]) rfl hl.1 rfl (Nat.le_of_ble_eq_true rfl) d_Msg_spell_7 ⟨Nat.le_of_ble_eq_true rfl, Nat.le_of_ble_eq_true rfl⟩) hW.2.2 (Nat.le_refl _) (fun r9 H9 locs hJ hz9 hk9 hS9 => ?_)
  obtain ⟨hr9, hH9⟩ := hJ
  have hr9 := hr9.symm; subst hr9
  have hH9 := hH9.symm; subst hH9
  have hW : WW G zs.heap [(sa, .inr (iSB, [.ref va, .int (0), .int (0), .int (nI (([] : List Nat).length))])), (va, aI (gC G 8) (m) (a))] zs.heap locs := ⟨hW.1, hW.2.1, hS9⟩
  refine h_cr (G := G) (h_runV (C := R_SB) (G := G) (G' := G) (I := fun Hz => Hz = zs.heap) hx hb hml hown hts hE hW.2.2 (Nat.le_refl _) rfl (Nat.le_trans hbs hW.2.2.1) rfl hW.1 0 rfl rfl (h_sbAppC l G zs.heap _ _ _ _ _ hL hf hnm hm (([80, 65, 82, 86, 84, 79] : List Nat).getD k0 0) (lt_lt k0 hk6) (by decide) hW.1 hW.2.1) kw_96 kw_97 (hts _ kw_98) kw_95 kw_94 rfl rfl hd_SB_append_C ⟨Nat.le_of_ble_eq_true rfl, Nat.le_of_ble_eq_true rfl⟩ (As := [.int (nI (([80, 65, 82, 86, 84, 79] : List Nat).getD k0 0))]) (rest := []) rfl hl.1 rfl (Nat.le_of_ble_eq_true rfl) d_Msg_spell_10 ⟨Nat.le_of_ble_eq_true rfl, Nat.le_of_ble_eq_true rfl⟩) hW.2.2 (Nat.le_refl _) (fun r9 H9 locs hJ hz9 hk9 hS9 => ?_)
  obtain ⟨hr9, va, m, a, hJ1, hJ2, hL, hf, hnm, hm⟩ := hJ
  have hr9 := hr9.symm; subst hr9
  have hW : WW G zs.heap [(sa, .inr (iSB, [.ref va, .int (0), .int (0), .int (nI (([] : List Nat) ++ [([80, 65, 82, 86, 84, 79] : List Nat).getD k0 0]).length)])), (va, aI (gC G 8) (m) (a))] H9 locs := ⟨hJ1, hJ2, hS9⟩
  refine lv_pop hx hb d_Msg_spell_13 rfl ?_
  refine lv_aload_n hx hb d_Msg_spell_14 rfl (lv_at hl 1 rfl) ?_
  refine lv_bipush (v := 116) hx hb d_Msg_spell_15 (by decide) ?_
  refine lv_aload_n hx hb d_Msg_spell_17 rfl (lv_at hl 0 rfl) ?_
  refine va_get (v := .int (r 1)) hx hb hts i_Msg hown hK (hMk hW.2.2) 0 rfl rfl 1 (by decide) (hts _ kw_113) (fun _ h => h) rfl d_Msg_spell_18 ?_
  have g_1 : (prt 116 (r 1)).length ≤ 2 := prt_len1 hs1
  refine h_cv (G := G) (h_runS (G := G) (G' := G) (I := fun Hz => Hz = H9) hx hb hml hown hts hE hW.2.2 (Nat.le_refl _) rfl (Nat.le_trans hbs hW.2.2.1) rfl (h_spellPart l G H9 _ _ 116 (r 1) (by decide) (nmB_mono hs1 (by decide)) (by simp only [List.length_append, List.length_cons, List.length_nil, vtl_len]; omega) ⟨va, m, a, hW.1, hW.2.1, hL, hf, hnm, hm⟩) kw_116 kw_117 kw_115 kw_114 rfl rfl hd_Msg_spellPart ⟨Nat.le_of_ble_eq_true rfl, Nat.le_of_ble_eq_true rfl⟩ (As := [.ref sa, .int (116), .int (r 1)]) (rest := []) rfl hl.1 rfl (Nat.le_of_ble_eq_true rfl) d_Msg_spell_21 ⟨Nat.le_of_ble_eq_true rfl, Nat.le_of_ble_eq_true rfl⟩) hW.2.2 (Nat.le_refl _) (fun H9 locs hJ hz9 hk9 hS9 => ?_)
  obtain ⟨va, m, a, hJ1, hJ2, hL, hf, hnm, hm⟩ := hJ
  have hW : WW G zs.heap [(sa, .inr (iSB, [.ref va, .int (0), .int (0), .int (nI (([] : List Nat) ++ [([80, 65, 82, 86, 84, 79] : List Nat).getD k0 0] ++ prt 116 (r 1)).length)])), (va, aI (gC G 8) (m) (a))] H9 locs := ⟨hJ1, hJ2, hS9⟩
  refine lv_aload_n hx hb d_Msg_spell_24 rfl (lv_at hl 1 rfl) ?_
  refine lv_bipush (v := 115) hx hb d_Msg_spell_25 (by decide) ?_
  refine lv_aload_n hx hb d_Msg_spell_27 rfl (lv_at hl 0 rfl) ?_
  refine va_get (v := .int (r 2)) hx hb hts i_Msg hown hK (hMk hW.2.2) 0 rfl rfl 2 (by decide) (hts _ kw_118) (fun _ h => h) rfl d_Msg_spell_28 ?_
  have g_2 : (prt 115 (r 2)).length ≤ 2 := prt_len1 hs2
  refine h_cv (G := G) (h_runS (G := G) (G' := G) (I := fun Hz => Hz = H9) hx hb hml hown hts hE hW.2.2 (Nat.le_refl _) rfl (Nat.le_trans hbs hW.2.2.1) rfl (h_spellPart l G H9 _ _ 115 (r 2) (by decide) (nmB_mono hs2 (by decide)) (by simp only [List.length_append, List.length_cons, List.length_nil, vtl_len]; omega) ⟨va, m, a, hW.1, hW.2.1, hL, hf, hnm, hm⟩) kw_116 kw_117 kw_115 kw_114 rfl rfl hd_Msg_spellPart ⟨Nat.le_of_ble_eq_true rfl, Nat.le_of_ble_eq_true rfl⟩ (As := [.ref sa, .int (115), .int (r 2)]) (rest := []) rfl hl.1 rfl (Nat.le_of_ble_eq_true rfl) d_Msg_spell_31 ⟨Nat.le_of_ble_eq_true rfl, Nat.le_of_ble_eq_true rfl⟩) hW.2.2 (Nat.le_refl _) (fun H9 locs hJ hz9 hk9 hS9 => ?_)
  obtain ⟨va, m, a, hJ1, hJ2, hL, hf, hnm, hm⟩ := hJ
  have hW : WW G zs.heap [(sa, .inr (iSB, [.ref va, .int (0), .int (0), .int (nI (([] : List Nat) ++ [([80, 65, 82, 86, 84, 79] : List Nat).getD k0 0] ++ prt 116 (r 1) ++ prt 115 (r 2)).length)])), (va, aI (gC G 8) (m) (a))] H9 locs := ⟨hJ1, hJ2, hS9⟩
  refine lv_aload_n hx hb d_Msg_spell_34 rfl (lv_at hl 1 rfl) ?_
  refine lv_bipush (v := 97) hx hb d_Msg_spell_35 (by decide) ?_
  refine lv_aload_n hx hb d_Msg_spell_37 rfl (lv_at hl 0 rfl) ?_
  refine va_get (v := .int (r 3)) hx hb hts i_Msg hown hK (hMk hW.2.2) 0 rfl rfl 3 (by decide) (hts _ kw_119) (fun _ h => h) rfl d_Msg_spell_38 ?_
  have g_3 : (prt 97 (r 3)).length ≤ 2 := prt_len1 hs3
  refine h_cv (G := G) (h_runS (G := G) (G' := G) (I := fun Hz => Hz = H9) hx hb hml hown hts hE hW.2.2 (Nat.le_refl _) rfl (Nat.le_trans hbs hW.2.2.1) rfl (h_spellPart l G H9 _ _ 97 (r 3) (by decide) (nmB_mono hs3 (by decide)) (by simp only [List.length_append, List.length_cons, List.length_nil, vtl_len]; omega) ⟨va, m, a, hW.1, hW.2.1, hL, hf, hnm, hm⟩) kw_116 kw_117 kw_115 kw_114 rfl rfl hd_Msg_spellPart ⟨Nat.le_of_ble_eq_true rfl, Nat.le_of_ble_eq_true rfl⟩ (As := [.ref sa, .int (97), .int (r 3)]) (rest := []) rfl hl.1 rfl (Nat.le_of_ble_eq_true rfl) d_Msg_spell_41 ⟨Nat.le_of_ble_eq_true rfl, Nat.le_of_ble_eq_true rfl⟩) hW.2.2 (Nat.le_refl _) (fun H9 locs hJ hz9 hk9 hS9 => ?_)
  obtain ⟨va, m, a, hJ1, hJ2, hL, hf, hnm, hm⟩ := hJ
  have hW : WW G zs.heap [(sa, .inr (iSB, [.ref va, .int (0), .int (0), .int (nI (([] : List Nat) ++ [([80, 65, 82, 86, 84, 79] : List Nat).getD k0 0] ++ prt 116 (r 1) ++ prt 115 (r 2) ++ prt 97 (r 3)).length)])), (va, aI (gC G 8) (m) (a))] H9 locs := ⟨hJ1, hJ2, hS9⟩
  refine lv_aload_n hx hb d_Msg_spell_44 rfl (lv_at hl 1 rfl) ?_
  refine lv_bipush (v := 108) hx hb d_Msg_spell_45 (by decide) ?_
  refine lv_aload_n hx hb d_Msg_spell_47 rfl (lv_at hl 0 rfl) ?_
  refine va_get (v := .int (r 4)) hx hb hts i_Msg hown hK (hMk hW.2.2) 0 rfl rfl 4 (by decide) (hts _ kw_120) (fun _ h => h) rfl d_Msg_spell_48 ?_
  have g_4 : (prt 108 (r 4)).length ≤ 2 := prt_len1 hs4
  refine h_cv (G := G) (h_runS (G := G) (G' := G) (I := fun Hz => Hz = H9) hx hb hml hown hts hE hW.2.2 (Nat.le_refl _) rfl (Nat.le_trans hbs hW.2.2.1) rfl (h_spellPart l G H9 _ _ 108 (r 4) (by decide) (nmB_mono hs4 (by decide)) (by simp only [List.length_append, List.length_cons, List.length_nil, vtl_len]; omega) ⟨va, m, a, hW.1, hW.2.1, hL, hf, hnm, hm⟩) kw_116 kw_117 kw_115 kw_114 rfl rfl hd_Msg_spellPart ⟨Nat.le_of_ble_eq_true rfl, Nat.le_of_ble_eq_true rfl⟩ (As := [.ref sa, .int (108), .int (r 4)]) (rest := []) rfl hl.1 rfl (Nat.le_of_ble_eq_true rfl) d_Msg_spell_51 ⟨Nat.le_of_ble_eq_true rfl, Nat.le_of_ble_eq_true rfl⟩) hW.2.2 (Nat.le_refl _) (fun H9 locs hJ hz9 hk9 hS9 => ?_)
  obtain ⟨va, m, a, hJ1, hJ2, hL, hf, hnm, hm⟩ := hJ
  have hW : WW G zs.heap [(sa, .inr (iSB, [.ref va, .int (0), .int (0), .int (nI (([] : List Nat) ++ [([80, 65, 82, 86, 84, 79] : List Nat).getD k0 0] ++ prt 116 (r 1) ++ prt 115 (r 2) ++ prt 97 (r 3) ++ prt 108 (r 4)).length)])), (va, aI (gC G 8) (m) (a))] H9 locs := ⟨hJ1, hJ2, hS9⟩
  refine lv_aload_n hx hb d_Msg_spell_54 rfl (lv_at hl 1 rfl) ?_
  refine lv_bipush (v := 98) hx hb d_Msg_spell_55 (by decide) ?_
  refine lv_aload_n hx hb d_Msg_spell_57 rfl (lv_at hl 0 rfl) ?_
  refine va_get (v := .int (r 5)) hx hb hts i_Msg hown hK (hMk hW.2.2) 0 rfl rfl 5 (by decide) (hts _ kw_121) (fun _ h => h) rfl d_Msg_spell_58 ?_
  have g_5 : (prt 98 (r 5)).length ≤ 5 := prt_len4
  refine h_cv (G := G) (h_runS (G := G) (G' := G) (I := fun Hz => Hz = H9) hx hb hml hown hts hE hW.2.2 (Nat.le_refl _) rfl (Nat.le_trans hbs hW.2.2.1) rfl (h_spellPart l G H9 _ _ 98 (r 5) (by decide) (nmB_mono hs5 (by decide)) (by simp only [List.length_append, List.length_cons, List.length_nil, vtl_len]; omega) ⟨va, m, a, hW.1, hW.2.1, hL, hf, hnm, hm⟩) kw_116 kw_117 kw_115 kw_114 rfl rfl hd_Msg_spellPart ⟨Nat.le_of_ble_eq_true rfl, Nat.le_of_ble_eq_true rfl⟩ (As := [.ref sa, .int (98), .int (r 5)]) (rest := []) rfl hl.1 rfl (Nat.le_of_ble_eq_true rfl) d_Msg_spell_61 ⟨Nat.le_of_ble_eq_true rfl, Nat.le_of_ble_eq_true rfl⟩) hW.2.2 (Nat.le_refl _) (fun H9 locs hJ hz9 hk9 hS9 => ?_)
  obtain ⟨va, m, a, hJ1, hJ2, hL, hf, hnm, hm⟩ := hJ
  have hW : WW G zs.heap [(sa, .inr (iSB, [.ref va, .int (0), .int (0), .int (nI (([] : List Nat) ++ [([80, 65, 82, 86, 84, 79] : List Nat).getD k0 0] ++ prt 116 (r 1) ++ prt 115 (r 2) ++ prt 97 (r 3) ++ prt 108 (r 4) ++ prt 98 (r 5)).length)])), (va, aI (gC G 8) (m) (a))] H9 locs := ⟨hJ1, hJ2, hS9⟩
  refine lv_aload_n hx hb d_Msg_spell_64 rfl (lv_at hl 0 rfl) ?_
  refine va_get (v := .int (r 6)) hx hb hts i_Msg hown hK (hMk hW.2.2) 0 rfl rfl 6 (by decide) (hts _ kw_122) (fun _ h => h) rfl d_Msg_spell_65 ?_
  refine lv_iconst (v := -1) hx hb d_Msg_spell_68 (by decide) ?_
  refine lv_icmp_eq (tgt := 92) hx hb d_Msg_spell_69 (by decide) (fun c_6 => ?_) (fun c_6 => ?_)
  · skip
    refine lv_aload_n hx hb d_Msg_spell_92 rfl (lv_at hl 0 rfl) ?_
    refine va_get (v := .int (r 0)) hx hb hts i_Msg hown hK (hMk hW.2.2) 0 rfl rfl 0 (by decide) (hts _ kw_108) (fun _ h => h) rfl d_Msg_spell_93 ?_
    refine lv_iconst (v := 2) hx hb d_Msg_spell_96 (by decide) ?_
    refine lv_icmp_ne (tgt := 123) hx hb d_Msg_spell_97 (by decide) (fun c_7 => ?_) (fun c_7 => ?_)
    · skip
      have e9 : txt r q = ([] : List Nat) ++ [([80, 65, 82, 86, 84, 79] : List Nat).getD k0 0] ++ prt 116 (r 1) ++ prt 115 (r 2) ++ prt 97 (r 3) ++ prt 108 (r 4) ++ prt 98 (r 5) := by
        unfold txt vtl; rw [if_pos c_6, if_neg c_7, hk0, nI_clamp (show k0 < 2 ^ 31 by omega)]; simp [LTR]
      exact h_vret hx hb hr hlk hW.2.2 (by show SBH G sa (txt r q) _; rw [e9]; exact ⟨va, m, a, hW.1, hW.2.1, hL, hf, hnm, hm⟩) (Nat.le_of_ble_eq_true rfl) (Nat.le_of_ble_eq_true rfl) d_Msg_spell_123
    · skip
      refine lv_iconst (v := 0) hx hb d_Msg_spell_100 (by decide) ?_
      refine lv_istore_n (lv' := [(2, .int (0)), (0, .ref ma), (1, .ref sa)]) hx hb d_Msg_spell_101 rfl hl (by decide) rfl (fun ls hl => ?_)
      refine lv_iload_n hx hb d_Msg_spell_102 rfl (lv_at hl 0 rfl) ?_
      refine lv_iconst (v := 3) hx hb d_Msg_spell_103 (by decide) ?_
      refine lv_icmp_ge (tgt := 123) hx hb d_Msg_spell_104 (by decide) (fun c_8 => ?_) (fun c_8 => ?_)
      · exact absurd c_8 (by decide)
      · skip
        refine lv_aload_n hx hb d_Msg_spell_107 rfl (lv_at hl 2 rfl) ?_
        refine lv_aload_n hx hb d_Msg_spell_108 rfl (lv_at hl 1 rfl) ?_
        refine va_get (v := .ref ra) hx hb hts i_Msg hown hK (hMk hW.2.2) 0 rfl rfl 7 (by decide) (hts _ kw_123) (fun _ h => h) rfl d_Msg_spell_109 ?_
        refine lv_iload_n hx hb d_Msg_spell_112 rfl (lv_at hl 0 rfl) ?_
        refine va_iald hx hb hK (hMk hW.2.2) 1 0 rfl rfl (vp_in_nI (show 0 < 3 by omega) (by decide)) d_Msg_spell_113 ?_
        refine e_top (v := q 0) (by first | rw [nI_clamp (show 0 < 2 ^ 31 by omega)] | exact congrArg _ (by decide)) ?_
        have g_9 : (rpl (q 0)).length ≤ 5 := rpl_len
        refine h_cv (G := G) (h_runS (G := G) (G' := G) (I := fun Hz => Hz = H9) hx hb hml hown hts hE hW.2.2 (Nat.le_refl _) rfl (Nat.le_trans hbs hW.2.2.1) rfl (h_spellReplied l G H9 _ _ (q 0) (hq c_7 0 (by decide)) (by simp only [List.length_append, List.length_cons, List.length_nil, vtl_len]; omega) ⟨va, m, a, hW.1, hW.2.1, hL, hf, hnm, hm⟩) kw_125 kw_126 kw_115 kw_124 rfl rfl hd_Msg_spellReplied ⟨Nat.le_of_ble_eq_true rfl, Nat.le_of_ble_eq_true rfl⟩ (As := [.ref sa, .int (q 0)]) (rest := []) rfl hl.1 rfl (Nat.le_of_ble_eq_true rfl) d_Msg_spell_114 ⟨Nat.le_of_ble_eq_true rfl, Nat.le_of_ble_eq_true rfl⟩) hW.2.2 (Nat.le_refl _) (fun H9 locs hJ hz9 hk9 hS9 => ?_)
        obtain ⟨va, m, a, hJ1, hJ2, hL, hf, hnm, hm⟩ := hJ
        have hW : WW G zs.heap [(sa, .inr (iSB, [.ref va, .int (0), .int (0), .int (nI (([] : List Nat) ++ [([80, 65, 82, 86, 84, 79] : List Nat).getD k0 0] ++ prt 116 (r 1) ++ prt 115 (r 2) ++ prt 97 (r 3) ++ prt 108 (r 4) ++ prt 98 (r 5) ++ rpl (q 0)).length)])), (va, aI (gC G 8) (m) (a))] H9 locs := ⟨hJ1, hJ2, hS9⟩
        refine lv_iinc (v := 1) (lv' := [(2, .int (1)), (0, .ref ma), (1, .ref sa)]) hx hb d_Msg_spell_117 hl (k := 0) rfl (by decide) (by decide) rfl (fun ls hl => ?_)
        refine lv_goto (tgt := 102) hx hb d_Msg_spell_120 (by decide) ?_
        refine lv_iload_n hx hb d_Msg_spell_102 rfl (lv_at hl 0 rfl) ?_
        refine lv_iconst (v := 3) hx hb d_Msg_spell_103 (by decide) ?_
        refine lv_icmp_ge (tgt := 123) hx hb d_Msg_spell_104 (by decide) (fun c_10 => ?_) (fun c_10 => ?_)
        · exact absurd c_10 (by decide)
        · skip
          refine lv_aload_n hx hb d_Msg_spell_107 rfl (lv_at hl 2 rfl) ?_
          refine lv_aload_n hx hb d_Msg_spell_108 rfl (lv_at hl 1 rfl) ?_
          refine va_get (v := .ref ra) hx hb hts i_Msg hown hK (hMk hW.2.2) 0 rfl rfl 7 (by decide) (hts _ kw_123) (fun _ h => h) rfl d_Msg_spell_109 ?_
          refine lv_iload_n hx hb d_Msg_spell_112 rfl (lv_at hl 0 rfl) ?_
          refine va_iald hx hb hK (hMk hW.2.2) 1 0 rfl rfl (vp_in_nI (show 1 < 3 by omega) (by decide)) d_Msg_spell_113 ?_
          refine e_top (v := q 1) (by first | rw [nI_clamp (show 1 < 2 ^ 31 by omega)] | exact congrArg _ (by decide)) ?_
          have g_11 : (rpl (q 1)).length ≤ 5 := rpl_len
          refine h_cv (G := G) (h_runS (G := G) (G' := G) (I := fun Hz => Hz = H9) hx hb hml hown hts hE hW.2.2 (Nat.le_refl _) rfl (Nat.le_trans hbs hW.2.2.1) rfl (h_spellReplied l G H9 _ _ (q 1) (hq c_7 1 (by decide)) (by simp only [List.length_append, List.length_cons, List.length_nil, vtl_len]; omega) ⟨va, m, a, hW.1, hW.2.1, hL, hf, hnm, hm⟩) kw_125 kw_126 kw_115 kw_124 rfl rfl hd_Msg_spellReplied ⟨Nat.le_of_ble_eq_true rfl, Nat.le_of_ble_eq_true rfl⟩ (As := [.ref sa, .int (q 1)]) (rest := []) rfl hl.1 rfl (Nat.le_of_ble_eq_true rfl) d_Msg_spell_114 ⟨Nat.le_of_ble_eq_true rfl, Nat.le_of_ble_eq_true rfl⟩) hW.2.2 (Nat.le_refl _) (fun H9 locs hJ hz9 hk9 hS9 => ?_)
          obtain ⟨va, m, a, hJ1, hJ2, hL, hf, hnm, hm⟩ := hJ
          have hW : WW G zs.heap [(sa, .inr (iSB, [.ref va, .int (0), .int (0), .int (nI (([] : List Nat) ++ [([80, 65, 82, 86, 84, 79] : List Nat).getD k0 0] ++ prt 116 (r 1) ++ prt 115 (r 2) ++ prt 97 (r 3) ++ prt 108 (r 4) ++ prt 98 (r 5) ++ rpl (q 0) ++ rpl (q 1)).length)])), (va, aI (gC G 8) (m) (a))] H9 locs := ⟨hJ1, hJ2, hS9⟩
          refine lv_iinc (v := 2) (lv' := [(2, .int (2)), (0, .ref ma), (1, .ref sa)]) hx hb d_Msg_spell_117 hl (k := 0) rfl (by decide) (by decide) rfl (fun ls hl => ?_)
          refine lv_goto (tgt := 102) hx hb d_Msg_spell_120 (by decide) ?_
          refine lv_iload_n hx hb d_Msg_spell_102 rfl (lv_at hl 0 rfl) ?_
          refine lv_iconst (v := 3) hx hb d_Msg_spell_103 (by decide) ?_
          refine lv_icmp_ge (tgt := 123) hx hb d_Msg_spell_104 (by decide) (fun c_12 => ?_) (fun c_12 => ?_)
          · exact absurd c_12 (by decide)
          · skip
            refine lv_aload_n hx hb d_Msg_spell_107 rfl (lv_at hl 2 rfl) ?_
            refine lv_aload_n hx hb d_Msg_spell_108 rfl (lv_at hl 1 rfl) ?_
            refine va_get (v := .ref ra) hx hb hts i_Msg hown hK (hMk hW.2.2) 0 rfl rfl 7 (by decide) (hts _ kw_123) (fun _ h => h) rfl d_Msg_spell_109 ?_
            refine lv_iload_n hx hb d_Msg_spell_112 rfl (lv_at hl 0 rfl) ?_
            refine va_iald hx hb hK (hMk hW.2.2) 1 0 rfl rfl (vp_in_nI (show 2 < 3 by omega) (by decide)) d_Msg_spell_113 ?_
            refine e_top (v := q 2) (by first | rw [nI_clamp (show 2 < 2 ^ 31 by omega)] | exact congrArg _ (by decide)) ?_
            have g_13 : (rpl (q 2)).length ≤ 5 := rpl_len
            refine h_cv (G := G) (h_runS (G := G) (G' := G) (I := fun Hz => Hz = H9) hx hb hml hown hts hE hW.2.2 (Nat.le_refl _) rfl (Nat.le_trans hbs hW.2.2.1) rfl (h_spellReplied l G H9 _ _ (q 2) (hq c_7 2 (by decide)) (by simp only [List.length_append, List.length_cons, List.length_nil, vtl_len]; omega) ⟨va, m, a, hW.1, hW.2.1, hL, hf, hnm, hm⟩) kw_125 kw_126 kw_115 kw_124 rfl rfl hd_Msg_spellReplied ⟨Nat.le_of_ble_eq_true rfl, Nat.le_of_ble_eq_true rfl⟩ (As := [.ref sa, .int (q 2)]) (rest := []) rfl hl.1 rfl (Nat.le_of_ble_eq_true rfl) d_Msg_spell_114 ⟨Nat.le_of_ble_eq_true rfl, Nat.le_of_ble_eq_true rfl⟩) hW.2.2 (Nat.le_refl _) (fun H9 locs hJ hz9 hk9 hS9 => ?_)
            obtain ⟨va, m, a, hJ1, hJ2, hL, hf, hnm, hm⟩ := hJ
            have hW : WW G zs.heap [(sa, .inr (iSB, [.ref va, .int (0), .int (0), .int (nI (([] : List Nat) ++ [([80, 65, 82, 86, 84, 79] : List Nat).getD k0 0] ++ prt 116 (r 1) ++ prt 115 (r 2) ++ prt 97 (r 3) ++ prt 108 (r 4) ++ prt 98 (r 5) ++ rpl (q 0) ++ rpl (q 1) ++ rpl (q 2)).length)])), (va, aI (gC G 8) (m) (a))] H9 locs := ⟨hJ1, hJ2, hS9⟩
            refine lv_iinc (v := 3) (lv' := [(2, .int (3)), (0, .ref ma), (1, .ref sa)]) hx hb d_Msg_spell_117 hl (k := 0) rfl (by decide) (by decide) rfl (fun ls hl => ?_)
            refine lv_goto (tgt := 102) hx hb d_Msg_spell_120 (by decide) ?_
            refine lv_iload_n hx hb d_Msg_spell_102 rfl (lv_at hl 0 rfl) ?_
            refine lv_iconst (v := 3) hx hb d_Msg_spell_103 (by decide) ?_
            refine lv_icmp_ge (tgt := 123) hx hb d_Msg_spell_104 (by decide) (fun c_14 => ?_) (fun c_14 => ?_)
            · skip
              have e9 : txt r q = ([] : List Nat) ++ [([80, 65, 82, 86, 84, 79] : List Nat).getD k0 0] ++ prt 116 (r 1) ++ prt 115 (r 2) ++ prt 97 (r 3) ++ prt 108 (r 4) ++ prt 98 (r 5) ++ rpl (q 0) ++ rpl (q 1) ++ rpl (q 2) := by
                unfold txt vtl; rw [if_pos c_6, if_pos c_7, hk0, nI_clamp (show k0 < 2 ^ 31 by omega)]; simp [LTR]
              exact h_vret hx hb hr hlk hW.2.2 (by show SBH G sa (txt r q) _; rw [e9]; exact ⟨va, m, a, hW.1, hW.2.1, hL, hf, hnm, hm⟩) (Nat.le_of_ble_eq_true rfl) (Nat.le_of_ble_eq_true rfl) d_Msg_spell_123
            · exact absurd c_14 (by decide)
  · skip
    refine lv_aload_n hx hb d_Msg_spell_72 rfl (lv_at hl 1 rfl) ?_
    refine lv_aload_n hx hb d_Msg_spell_73 rfl (lv_at hl 0 rfl) ?_
    refine va_get (v := .int (r 6)) hx hb hts i_Msg hown hK (hMk hW.2.2) 0 rfl rfl 6 (by decide) (hts _ kw_122) (fun _ h => h) rfl d_Msg_spell_74 ?_
    refine lv_iconst (v := 1) hx hb d_Msg_spell_77 (by decide) ?_
    refine lv_icmp_ne (tgt := 86) hx hb d_Msg_spell_78 (by decide) (fun c_15 => ?_) (fun c_15 => ?_)
    · skip
      refine lv_bipush (v := 78) hx hb d_Msg_spell_86 (by decide) ?_
      refine h_cr (G := G) (h_runV (C := R_SB) (G := G) (G' := G) (I := fun Hz => Hz = H9) hx hb hml hown hts hE hW.2.2 (Nat.le_refl _) rfl (Nat.le_trans hbs hW.2.2.1) rfl hW.1 0 rfl rfl (h_sbAppC l G H9 _ _ _ _ _ hL hf hnm hm 78 (by decide) (by simp only [List.length_append, List.length_cons, List.length_nil]; omega) hW.1 hW.2.1) kw_96 kw_97 (hts _ kw_98) kw_95 kw_94 rfl rfl hd_SB_append_C ⟨Nat.le_of_ble_eq_true rfl, Nat.le_of_ble_eq_true rfl⟩ (As := [.int (78)]) (rest := []) rfl hl.1 rfl (Nat.le_of_ble_eq_true rfl) d_Msg_spell_88 ⟨Nat.le_of_ble_eq_true rfl, Nat.le_of_ble_eq_true rfl⟩) hW.2.2 (Nat.le_refl _) (fun r9 H9 locs hJ hz9 hk9 hS9 => ?_)
      obtain ⟨hr9, va, m, a, hJ1, hJ2, hL, hf, hnm, hm⟩ := hJ
      have hr9 := hr9.symm; subst hr9
      have hW : WW G zs.heap [(sa, .inr (iSB, [.ref va, .int (0), .int (0), .int (nI (([] : List Nat) ++ [([80, 65, 82, 86, 84, 79] : List Nat).getD k0 0] ++ prt 116 (r 1) ++ prt 115 (r 2) ++ prt 97 (r 3) ++ prt 108 (r 4) ++ prt 98 (r 5) ++ [78]).length)])), (va, aI (gC G 8) (m) (a))] H9 locs := ⟨hJ1, hJ2, hS9⟩
      refine lv_pop hx hb d_Msg_spell_91 rfl ?_
      refine lv_aload_n hx hb d_Msg_spell_92 rfl (lv_at hl 0 rfl) ?_
      refine va_get (v := .int (r 0)) hx hb hts i_Msg hown hK (hMk hW.2.2) 0 rfl rfl 0 (by decide) (hts _ kw_108) (fun _ h => h) rfl d_Msg_spell_93 ?_
      refine lv_iconst (v := 2) hx hb d_Msg_spell_96 (by decide) ?_
      refine lv_icmp_ne (tgt := 123) hx hb d_Msg_spell_97 (by decide) (fun c_16 => ?_) (fun c_16 => ?_)
      · skip
        have e9 : txt r q = ([] : List Nat) ++ [([80, 65, 82, 86, 84, 79] : List Nat).getD k0 0] ++ prt 116 (r 1) ++ prt 115 (r 2) ++ prt 97 (r 3) ++ prt 108 (r 4) ++ prt 98 (r 5) ++ [78] := by
          unfold txt vtl; rw [if_neg c_6, if_neg c_15, if_neg c_16, hk0, nI_clamp (show k0 < 2 ^ 31 by omega)]; simp [LTR]
        exact h_vret hx hb hr hlk hW.2.2 (by show SBH G sa (txt r q) _; rw [e9]; exact ⟨va, m, a, hW.1, hW.2.1, hL, hf, hnm, hm⟩) (Nat.le_of_ble_eq_true rfl) (Nat.le_of_ble_eq_true rfl) d_Msg_spell_123
      · skip
        refine lv_iconst (v := 0) hx hb d_Msg_spell_100 (by decide) ?_
        refine lv_istore_n (lv' := [(2, .int (0)), (0, .ref ma), (1, .ref sa)]) hx hb d_Msg_spell_101 rfl hl (by decide) rfl (fun ls hl => ?_)
        refine lv_iload_n hx hb d_Msg_spell_102 rfl (lv_at hl 0 rfl) ?_
        refine lv_iconst (v := 3) hx hb d_Msg_spell_103 (by decide) ?_
        refine lv_icmp_ge (tgt := 123) hx hb d_Msg_spell_104 (by decide) (fun c_17 => ?_) (fun c_17 => ?_)
        · exact absurd c_17 (by decide)
        · skip
          refine lv_aload_n hx hb d_Msg_spell_107 rfl (lv_at hl 2 rfl) ?_
          refine lv_aload_n hx hb d_Msg_spell_108 rfl (lv_at hl 1 rfl) ?_
          refine va_get (v := .ref ra) hx hb hts i_Msg hown hK (hMk hW.2.2) 0 rfl rfl 7 (by decide) (hts _ kw_123) (fun _ h => h) rfl d_Msg_spell_109 ?_
          refine lv_iload_n hx hb d_Msg_spell_112 rfl (lv_at hl 0 rfl) ?_
          refine va_iald hx hb hK (hMk hW.2.2) 1 0 rfl rfl (vp_in_nI (show 0 < 3 by omega) (by decide)) d_Msg_spell_113 ?_
          refine e_top (v := q 0) (by first | rw [nI_clamp (show 0 < 2 ^ 31 by omega)] | exact congrArg _ (by decide)) ?_
          have g_18 : (rpl (q 0)).length ≤ 5 := rpl_len
          refine h_cv (G := G) (h_runS (G := G) (G' := G) (I := fun Hz => Hz = H9) hx hb hml hown hts hE hW.2.2 (Nat.le_refl _) rfl (Nat.le_trans hbs hW.2.2.1) rfl (h_spellReplied l G H9 _ _ (q 0) (hq c_16 0 (by decide)) (by simp only [List.length_append, List.length_cons, List.length_nil, vtl_len]; omega) ⟨va, m, a, hW.1, hW.2.1, hL, hf, hnm, hm⟩) kw_125 kw_126 kw_115 kw_124 rfl rfl hd_Msg_spellReplied ⟨Nat.le_of_ble_eq_true rfl, Nat.le_of_ble_eq_true rfl⟩ (As := [.ref sa, .int (q 0)]) (rest := []) rfl hl.1 rfl (Nat.le_of_ble_eq_true rfl) d_Msg_spell_114 ⟨Nat.le_of_ble_eq_true rfl, Nat.le_of_ble_eq_true rfl⟩) hW.2.2 (Nat.le_refl _) (fun H9 locs hJ hz9 hk9 hS9 => ?_)
          obtain ⟨va, m, a, hJ1, hJ2, hL, hf, hnm, hm⟩ := hJ
          have hW : WW G zs.heap [(sa, .inr (iSB, [.ref va, .int (0), .int (0), .int (nI (([] : List Nat) ++ [([80, 65, 82, 86, 84, 79] : List Nat).getD k0 0] ++ prt 116 (r 1) ++ prt 115 (r 2) ++ prt 97 (r 3) ++ prt 108 (r 4) ++ prt 98 (r 5) ++ [78] ++ rpl (q 0)).length)])), (va, aI (gC G 8) (m) (a))] H9 locs := ⟨hJ1, hJ2, hS9⟩
          refine lv_iinc (v := 1) (lv' := [(2, .int (1)), (0, .ref ma), (1, .ref sa)]) hx hb d_Msg_spell_117 hl (k := 0) rfl (by decide) (by decide) rfl (fun ls hl => ?_)
          refine lv_goto (tgt := 102) hx hb d_Msg_spell_120 (by decide) ?_
          refine lv_iload_n hx hb d_Msg_spell_102 rfl (lv_at hl 0 rfl) ?_
          refine lv_iconst (v := 3) hx hb d_Msg_spell_103 (by decide) ?_
          refine lv_icmp_ge (tgt := 123) hx hb d_Msg_spell_104 (by decide) (fun c_19 => ?_) (fun c_19 => ?_)
          · exact absurd c_19 (by decide)
          · skip
            refine lv_aload_n hx hb d_Msg_spell_107 rfl (lv_at hl 2 rfl) ?_
            refine lv_aload_n hx hb d_Msg_spell_108 rfl (lv_at hl 1 rfl) ?_
            refine va_get (v := .ref ra) hx hb hts i_Msg hown hK (hMk hW.2.2) 0 rfl rfl 7 (by decide) (hts _ kw_123) (fun _ h => h) rfl d_Msg_spell_109 ?_
            refine lv_iload_n hx hb d_Msg_spell_112 rfl (lv_at hl 0 rfl) ?_
            refine va_iald hx hb hK (hMk hW.2.2) 1 0 rfl rfl (vp_in_nI (show 1 < 3 by omega) (by decide)) d_Msg_spell_113 ?_
            refine e_top (v := q 1) (by first | rw [nI_clamp (show 1 < 2 ^ 31 by omega)] | exact congrArg _ (by decide)) ?_
            have g_20 : (rpl (q 1)).length ≤ 5 := rpl_len
            refine h_cv (G := G) (h_runS (G := G) (G' := G) (I := fun Hz => Hz = H9) hx hb hml hown hts hE hW.2.2 (Nat.le_refl _) rfl (Nat.le_trans hbs hW.2.2.1) rfl (h_spellReplied l G H9 _ _ (q 1) (hq c_16 1 (by decide)) (by simp only [List.length_append, List.length_cons, List.length_nil, vtl_len]; omega) ⟨va, m, a, hW.1, hW.2.1, hL, hf, hnm, hm⟩) kw_125 kw_126 kw_115 kw_124 rfl rfl hd_Msg_spellReplied ⟨Nat.le_of_ble_eq_true rfl, Nat.le_of_ble_eq_true rfl⟩ (As := [.ref sa, .int (q 1)]) (rest := []) rfl hl.1 rfl (Nat.le_of_ble_eq_true rfl) d_Msg_spell_114 ⟨Nat.le_of_ble_eq_true rfl, Nat.le_of_ble_eq_true rfl⟩) hW.2.2 (Nat.le_refl _) (fun H9 locs hJ hz9 hk9 hS9 => ?_)
            obtain ⟨va, m, a, hJ1, hJ2, hL, hf, hnm, hm⟩ := hJ
            have hW : WW G zs.heap [(sa, .inr (iSB, [.ref va, .int (0), .int (0), .int (nI (([] : List Nat) ++ [([80, 65, 82, 86, 84, 79] : List Nat).getD k0 0] ++ prt 116 (r 1) ++ prt 115 (r 2) ++ prt 97 (r 3) ++ prt 108 (r 4) ++ prt 98 (r 5) ++ [78] ++ rpl (q 0) ++ rpl (q 1)).length)])), (va, aI (gC G 8) (m) (a))] H9 locs := ⟨hJ1, hJ2, hS9⟩
            refine lv_iinc (v := 2) (lv' := [(2, .int (2)), (0, .ref ma), (1, .ref sa)]) hx hb d_Msg_spell_117 hl (k := 0) rfl (by decide) (by decide) rfl (fun ls hl => ?_)
            refine lv_goto (tgt := 102) hx hb d_Msg_spell_120 (by decide) ?_
            refine lv_iload_n hx hb d_Msg_spell_102 rfl (lv_at hl 0 rfl) ?_
            refine lv_iconst (v := 3) hx hb d_Msg_spell_103 (by decide) ?_
            refine lv_icmp_ge (tgt := 123) hx hb d_Msg_spell_104 (by decide) (fun c_21 => ?_) (fun c_21 => ?_)
            · exact absurd c_21 (by decide)
            · skip
              refine lv_aload_n hx hb d_Msg_spell_107 rfl (lv_at hl 2 rfl) ?_
              refine lv_aload_n hx hb d_Msg_spell_108 rfl (lv_at hl 1 rfl) ?_
              refine va_get (v := .ref ra) hx hb hts i_Msg hown hK (hMk hW.2.2) 0 rfl rfl 7 (by decide) (hts _ kw_123) (fun _ h => h) rfl d_Msg_spell_109 ?_
              refine lv_iload_n hx hb d_Msg_spell_112 rfl (lv_at hl 0 rfl) ?_
              refine va_iald hx hb hK (hMk hW.2.2) 1 0 rfl rfl (vp_in_nI (show 2 < 3 by omega) (by decide)) d_Msg_spell_113 ?_
              refine e_top (v := q 2) (by first | rw [nI_clamp (show 2 < 2 ^ 31 by omega)] | exact congrArg _ (by decide)) ?_
              have g_22 : (rpl (q 2)).length ≤ 5 := rpl_len
              refine h_cv (G := G) (h_runS (G := G) (G' := G) (I := fun Hz => Hz = H9) hx hb hml hown hts hE hW.2.2 (Nat.le_refl _) rfl (Nat.le_trans hbs hW.2.2.1) rfl (h_spellReplied l G H9 _ _ (q 2) (hq c_16 2 (by decide)) (by simp only [List.length_append, List.length_cons, List.length_nil, vtl_len]; omega) ⟨va, m, a, hW.1, hW.2.1, hL, hf, hnm, hm⟩) kw_125 kw_126 kw_115 kw_124 rfl rfl hd_Msg_spellReplied ⟨Nat.le_of_ble_eq_true rfl, Nat.le_of_ble_eq_true rfl⟩ (As := [.ref sa, .int (q 2)]) (rest := []) rfl hl.1 rfl (Nat.le_of_ble_eq_true rfl) d_Msg_spell_114 ⟨Nat.le_of_ble_eq_true rfl, Nat.le_of_ble_eq_true rfl⟩) hW.2.2 (Nat.le_refl _) (fun H9 locs hJ hz9 hk9 hS9 => ?_)
              obtain ⟨va, m, a, hJ1, hJ2, hL, hf, hnm, hm⟩ := hJ
              have hW : WW G zs.heap [(sa, .inr (iSB, [.ref va, .int (0), .int (0), .int (nI (([] : List Nat) ++ [([80, 65, 82, 86, 84, 79] : List Nat).getD k0 0] ++ prt 116 (r 1) ++ prt 115 (r 2) ++ prt 97 (r 3) ++ prt 108 (r 4) ++ prt 98 (r 5) ++ [78] ++ rpl (q 0) ++ rpl (q 1) ++ rpl (q 2)).length)])), (va, aI (gC G 8) (m) (a))] H9 locs := ⟨hJ1, hJ2, hS9⟩
              refine lv_iinc (v := 3) (lv' := [(2, .int (3)), (0, .ref ma), (1, .ref sa)]) hx hb d_Msg_spell_117 hl (k := 0) rfl (by decide) (by decide) rfl (fun ls hl => ?_)
              refine lv_goto (tgt := 102) hx hb d_Msg_spell_120 (by decide) ?_
              refine lv_iload_n hx hb d_Msg_spell_102 rfl (lv_at hl 0 rfl) ?_
              refine lv_iconst (v := 3) hx hb d_Msg_spell_103 (by decide) ?_
              refine lv_icmp_ge (tgt := 123) hx hb d_Msg_spell_104 (by decide) (fun c_23 => ?_) (fun c_23 => ?_)
              · skip
                have e9 : txt r q = ([] : List Nat) ++ [([80, 65, 82, 86, 84, 79] : List Nat).getD k0 0] ++ prt 116 (r 1) ++ prt 115 (r 2) ++ prt 97 (r 3) ++ prt 108 (r 4) ++ prt 98 (r 5) ++ [78] ++ rpl (q 0) ++ rpl (q 1) ++ rpl (q 2) := by
                  unfold txt vtl; rw [if_neg c_6, if_neg c_15, if_pos c_16, hk0, nI_clamp (show k0 < 2 ^ 31 by omega)]; simp [LTR]
                exact h_vret hx hb hr hlk hW.2.2 (by show SBH G sa (txt r q) _; rw [e9]; exact ⟨va, m, a, hW.1, hW.2.1, hL, hf, hnm, hm⟩) (Nat.le_of_ble_eq_true rfl) (Nat.le_of_ble_eq_true rfl) d_Msg_spell_123
              · exact absurd c_23 (by decide)
    · skip
      refine lv_bipush (v := 89) hx hb d_Msg_spell_81 (by decide) ?_
      refine lv_goto (tgt := 88) hx hb d_Msg_spell_83 (by decide) ?_
      refine h_cr (G := G) (h_runV (C := R_SB) (G := G) (G' := G) (I := fun Hz => Hz = H9) hx hb hml hown hts hE hW.2.2 (Nat.le_refl _) rfl (Nat.le_trans hbs hW.2.2.1) rfl hW.1 0 rfl rfl (h_sbAppC l G H9 _ _ _ _ _ hL hf hnm hm 89 (by decide) (by simp only [List.length_append, List.length_cons, List.length_nil]; omega) hW.1 hW.2.1) kw_96 kw_97 (hts _ kw_98) kw_95 kw_94 rfl rfl hd_SB_append_C ⟨Nat.le_of_ble_eq_true rfl, Nat.le_of_ble_eq_true rfl⟩ (As := [.int (89)]) (rest := []) rfl hl.1 rfl (Nat.le_of_ble_eq_true rfl) d_Msg_spell_88 ⟨Nat.le_of_ble_eq_true rfl, Nat.le_of_ble_eq_true rfl⟩) hW.2.2 (Nat.le_refl _) (fun r9 H9 locs hJ hz9 hk9 hS9 => ?_)
      obtain ⟨hr9, va, m, a, hJ1, hJ2, hL, hf, hnm, hm⟩ := hJ
      have hr9 := hr9.symm; subst hr9
      have hW : WW G zs.heap [(sa, .inr (iSB, [.ref va, .int (0), .int (0), .int (nI (([] : List Nat) ++ [([80, 65, 82, 86, 84, 79] : List Nat).getD k0 0] ++ prt 116 (r 1) ++ prt 115 (r 2) ++ prt 97 (r 3) ++ prt 108 (r 4) ++ prt 98 (r 5) ++ [89]).length)])), (va, aI (gC G 8) (m) (a))] H9 locs := ⟨hJ1, hJ2, hS9⟩
      refine lv_pop hx hb d_Msg_spell_91 rfl ?_
      refine lv_aload_n hx hb d_Msg_spell_92 rfl (lv_at hl 0 rfl) ?_
      refine va_get (v := .int (r 0)) hx hb hts i_Msg hown hK (hMk hW.2.2) 0 rfl rfl 0 (by decide) (hts _ kw_108) (fun _ h => h) rfl d_Msg_spell_93 ?_
      refine lv_iconst (v := 2) hx hb d_Msg_spell_96 (by decide) ?_
      refine lv_icmp_ne (tgt := 123) hx hb d_Msg_spell_97 (by decide) (fun c_24 => ?_) (fun c_24 => ?_)
      · skip
        have e9 : txt r q = ([] : List Nat) ++ [([80, 65, 82, 86, 84, 79] : List Nat).getD k0 0] ++ prt 116 (r 1) ++ prt 115 (r 2) ++ prt 97 (r 3) ++ prt 108 (r 4) ++ prt 98 (r 5) ++ [89] := by
          unfold txt vtl; rw [if_neg c_6, if_pos c_15, if_neg c_24, hk0, nI_clamp (show k0 < 2 ^ 31 by omega)]; simp [LTR]
        exact h_vret hx hb hr hlk hW.2.2 (by show SBH G sa (txt r q) _; rw [e9]; exact ⟨va, m, a, hW.1, hW.2.1, hL, hf, hnm, hm⟩) (Nat.le_of_ble_eq_true rfl) (Nat.le_of_ble_eq_true rfl) d_Msg_spell_123
      · skip
        refine lv_iconst (v := 0) hx hb d_Msg_spell_100 (by decide) ?_
        refine lv_istore_n (lv' := [(2, .int (0)), (0, .ref ma), (1, .ref sa)]) hx hb d_Msg_spell_101 rfl hl (by decide) rfl (fun ls hl => ?_)
        refine lv_iload_n hx hb d_Msg_spell_102 rfl (lv_at hl 0 rfl) ?_
        refine lv_iconst (v := 3) hx hb d_Msg_spell_103 (by decide) ?_
        refine lv_icmp_ge (tgt := 123) hx hb d_Msg_spell_104 (by decide) (fun c_25 => ?_) (fun c_25 => ?_)
        · exact absurd c_25 (by decide)
        · skip
          refine lv_aload_n hx hb d_Msg_spell_107 rfl (lv_at hl 2 rfl) ?_
          refine lv_aload_n hx hb d_Msg_spell_108 rfl (lv_at hl 1 rfl) ?_
          refine va_get (v := .ref ra) hx hb hts i_Msg hown hK (hMk hW.2.2) 0 rfl rfl 7 (by decide) (hts _ kw_123) (fun _ h => h) rfl d_Msg_spell_109 ?_
          refine lv_iload_n hx hb d_Msg_spell_112 rfl (lv_at hl 0 rfl) ?_
          refine va_iald hx hb hK (hMk hW.2.2) 1 0 rfl rfl (vp_in_nI (show 0 < 3 by omega) (by decide)) d_Msg_spell_113 ?_
          refine e_top (v := q 0) (by first | rw [nI_clamp (show 0 < 2 ^ 31 by omega)] | exact congrArg _ (by decide)) ?_
          have g_26 : (rpl (q 0)).length ≤ 5 := rpl_len
          refine h_cv (G := G) (h_runS (G := G) (G' := G) (I := fun Hz => Hz = H9) hx hb hml hown hts hE hW.2.2 (Nat.le_refl _) rfl (Nat.le_trans hbs hW.2.2.1) rfl (h_spellReplied l G H9 _ _ (q 0) (hq c_24 0 (by decide)) (by simp only [List.length_append, List.length_cons, List.length_nil, vtl_len]; omega) ⟨va, m, a, hW.1, hW.2.1, hL, hf, hnm, hm⟩) kw_125 kw_126 kw_115 kw_124 rfl rfl hd_Msg_spellReplied ⟨Nat.le_of_ble_eq_true rfl, Nat.le_of_ble_eq_true rfl⟩ (As := [.ref sa, .int (q 0)]) (rest := []) rfl hl.1 rfl (Nat.le_of_ble_eq_true rfl) d_Msg_spell_114 ⟨Nat.le_of_ble_eq_true rfl, Nat.le_of_ble_eq_true rfl⟩) hW.2.2 (Nat.le_refl _) (fun H9 locs hJ hz9 hk9 hS9 => ?_)
          obtain ⟨va, m, a, hJ1, hJ2, hL, hf, hnm, hm⟩ := hJ
          have hW : WW G zs.heap [(sa, .inr (iSB, [.ref va, .int (0), .int (0), .int (nI (([] : List Nat) ++ [([80, 65, 82, 86, 84, 79] : List Nat).getD k0 0] ++ prt 116 (r 1) ++ prt 115 (r 2) ++ prt 97 (r 3) ++ prt 108 (r 4) ++ prt 98 (r 5) ++ [89] ++ rpl (q 0)).length)])), (va, aI (gC G 8) (m) (a))] H9 locs := ⟨hJ1, hJ2, hS9⟩
          refine lv_iinc (v := 1) (lv' := [(2, .int (1)), (0, .ref ma), (1, .ref sa)]) hx hb d_Msg_spell_117 hl (k := 0) rfl (by decide) (by decide) rfl (fun ls hl => ?_)
          refine lv_goto (tgt := 102) hx hb d_Msg_spell_120 (by decide) ?_
          refine lv_iload_n hx hb d_Msg_spell_102 rfl (lv_at hl 0 rfl) ?_
          refine lv_iconst (v := 3) hx hb d_Msg_spell_103 (by decide) ?_
          refine lv_icmp_ge (tgt := 123) hx hb d_Msg_spell_104 (by decide) (fun c_27 => ?_) (fun c_27 => ?_)
          · exact absurd c_27 (by decide)
          · skip
            refine lv_aload_n hx hb d_Msg_spell_107 rfl (lv_at hl 2 rfl) ?_
            refine lv_aload_n hx hb d_Msg_spell_108 rfl (lv_at hl 1 rfl) ?_
            refine va_get (v := .ref ra) hx hb hts i_Msg hown hK (hMk hW.2.2) 0 rfl rfl 7 (by decide) (hts _ kw_123) (fun _ h => h) rfl d_Msg_spell_109 ?_
            refine lv_iload_n hx hb d_Msg_spell_112 rfl (lv_at hl 0 rfl) ?_
            refine va_iald hx hb hK (hMk hW.2.2) 1 0 rfl rfl (vp_in_nI (show 1 < 3 by omega) (by decide)) d_Msg_spell_113 ?_
            refine e_top (v := q 1) (by first | rw [nI_clamp (show 1 < 2 ^ 31 by omega)] | exact congrArg _ (by decide)) ?_
            have g_28 : (rpl (q 1)).length ≤ 5 := rpl_len
            refine h_cv (G := G) (h_runS (G := G) (G' := G) (I := fun Hz => Hz = H9) hx hb hml hown hts hE hW.2.2 (Nat.le_refl _) rfl (Nat.le_trans hbs hW.2.2.1) rfl (h_spellReplied l G H9 _ _ (q 1) (hq c_24 1 (by decide)) (by simp only [List.length_append, List.length_cons, List.length_nil, vtl_len]; omega) ⟨va, m, a, hW.1, hW.2.1, hL, hf, hnm, hm⟩) kw_125 kw_126 kw_115 kw_124 rfl rfl hd_Msg_spellReplied ⟨Nat.le_of_ble_eq_true rfl, Nat.le_of_ble_eq_true rfl⟩ (As := [.ref sa, .int (q 1)]) (rest := []) rfl hl.1 rfl (Nat.le_of_ble_eq_true rfl) d_Msg_spell_114 ⟨Nat.le_of_ble_eq_true rfl, Nat.le_of_ble_eq_true rfl⟩) hW.2.2 (Nat.le_refl _) (fun H9 locs hJ hz9 hk9 hS9 => ?_)
            obtain ⟨va, m, a, hJ1, hJ2, hL, hf, hnm, hm⟩ := hJ
            have hW : WW G zs.heap [(sa, .inr (iSB, [.ref va, .int (0), .int (0), .int (nI (([] : List Nat) ++ [([80, 65, 82, 86, 84, 79] : List Nat).getD k0 0] ++ prt 116 (r 1) ++ prt 115 (r 2) ++ prt 97 (r 3) ++ prt 108 (r 4) ++ prt 98 (r 5) ++ [89] ++ rpl (q 0) ++ rpl (q 1)).length)])), (va, aI (gC G 8) (m) (a))] H9 locs := ⟨hJ1, hJ2, hS9⟩
            refine lv_iinc (v := 2) (lv' := [(2, .int (2)), (0, .ref ma), (1, .ref sa)]) hx hb d_Msg_spell_117 hl (k := 0) rfl (by decide) (by decide) rfl (fun ls hl => ?_)
            refine lv_goto (tgt := 102) hx hb d_Msg_spell_120 (by decide) ?_
            refine lv_iload_n hx hb d_Msg_spell_102 rfl (lv_at hl 0 rfl) ?_
            refine lv_iconst (v := 3) hx hb d_Msg_spell_103 (by decide) ?_
            refine lv_icmp_ge (tgt := 123) hx hb d_Msg_spell_104 (by decide) (fun c_29 => ?_) (fun c_29 => ?_)
            · exact absurd c_29 (by decide)
            · skip
              refine lv_aload_n hx hb d_Msg_spell_107 rfl (lv_at hl 2 rfl) ?_
              refine lv_aload_n hx hb d_Msg_spell_108 rfl (lv_at hl 1 rfl) ?_
              refine va_get (v := .ref ra) hx hb hts i_Msg hown hK (hMk hW.2.2) 0 rfl rfl 7 (by decide) (hts _ kw_123) (fun _ h => h) rfl d_Msg_spell_109 ?_
              refine lv_iload_n hx hb d_Msg_spell_112 rfl (lv_at hl 0 rfl) ?_
              refine va_iald hx hb hK (hMk hW.2.2) 1 0 rfl rfl (vp_in_nI (show 2 < 3 by omega) (by decide)) d_Msg_spell_113 ?_
              refine e_top (v := q 2) (by first | rw [nI_clamp (show 2 < 2 ^ 31 by omega)] | exact congrArg _ (by decide)) ?_
              have g_30 : (rpl (q 2)).length ≤ 5 := rpl_len
              refine h_cv (G := G) (h_runS (G := G) (G' := G) (I := fun Hz => Hz = H9) hx hb hml hown hts hE hW.2.2 (Nat.le_refl _) rfl (Nat.le_trans hbs hW.2.2.1) rfl (h_spellReplied l G H9 _ _ (q 2) (hq c_24 2 (by decide)) (by simp only [List.length_append, List.length_cons, List.length_nil, vtl_len]; omega) ⟨va, m, a, hW.1, hW.2.1, hL, hf, hnm, hm⟩) kw_125 kw_126 kw_115 kw_124 rfl rfl hd_Msg_spellReplied ⟨Nat.le_of_ble_eq_true rfl, Nat.le_of_ble_eq_true rfl⟩ (As := [.ref sa, .int (q 2)]) (rest := []) rfl hl.1 rfl (Nat.le_of_ble_eq_true rfl) d_Msg_spell_114 ⟨Nat.le_of_ble_eq_true rfl, Nat.le_of_ble_eq_true rfl⟩) hW.2.2 (Nat.le_refl _) (fun H9 locs hJ hz9 hk9 hS9 => ?_)
              obtain ⟨va, m, a, hJ1, hJ2, hL, hf, hnm, hm⟩ := hJ
              have hW : WW G zs.heap [(sa, .inr (iSB, [.ref va, .int (0), .int (0), .int (nI (([] : List Nat) ++ [([80, 65, 82, 86, 84, 79] : List Nat).getD k0 0] ++ prt 116 (r 1) ++ prt 115 (r 2) ++ prt 97 (r 3) ++ prt 108 (r 4) ++ prt 98 (r 5) ++ [89] ++ rpl (q 0) ++ rpl (q 1) ++ rpl (q 2)).length)])), (va, aI (gC G 8) (m) (a))] H9 locs := ⟨hJ1, hJ2, hS9⟩
              refine lv_iinc (v := 3) (lv' := [(2, .int (3)), (0, .ref ma), (1, .ref sa)]) hx hb d_Msg_spell_117 hl (k := 0) rfl (by decide) (by decide) rfl (fun ls hl => ?_)
              refine lv_goto (tgt := 102) hx hb d_Msg_spell_120 (by decide) ?_
              refine lv_iload_n hx hb d_Msg_spell_102 rfl (lv_at hl 0 rfl) ?_
              refine lv_iconst (v := 3) hx hb d_Msg_spell_103 (by decide) ?_
              refine lv_icmp_ge (tgt := 123) hx hb d_Msg_spell_104 (by decide) (fun c_31 => ?_) (fun c_31 => ?_)
              · skip
                have e9 : txt r q = ([] : List Nat) ++ [([80, 65, 82, 86, 84, 79] : List Nat).getD k0 0] ++ prt 116 (r 1) ++ prt 115 (r 2) ++ prt 97 (r 3) ++ prt 108 (r 4) ++ prt 98 (r 5) ++ [89] ++ rpl (q 0) ++ rpl (q 1) ++ rpl (q 2) := by
                  unfold txt vtl; rw [if_neg c_6, if_pos c_15, if_pos c_24, hk0, nI_clamp (show k0 < 2 ^ 31 by omega)]; simp [LTR]
                exact h_vret hx hb hr hlk hW.2.2 (by show SBH G sa (txt r q) _; rw [e9]; exact ⟨va, m, a, hW.1, hW.2.1, hL, hf, hnm, hm⟩) (Nat.le_of_ble_eq_true rfl) (Nat.le_of_ble_eq_true rfl) d_Msg_spell_123
              · exact absurd c_31 (by decide)
