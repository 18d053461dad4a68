theorem kw_744 : .code y_Law_cell b_Law_cell 2 (some .int) ∈ WS := List.mem_filter.mpr ⟨List.mem_append_right _ (List.mem_of_getElem? (i := 212) (by decide +kernel)), by decide +kernel⟩
theorem kw_745 : .methodLink R_Law 71 y_Law_cell ∈ WS := List.mem_filter.mpr ⟨List.mem_append_right _ (List.mem_of_getElem? (i := 210) (by decide +kernel)), by decide +kernel⟩
theorem kw_746 : .static y_Law_cell ∈ WS := List.mem_filter.mpr ⟨List.mem_append_right _ (List.mem_of_getElem? (i := 211) (by decide +kernel)), by decide +kernel⟩
theorem kw_747 : .code y_PC_init b_PC_init 4 none ∈ WS := List.mem_filter.mpr ⟨List.mem_append_right _ (List.mem_of_getElem? (i := 31) (by decide +kernel)), by decide +kernel⟩
theorem kw_748 : .methodLink R_Law 77 y_PC_init ∈ WS := List.mem_filter.mpr ⟨List.mem_append_right _ (List.mem_of_getElem? (i := 29) (by decide +kernel)), by decide +kernel⟩
theorem kw_749 : .instanceMethod y_PC_init ∈ WS := List.mem_filter.mpr ⟨List.mem_append_right _ (List.mem_of_getElem? (i := 30) (by decide +kernel)), by decide +kernel⟩
theorem kw_750 : .code y_Mo_init b_Mo_init 3 none ∈ WS := List.mem_filter.mpr ⟨List.mem_append_right _ (List.mem_of_getElem? (i := 906) (by decide +kernel)), by decide +kernel⟩
theorem kw_751 : .methodLink R_Law 82 y_Mo_init ∈ WS := List.mem_filter.mpr ⟨List.mem_append_right _ (List.mem_of_getElem? (i := 904) (by decide +kernel)), by decide +kernel⟩
theorem kw_752 : .instanceMethod y_Mo_init ∈ WS := List.mem_filter.mpr ⟨List.mem_append_right _ (List.mem_of_getElem? (i := 905) (by decide +kernel)), by decide +kernel⟩
theorem kw_753 : .classLink R_Law 8 R_PC ∈ WS := List.mem_filter.mpr ⟨List.mem_append_right _ (List.mem_of_getElem? (i := 27) (by decide +kernel)), by decide +kernel⟩
theorem kw_754 : .instantiable R_PC 9 ∈ WS := List.mem_filter.mpr ⟨List.mem_append_right _ (List.mem_of_getElem? (i := 28) (by decide +kernel)), by decide +kernel⟩
theorem kw_755 : .classLink R_Law 80 R_Mo ∈ WS := List.mem_filter.mpr ⟨List.mem_append_right _ (List.mem_of_getElem? (i := 902) (by decide +kernel)), by decide +kernel⟩
theorem kw_756 : .instantiable R_Mo 27 ∈ WS := List.mem_filter.mpr ⟨List.mem_append_right _ (List.mem_of_getElem? (i := 903) (by decide +kernel)), by decide +kernel⟩
theorem kw_757 : .arrayClass .long ∈ WS := List.mem_filter.mpr ⟨List.mem_append_right _ (List.mem_of_getElem? (i := 1154) (by decide +kernel)), by decide +kernel⟩
theorem hd_Law_cell : y_Law_cell.cls ≠ "java/lang/invoke/MethodHandle" ∧ y_Law_cell.cls ≠ "java/lang/invoke/VarHandle" ∧ (parseMethodDescriptor y_Law_cell.desc).map (fun d => d.parameters.length) = some 2 := by decide +kernel
theorem hd_PC_init : y_PC_init.cls ≠ "java/lang/invoke/MethodHandle" ∧ y_PC_init.cls ≠ "java/lang/invoke/VarHandle" ∧ (parseMethodDescriptor y_PC_init.desc).map (fun d => d.parameters.length) = some 1 := by decide +kernel
theorem hd_Mo_init : y_Mo_init.cls ≠ "java/lang/invoke/MethodHandle" ∧ y_Mo_init.cls ≠ "java/lang/invoke/VarHandle" ∧ (parseMethodDescriptor y_Mo_init.desc).map (fun d => d.parameters.length) = some 1 := by decide +kernel
/-! From the law's entry to its loop. -/
theorem at_cgJ {D : va_G} {cl : List vw_C} {a n : Nat} {c : ClassId} {f g : Nat → Int64} {H : Heap} (h : ∀ j, j < n → f j = g j) (ha : va_at D cl (a, aJ c n f) H) : va_at D cl (a, aJ c n g) H := by
  have e : vp_cell c (n, .inr (.inl f)) = vp_cell c (n, .inr (.inl g)) := by
    rw [vp_cell_l, vp_cell_l]
    exact arrV_cg (fun j hj => by rw [h j hj])
  show H[a]? = some (vp_cell c (n, .inr (.inl g)))
  rw [← e]
  exact ha
theorem x_pre {G : GT} {s : State} {H : Heap} {locs : List Loc} {b L : Nat} {xs : Nat → Int32} {av : List Value} (hE : EnvP G s) (hS : va_S (gAb G) s.heap H locs) (hbs : gbase G ≤ s.heap.size) (hX : va_X b L xs s s.heap) (hbl : b < s.heap.size) (hbA : ¬ gAb G b) : ∀ U : State, U.heap = H → s.WarmedH U.vm → hPreX G av H b L xs av.toArray U := fun U hU hWm =>
  ⟨rfl, env_move hE hS hU hWm, by rw [hU]; exact Nat.le_trans hbs hS.1, hU, by rw [hU]; exact va_X.moved hWm.alike (hX.kept (hS.2.1 b hbl hbA)), by rw [hU]; exact Nat.lt_of_lt_of_le hbl hS.1, hbA⟩
theorem one_P {D : va_G} {cl : List vw_C} {x : Nat × va_E} {H : Heap} (h : va_at D cl x H) : va_P D cl [x] H := va_P_mem.mpr (fun q hq => by rw [List.mem_singleton.mp hq]; exact h)
theorem one_D {A : Nat → Prop} {x : Nat × va_E} (h : A x.1) : va_D A [x] := va_D_nd.mpr ⟨List.nodup_cons.mpr ⟨List.not_mem_nil, List.nodup_nil⟩, fun q hq => by rw [List.mem_singleton.mp hq]; exact h⟩
theorem D0_9_1 : ∀ j, j < 1 → (0 : Int64) = (D0 1 9 j).toInt64 := by decide +kernel
theorem D0_9_3 : ∀ j, j < 1 → (0 : Int64) = (D0 3 9 j).toInt64 := by decide +kernel
/-- the law's own row comes last -/
theorem WD_out {n σ z : Nat} {G G1 : GT} (hn : n = 1 ∨ n = 3) (hF : GF n σ 0 G) (hF1 : GF n σ z G1) (e1 : G1.1 = G.1) (e2 : G1.2.1 = G.2.1) (hz : z = σ + (262 + 51 * n)) {H0 H H5 : Heap} {locs locs5 : List Loc} {d : DD} (hd : ∀ j, j < 1 → (0 : Int64) = (d 9 j).toInt64) (hW : WD G H0 d H locs) (hk : ∀ q, q < H.size → H5[q]? = H[q]?) (ha : va_at G.1 gcl (z, aJ (gC G 2) 1 (fun _ => 0)) H5) (hS : va_S (gAb G) H0 H5 locs5) : WD G1 H0 d H5 locs5 := by
  have hgad : ∀ x, x ≠ 9 → gad G1 x = gad G x := fun x hx => by
    rw [GF_gad hF1, GF_gad hF]
    unfold gadF
    rw [if_neg hx, if_neg hx]
  have hgn : gn G1 = gn G := hF1.2.1.trans hF.2.1.symm
  refine WD_of hF1 hn (Or.inr (by omega)) (hS.sub (fun q h => ?_)) (fun c hc h0 => ?_)
  · show gbase G1 ≤ q
    rw [hF1.2.2.1, ← hF.2.2.1]
    exact h
  · by_cases h9 : c = 9
    · subst h9
      rw [show gad G1 9 = z from GF_gad hF1 9, e1]
      show va_at G.1 gcl (z, aJ (gC G1 2) 1 (fun j => (d 9 j).toInt64)) H5
      rw [show gC G1 2 = gC G 2 from congrFun e2 2]
      exact at_cgJ hd ha
    · have h8 : c < 900 := by unfold okc at hc; omega
      have := WD_at hW (c := c) (by rw [hF.2.1]; exact hc) h8 (by rw [← hgad c h9]; exact h0)
      rw [en_cg e2 hgn hgad, hgad c h9, e1]
      exact this.kept (hk _ this.lt)
set_option maxHeartbeats 4000000 in
set_option maxRecDepth 100000 in
theorem ws_1 {p : Program} {e : Env} {s : State} {m : MethodId} {below : List Frame} {meth : Method} {c : Code} {l : Launch} (hst : l.stackTraces = false) {b L : Nat} {xs : Nat → Int32} (hL : L ≤ 2561) (C0 : lw_At p s m meth c b L xs) {gv : va_G} {gc : Nat → ClassId} (hEE : ∀ (g : Nat → Nat) (n : Nat), EnvP (gv, gc, g, s.heap.size, n) s) {xf : Int32} (hxf : xf = (if 0 < L then xs 0 else 0)) (hf : xf = 0) {ls : Array Slot} (hl : lv_has ls 7 [(0, Value.ref b)]) : W p l e room_1 s m #[Value.ref b] below meth c s.heap [] 0 0 (lw_Z below #[Value.ref b] s) (F0 m 0 ls []) := by
  obtain ⟨hx, hb, hr, hml, hown, hts0, hX, hbl, hlk, hgv⟩ := id C0
  have hown : s.vm.findClass R_Law = some m.cls := hown
  have hts : ∀ w ∈ WS, w.before #[Value.ref b] s = true := fun w h => hts0 w (List.mem_filter.mp h).1
  obtain ⟨σ, hσ⟩ : ∃ σ : Nat, s.heap.size = σ := ⟨_, rfl⟩
  have hσ1 : 1 ≤ σ := by omega
  obtain ⟨G, hG0⟩ : ∃ G : GT, G = (gv, gc, gadF σ 1 0, σ, 1) := ⟨_, rfl⟩
  have hF : GF 1 σ 0 G := by subst hG0; exact ⟨rfl, rfl, rfl, hσ1⟩
  have hE : EnvP G s := by rw [hG0, ← hσ]; exact hEE _ _
  have hgb : gbase G = σ := hF.2.2.1
  have hbs : gbase G ≤ s.heap.size := by rw [hgb, hσ]; exact Nat.le_refl _
  have hbA : ¬ gAb G b := fun h => by have h : gbase G ≤ b := h; rw [hgb] at h; omega
  have hS : va_S (gAb G) s.heap s.heap [] := va_S.rf
  refine h_new (G := G) (fs := [.null, .null, .null, .int (0), .null, .null, .null, .null, .int (0)]) hx hb hts i_PC t_PC t_PC_ok hown kw_753 kw_754 kw_104 hE hS hbs (ci := iPC) rfl df_PC (Nat.le_of_ble_eq_true rfl) (Nat.le_of_ble_eq_true rfl) d_Law_law_0 (fun H ha9 hz9 hk9 hS9 => ?_)
  rw [hσ] at ha9 hz9 ⊢
  refine lv_dup hx hb d_Law_law_3 rfl ?_
  refine lv_aload_n hx hb d_Law_law_4 rfl (lv_at hl 0 rfl) ?_
  refine lv_iconst (v := 0) hx hb d_Law_law_5 (by decide) ?_
  refine h_ci (G := G) (G' := G) (va_runS ⟨hx, hb, hml, hown, hts⟩ (h_cell l G H b L xs hL) ⟨callB_of 2 hts (goodWS kw_744) rfl rfl rfl (hts _ kw_635) (hts _ kw_745) hd_Law_cell ⟨Nat.le_of_ble_eq_true rfl, Nat.le_of_ble_eq_true rfl⟩, hts _ kw_746⟩ ⟨hPreX_blind, x_pre (av := [.ref b, .int 0]) hE hS9 hbs hX hbl hbA⟩ rfl (n := 2) (As := [.ref b, .int 0]) (rest := [.ref σ, .ref σ]) rfl hl.1 rfl (lv_room (Nat.le_of_ble_eq_true rfl)) d_Law_law_6 ⟨Nat.le_of_ble_eq_true rfl, Nat.le_of_ble_eq_true rfl⟩) hS9 (Nat.le_refl _) (fun r H9 locs hJ _ _ hS1 => ?_)
  obtain ⟨hr9, hH9⟩ := hJ
  subst hH9
  rw [← hxf] at hr9
  rw [hr9]
  have hgs : gbase G ≤ Array.size H9 := by rw [hgb, hz9]; omega
  have hM := h_PCI1 l G H9 σ xf hf hz9 (one_P ha9) (one_D (show gbase G ≤ σ by rw [hgb]; exact Nat.le_refl _))
  refine h_cv (G := G) (h_runI (G := G) (G' := G) (I := fun Hz => Hz = H9) hx hb hml hown hts hE hS1 (Nat.le_refl _) rfl hgs rfl hM kw_748 kw_749 rfl kw_104 kw_747 rfl rfl hd_PC_init ⟨Nat.le_of_ble_eq_true rfl, Nat.le_of_ble_eq_true rfl⟩ (As := [.int xf]) (rest := [.ref σ]) rfl hl.1 rfl (Nat.le_of_ble_eq_true rfl) d_Law_law_9 ⟨Nat.le_of_ble_eq_true rfl, Nat.le_of_ble_eq_true rfl⟩) hS1 (Nat.le_refl _) (fun H2 locs2 hJ _ _ hS2 => ?_)
  obtain ⟨hP2, hD2, hz2⟩ := hJ
  have hW2 : WW G s.heap (wPCI1 G σ) H2 locs2 := ⟨hP2, ⟨hD2.1, fun k q hk => by show gbase G ≤ q.1; rw [hgb]; exact hD2.2 k q hk⟩, hS2⟩
  refine lv_astore_n (lv' := [(1, .ref σ), (0, .ref b)]) hx hb d_Law_law_12 rfl hl (by decide) rfl (fun ls hl => ?_)
  refine h_new (G := G) (fs := [.int (0), .int (0), .null, .null, .null, .null, .null, .int (0), .null, .null, .null, .null, .null, .null, .null, .null, .null, .null, .null, .null, .null, .null, .null, .null, .null, .int (0), .int (0)]) hx hb hts i_Mo t_Mo t_Mo_ok hown kw_755 kw_756 kw_412 hE hS2 hbs (ci := iMo) rfl df_Mo (Nat.le_of_ble_eq_true rfl) (Nat.le_of_ble_eq_true rfl) d_Law_law_13 (fun H ha9 hz9 hk9 hS9 => ?_)
  rw [hz2] at ha9 hz9 ⊢
  have hW3 := WW_perm List.perm_append_comm (WW_push2 hW2 hbs hz2 ha9 hk9 hS9)
  refine lv_dup hx hb d_Law_law_16 rfl ?_
  refine lv_aload_n hx hb d_Law_law_17 rfl (lv_at hl 1 rfl) ?_
  refine lv_iconst (v := 0) hx hb d_Law_law_18 (by decide) ?_
  refine h_ci (G := G) (G' := G) (va_runS ⟨hx, hb, hml, hown, hts⟩ (h_cell l G H b L xs hL) ⟨callB_of 2 hts (goodWS kw_744) rfl rfl rfl (hts _ kw_635) (hts _ kw_745) hd_Law_cell ⟨Nat.le_of_ble_eq_true rfl, Nat.le_of_ble_eq_true rfl⟩, hts _ kw_746⟩ ⟨hPreX_blind, x_pre (av := [.ref b, .int 0]) hE hS9 hbs hX hbl hbA⟩ rfl (n := 2) (As := [.ref b, .int 0]) (rest := [.ref (σ + 290), .ref (σ + 290)]) rfl hl.1 rfl (lv_room (Nat.le_of_ble_eq_true rfl)) d_Law_law_19 ⟨Nat.le_of_ble_eq_true rfl, Nat.le_of_ble_eq_true rfl⟩) hS9 (Nat.le_refl _) (fun r H9 locs hJ _ _ hS1 => ?_)
  obtain ⟨hr9, hH9⟩ := hJ
  subst hH9
  rw [← hxf] at hr9
  rw [hr9]
  have hgs : gbase G ≤ Array.size H9 := by rw [hgb, hz9]; omega
  have hM := h_MoI1 l G H9 (σ + 290) σ xf hf hF (wPCI1 G σ) (fun H1 h c hc h9 h6 => cv1 hF h hc h9 h6) rfl hz9 hW3.1 hW3.2.1
  refine h_cv (G := G) (h_runI (G := G) (G' := G) (I := fun Hz => Hz = H9) hx hb hml hown hts hE hS1 (Nat.le_refl _) rfl hgs rfl hM kw_751 kw_752 rfl kw_412 kw_750 rfl rfl hd_Mo_init ⟨Nat.le_of_ble_eq_true rfl, Nat.le_of_ble_eq_true rfl⟩ (As := [.int xf]) (rest := [.ref (σ + 290)]) rfl hl.1 rfl (Nat.le_of_ble_eq_true rfl) d_Law_law_22 ⟨Nat.le_of_ble_eq_true rfl, Nat.le_of_ble_eq_true rfl⟩) hS1 (Nat.le_refl _) (fun H4 locs4 hJ _ _ hS4 => ?_)
  obtain ⟨hP4, hD4, hz4⟩ := hJ
  have hW4 : WD G s.heap (D0 1) H4 locs4 := ⟨hP4, hD4, hS4⟩
  refine lv_astore_n (lv' := [(2, .ref (σ + 290)), (1, .ref σ), (0, .ref b)]) hx hb d_Law_law_25 rfl hl (by decide) rfl (fun ls hl => ?_)
  refine lv_iconst (v := 1) hx hb d_Law_law_26 (by decide) ?_
  refine h_newa (G := G) (atype := .long) (t0 := 2) (N' := 1) (a0 := (1, .inr (.inl (fun _ => 0)))) hx hb hts kw_757 (List.mem_of_getElem? (i := 2) rfl) hE hS4 (fun _ => by first | rfl | (rw [vp_cell_l]; rfl)) (by decide) (by decide) (by decide) (Nat.le_of_ble_eq_true rfl) (Nat.le_of_ble_eq_true rfl) d_Law_law_27 (fun H5 ha5 hz5 hk5 hS5 => ?_)
  rw [hz4] at ha5 hz5 ⊢
  obtain ⟨G1, hG1⟩ : ∃ G1 : GT, G1 = (gv, gc, gadF σ 1 (σ + 290 + 23), σ, 1) := ⟨_, rfl⟩
  have hF1 : GF 1 σ (σ + 290 + 23) G1 := by subst hG1; exact ⟨rfl, rfl, rfl, hσ1⟩
  have hE1 : EnvP G1 s := by rw [hG1, ← hσ]; exact hEE _ _
  have hW5 : WD G1 s.heap (D0 1) H5 locs4 := WD_out (by decide) hF hF1 (by rw [hG1, hG0]) (by rw [hG1, hG0]) (by omega) D0_9_1 hW4 hk5 ha5 hS5
  have hgb1 : gbase G1 = σ := hF1.2.2.1
  refine lv_astore_n (lv' := [(3, .ref (σ + 290 + 23)), (2, .ref (σ + 290)), (1, .ref σ), (0, .ref b)]) hx hb d_Law_law_29 rfl hl (by decide) rfl (fun ls hl => ?_)
  refine lv_iconst (v := 1) hx hb d_Law_law_30 (by decide) ?_
  refine lv_istore (lv' := [(4, .int 1), (3, .ref (σ + 290 + 23)), (2, .ref (σ + 290)), (1, .ref σ), (0, .ref b)]) hx hb d_Law_law_31 hl (by decide) rfl (fun ls hl => ?_)
  refine W.widen (show _ ≤ 1000 + 21 * 0 from Nat.le_of_ble_eq_true rfl) (show _ ≤ 30000 + 638 * 0 from Nat.le_of_ble_eq_true rfl) ?_
  have g9 : gad G1 9 = σ + 290 + 23 := GF_gad hF1 9
  have g600 : gad G1 600 = σ + 290 := GF_gad hF1 600
  have g0 : gad G1 0 = σ := GF_gad hF1 0
  have X : LX l G1 b L xs p s m meth c := ⟨hx, hb, hml, hown, hts, hE1, by rw [hgb1, hσ]; exact Nat.le_refl _, hX, hbl, fun h => by have h : gbase G1 ≤ b := h; rw [hgb1] at h; omega, GF_ok hF1 (by decide), by rw [g9]; omega, hst, hL⟩
  exact law_loop X hr hlk (by rw [hgb1, hσ]) 513 0 (by omega) (by omega) _ _ _ _ hW5 (by rw [hF1.2.1]; exact CR_ini1) (by unfold LV; rw [g9, g600, g0]; exact hl)
set_option maxHeartbeats 4000000 in
set_option maxRecDepth 100000 in
theorem ws_3 {p : Program} {e : Env} {s : State} {m : MethodId} {below : List Frame} {meth : Method} {c : Code} {l : Launch} (hst : l.stackTraces = false) {b L : Nat} {xs : Nat → Int32} (hL : L ≤ 2561) (C0 : lw_At p s m meth c b L xs) {gv : va_G} {gc : Nat → ClassId} (hEE : ∀ (g : Nat → Nat) (n : Nat), EnvP (gv, gc, g, s.heap.size, n) s) {xf : Int32} (hxf : xf = (if 0 < L then xs 0 else 0)) (hf : ¬ xf = 0) {ls : Array Slot} (hl : lv_has ls 7 [(0, Value.ref b)]) : W p l e room_1 s m #[Value.ref b] below meth c s.heap [] 0 0 (lw_Z below #[Value.ref b] s) (F0 m 0 ls []) := by
  obtain ⟨hx, hb, hr, hml, hown, hts0, hX, hbl, hlk, hgv⟩ := id C0
  have hown : s.vm.findClass R_Law = some m.cls := hown
  have hts : ∀ w ∈ WS, w.before #[Value.ref b] s = true := fun w h => hts0 w (List.mem_filter.mp h).1
  obtain ⟨σ, hσ⟩ : ∃ σ : Nat, s.heap.size = σ := ⟨_, rfl⟩
  have hσ1 : 1 ≤ σ := by omega
  obtain ⟨G, hG0⟩ : ∃ G : GT, G = (gv, gc, gadF σ 3 0, σ, 3) := ⟨_, rfl⟩
  have hF : GF 3 σ 0 G := by subst hG0; exact ⟨rfl, rfl, rfl, hσ1⟩
  have hE : EnvP G s := by rw [hG0, ← hσ]; exact hEE _ _
  have hgb : gbase G = σ := hF.2.2.1
  have hbs : gbase G ≤ s.heap.size := by rw [hgb, hσ]; exact Nat.le_refl _
  have hbA : ¬ gAb G b := fun h => by have h : gbase G ≤ b := h; rw [hgb] at h; omega
  have hS : va_S (gAb G) s.heap s.heap [] := va_S.rf
  refine h_new (G := G) (fs := [.null, .null, .null, .int (0), .null, .null, .null, .null, .int (0)]) hx hb hts i_PC t_PC t_PC_ok hown kw_753 kw_754 kw_104 hE hS hbs (ci := iPC) rfl df_PC (Nat.le_of_ble_eq_true rfl) (Nat.le_of_ble_eq_true rfl) d_Law_law_0 (fun H ha9 hz9 hk9 hS9 => ?_)
  rw [hσ] at ha9 hz9 ⊢
  refine lv_dup hx hb d_Law_law_3 rfl ?_
  refine lv_aload_n hx hb d_Law_law_4 rfl (lv_at hl 0 rfl) ?_
  refine lv_iconst (v := 0) hx hb d_Law_law_5 (by decide) ?_
  refine h_ci (G := G) (G' := G) (va_runS ⟨hx, hb, hml, hown, hts⟩ (h_cell l G H b L xs hL) ⟨callB_of 2 hts (goodWS kw_744) rfl rfl rfl (hts _ kw_635) (hts _ kw_745) hd_Law_cell ⟨Nat.le_of_ble_eq_true rfl, Nat.le_of_ble_eq_true rfl⟩, hts _ kw_746⟩ ⟨hPreX_blind, x_pre (av := [.ref b, .int 0]) hE hS9 hbs hX hbl hbA⟩ rfl (n := 2) (As := [.ref b, .int 0]) (rest := [.ref σ, .ref σ]) rfl hl.1 rfl (lv_room (Nat.le_of_ble_eq_true rfl)) d_Law_law_6 ⟨Nat.le_of_ble_eq_true rfl, Nat.le_of_ble_eq_true rfl⟩) hS9 (Nat.le_refl _) (fun r H9 locs hJ _ _ hS1 => ?_)
  obtain ⟨hr9, hH9⟩ := hJ
  subst hH9
  rw [← hxf] at hr9
  rw [hr9]
  have hgs : gbase G ≤ Array.size H9 := by rw [hgb, hz9]; omega
  have hM := h_PCI3 l G H9 σ xf hf hz9 (one_P ha9) (one_D (show gbase G ≤ σ by rw [hgb]; exact Nat.le_refl _))
  refine h_cv (G := G) (h_runI (G := G) (G' := G) (I := fun Hz => Hz = H9) hx hb hml hown hts hE hS1 (Nat.le_refl _) rfl hgs rfl hM kw_748 kw_749 rfl kw_104 kw_747 rfl rfl hd_PC_init ⟨Nat.le_of_ble_eq_true rfl, Nat.le_of_ble_eq_true rfl⟩ (As := [.int xf]) (rest := [.ref σ]) rfl hl.1 rfl (Nat.le_of_ble_eq_true rfl) d_Law_law_9 ⟨Nat.le_of_ble_eq_true rfl, Nat.le_of_ble_eq_true rfl⟩) hS1 (Nat.le_refl _) (fun H2 locs2 hJ _ _ hS2 => ?_)
  obtain ⟨hP2, hD2, hz2⟩ := hJ
  have hW2 : WW G s.heap (wPCI3 G σ) H2 locs2 := ⟨hP2, ⟨hD2.1, fun k q hk => by show gbase G ≤ q.1; rw [hgb]; exact hD2.2 k q hk⟩, hS2⟩
  refine lv_astore_n (lv' := [(1, .ref σ), (0, .ref b)]) hx hb d_Law_law_12 rfl hl (by decide) rfl (fun ls hl => ?_)
  refine h_new (G := G) (fs := [.int (0), .int (0), .null, .null, .null, .null, .null, .int (0), .null, .null, .null, .null, .null, .null, .null, .null, .null, .null, .null, .null, .null, .null, .null, .null, .null, .int (0), .int (0)]) hx hb hts i_Mo t_Mo t_Mo_ok hown kw_755 kw_756 kw_412 hE hS2 hbs (ci := iMo) rfl df_Mo (Nat.le_of_ble_eq_true rfl) (Nat.le_of_ble_eq_true rfl) d_Law_law_13 (fun H ha9 hz9 hk9 hS9 => ?_)
  rw [hz2] at ha9 hz9 ⊢
  have hW3 := WW_perm List.perm_append_comm (WW_push2 hW2 hbs hz2 ha9 hk9 hS9)
  refine lv_dup hx hb d_Law_law_16 rfl ?_
  refine lv_aload_n hx hb d_Law_law_17 rfl (lv_at hl 1 rfl) ?_
  refine lv_iconst (v := 0) hx hb d_Law_law_18 (by decide) ?_
  refine h_ci (G := G) (G' := G) (va_runS ⟨hx, hb, hml, hown, hts⟩ (h_cell l G H b L xs hL) ⟨callB_of 2 hts (goodWS kw_744) rfl rfl rfl (hts _ kw_635) (hts _ kw_745) hd_Law_cell ⟨Nat.le_of_ble_eq_true rfl, Nat.le_of_ble_eq_true rfl⟩, hts _ kw_746⟩ ⟨hPreX_blind, x_pre (av := [.ref b, .int 0]) hE hS9 hbs hX hbl hbA⟩ rfl (n := 2) (As := [.ref b, .int 0]) (rest := [.ref (σ + 392), .ref (σ + 392)]) rfl hl.1 rfl (lv_room (Nat.le_of_ble_eq_true rfl)) d_Law_law_19 ⟨Nat.le_of_ble_eq_true rfl, Nat.le_of_ble_eq_true rfl⟩) hS9 (Nat.le_refl _) (fun r H9 locs hJ _ _ hS1 => ?_)
  obtain ⟨hr9, hH9⟩ := hJ
  subst hH9
  rw [← hxf] at hr9
  rw [hr9]
  have hgs : gbase G ≤ Array.size H9 := by rw [hgb, hz9]; omega
  have hM := h_MoI3 l G H9 (σ + 392) σ xf hf hF (wPCI3 G σ) (fun H1 h c hc h9 h6 => cv3 hF h hc h9 h6) rfl hz9 hW3.1 hW3.2.1
  refine h_cv (G := G) (h_runI (G := G) (G' := G) (I := fun Hz => Hz = H9) hx hb hml hown hts hE hS1 (Nat.le_refl _) rfl hgs rfl hM kw_751 kw_752 rfl kw_412 kw_750 rfl rfl hd_Mo_init ⟨Nat.le_of_ble_eq_true rfl, Nat.le_of_ble_eq_true rfl⟩ (As := [.int xf]) (rest := [.ref (σ + 392)]) rfl hl.1 rfl (Nat.le_of_ble_eq_true rfl) d_Law_law_22 ⟨Nat.le_of_ble_eq_true rfl, Nat.le_of_ble_eq_true rfl⟩) hS1 (Nat.le_refl _) (fun H4 locs4 hJ _ _ hS4 => ?_)
  obtain ⟨hP4, hD4, hz4⟩ := hJ
  have hW4 : WD G s.heap (D0 3) H4 locs4 := ⟨hP4, hD4, hS4⟩
  refine lv_astore_n (lv' := [(2, .ref (σ + 392)), (1, .ref σ), (0, .ref b)]) hx hb d_Law_law_25 rfl hl (by decide) rfl (fun ls hl => ?_)
  refine lv_iconst (v := 1) hx hb d_Law_law_26 (by decide) ?_
  refine h_newa (G := G) (atype := .long) (t0 := 2) (N' := 1) (a0 := (1, .inr (.inl (fun _ => 0)))) hx hb hts kw_757 (List.mem_of_getElem? (i := 2) rfl) hE hS4 (fun _ => by first | rfl | (rw [vp_cell_l]; rfl)) (by decide) (by decide) (by decide) (Nat.le_of_ble_eq_true rfl) (Nat.le_of_ble_eq_true rfl) d_Law_law_27 (fun H5 ha5 hz5 hk5 hS5 => ?_)
  rw [hz4] at ha5 hz5 ⊢
  obtain ⟨G1, hG1⟩ : ∃ G1 : GT, G1 = (gv, gc, gadF σ 3 (σ + 392 + 23), σ, 3) := ⟨_, rfl⟩
  have hF1 : GF 3 σ (σ + 392 + 23) G1 := by subst hG1; exact ⟨rfl, rfl, rfl, hσ1⟩
  have hE1 : EnvP G1 s := by rw [hG1, ← hσ]; exact hEE _ _
  have hW5 : WD G1 s.heap (D0 3) H5 locs4 := WD_out (by decide) hF hF1 (by rw [hG1, hG0]) (by rw [hG1, hG0]) (by omega) D0_9_3 hW4 hk5 ha5 hS5
  have hgb1 : gbase G1 = σ := hF1.2.2.1
  refine lv_astore_n (lv' := [(3, .ref (σ + 392 + 23)), (2, .ref (σ + 392)), (1, .ref σ), (0, .ref b)]) hx hb d_Law_law_29 rfl hl (by decide) rfl (fun ls hl => ?_)
  refine lv_iconst (v := 1) hx hb d_Law_law_30 (by decide) ?_
  refine lv_istore (lv' := [(4, .int 1), (3, .ref (σ + 392 + 23)), (2, .ref (σ + 392)), (1, .ref σ), (0, .ref b)]) hx hb d_Law_law_31 hl (by decide) rfl (fun ls hl => ?_)
  refine W.widen (show _ ≤ 1000 + 21 * 0 from Nat.le_of_ble_eq_true rfl) (show _ ≤ 30000 + 638 * 0 from Nat.le_of_ble_eq_true rfl) ?_
  have g9 : gad G1 9 = σ + 392 + 23 := GF_gad hF1 9
  have g600 : gad G1 600 = σ + 392 := GF_gad hF1 600
  have g0 : gad G1 0 = σ := GF_gad hF1 0
  have X : LX l G1 b L xs p s m meth c := ⟨hx, hb, hml, hown, hts, hE1, by rw [hgb1, hσ]; exact Nat.le_refl _, hX, hbl, fun h => by have h : gbase G1 ≤ b := h; rw [hgb1] at h; omega, GF_ok hF1 (by decide), by rw [g9]; omega, hst, hL⟩
  exact law_loop X hr hlk (by rw [hgb1, hσ]) 513 0 (by omega) (by omega) _ _ _ _ hW5 (by rw [hF1.2.1]; exact CR_ini3) (by unfold LV; rw [g9, g600, g0]; exact hl)
/-- from the entry, for every script of at most 2561 ints, the law comes to its end with true -/
theorem whole_start {p : Program} {e : Env} {s : State} {m : MethodId} {below : List Frame} {meth : Method} {c : Code} (l : Launch) (hst : l.stackTraces = false) {b L : Nat} {xs : Nat → Int32} (hL : L ≤ 2561) (C0 : lw_At p s m meth c b L xs) : W p l e room_1 s m #[Value.ref b] below meth c s.heap [] 0 0 (lw_Z below #[Value.ref b] s) (entryFrame m ([Value.ref b] : List Value).toArray 7) := by
  obtain ⟨gv, gc, hEE⟩ := env_start C0
  rw [lg_entry_eq]
  by_cases hf : (if 0 < L then xs 0 else 0) = 0
  · exact ws_1 hst hL C0 hEE rfl hf (lv_entry [Value.ref b] (Nat.le_of_ble_eq_true rfl))
  · exact ws_3 hst hL C0 hEE rfl hf (lv_entry [Value.ref b] (Nat.le_of_ble_eq_true rfl))
