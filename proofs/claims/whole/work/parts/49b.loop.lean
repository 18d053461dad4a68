/-! The law's loop. -/
/-- the script, at a callee's entry -/
def hPreX (G : GT) (av : List Value) (Hx : Heap) (b L : Nat) (xs : Nat → Int32) : Array Value → State → Prop := va_Pc av (fun U => EnvP G U ∧ gbase G ≤ U.heap.size ∧ U.heap = Hx ∧ va_X b L xs U U.heap ∧ b < U.heap.size ∧ ¬ gAb G b)
theorem hPreX_blind {G : GT} {av : List Value} {Hx : Heap} {b L : Nat} {xs : Nat → Int32} : FrameBlind (hPreX G av Hx b L xs) := fun g mk a U h => ⟨h.1, env_calling h.2.1, h.2.2.1, h.2.2.2.1, va_X.moved (Vm.Alike.refl _) h.2.2.2.2.1, h.2.2.2.2.2⟩
set_option maxHeartbeats 4000000 in
set_option maxRecDepth 100000 in
theorem law_loop {p : Program} {l : Launch} {e : Env} {s : State} {m : MethodId} {below : List Frame} {meth : Method} {c : Code} {G : GT} {b L : Nat} {xs : Nat → Int32} (X : LX l G b L xs p s m meth c) (hr : meth.sig.returnType = ret) (hlk : meth.locks = false) (hg : gbase G = s.heap.size) :
    ∀ (N t : Nat), t ≤ 512 → 513 ≤ t + N → ∀ (H : Heap) (locs : List Loc) (ls : Array Slot) (D : DD), WD G s.heap D H locs → CR (gn G) (2 * t) D D → lv_has ls 7 (LV G b (1 + 5 * t)) → W p l e room_1 s m #[Value.ref b] below meth c H locs (1000 + 21 * t) (30000 + 638 * t) (lw_Z below #[Value.ref b] s) (F0 m 33 ls []) := by
  obtain ⟨hx, hb, hml, hown, hts, hE, hbs, hX, hbl, hbA, hG, h9, hst, hL⟩ := id X
  have hK := hE.1
  intro N
  induction N with
  | zero => intro t h1 h2; omega
  | succ N ih =>
    intro t ht hN H locs ls D hW hCR hl
    refine lv_iload hx hb d_Law_law_33 (lv_at hl 0 rfl) ?_
    refine lv_aload_n hx hb d_Law_law_35 rfl (lv_at hl 4 rfl) ?_
    refine va_slen hx hb hX hbl hbA hW.2.2 d_Law_law_36 ?_
    refine lv_iconst (v := 5) hx hb d_Law_law_37 (by decide) ?_
    refine lv_isub hx hb d_Law_law_38 ?_
    refine lv_icmp_gt (tgt := 1205) hx hb d_Law_law_39 (by decide) (fun c1 => ?_) (fun c1 => ?_)
    · refine lv_iconst (v := 1) hx hb d_Law_law_1205 (by decide) ?_
      refine W.widen (show 1000 + 21 * t ≤ 601024 by omega) (show 30000 + 638 * t ≤ 7293000 by omega) ?_
      refine va_forget (fun q hq => by have := hW.2.2.2.2 q hq; rw [← hg]; exact this) ?_
      exact lw_ret hx hb hr hlk d_Law_law_1206
    · have hi : 1 + 5 * t + 5 ≤ L := sc_in (by omega) (by omega) c1
      have K : ∀ (H : Heap) (locs : List Loc) (ls : Array Slot) (D : DD), WD G s.heap D H locs → CR (gn G) (2 * t + 2) D D → lv_has ls 7 (LV G b (1 + 5 * t)) → W p l e room_1 s m #[Value.ref b] below meth c H locs (1000 + 21 * t + 21) (30000 + 638 * t + 638) (lw_Z below #[Value.ref b] s) (F0 m 1199 ls []) := by
        intro H locs ls D hW hCR hl
        refine lv_iinc (v := nI (1 + 5 * (t + 1))) (lv' := LV G b (1 + 5 * (t + 1))) hx hb d_Law_law_1199 hl (k := 0) rfl (show nI (1 + 5 * t) + 5 = nI (1 + 5 * (t + 1)) from (nI_add _ 5).trans (congrArg nI (by omega))) (by decide) rfl (fun ls hl => ?_)
        refine lv_goto (tgt := 33) hx hb d_Law_law_1202 (by decide) ?_
        refine W_n (c1 := 1000 + 21 * (t + 1)) (s1 := 30000 + 638 * (t + 1)) (by omega) (by omega) ?_
        exact ih (t + 1) (by omega) (by omega) _ _ _ _ hW (by rw [show 2 * (t + 1) = 2 * t + 2 by omega]; exact hCR) hl
      refine lv_aload_n hx hb d_Law_law_42 rfl (lv_at hl 4 rfl) ?_
      refine lv_iload hx hb d_Law_law_43 (lv_at hl 0 rfl) ?_
      refine va_sld hx hb hX hbl hbA hW.2.2 (vp_in_nI (n := 1 + 5 * t) (by omega) (by omega)) d_Law_law_45 ?_
      refine lv_bipush (v := 15) hx hb d_Law_law_46 (by decide) ?_
      refine lv_iand hx hb d_Law_law_48 ?_
      refine lv_topi (fun y ey => ?_)
      by_cases c_0 : y = 0
      · refine lv_tableIn (off := 75) (tgt := 124) hx hb d_Law_law_49 (by rw [c_0]; decide) (by rw [c_0]; decide) (by rw [c_0]; decide) (by decide) ?_
        exact lc_begin X hW hCR (by omega) hi hl (by omega) (by omega) K
      by_cases c_1 : y = 1
      · refine lv_tableIn (off := 119) (tgt := 168) hx hb d_Law_law_49 (by rw [c_1]; decide) (by rw [c_1]; decide) (by rw [c_1]; decide) (by decide) ?_
        exact lc_write X hW hCR (by omega) hi hl (by omega) (by omega) K
      by_cases c_2 : y = 2
      · refine lv_tableIn (off := 211) (tgt := 260) hx hb d_Law_law_49 (by rw [c_2]; decide) (by rw [c_2]; decide) (by rw [c_2]; decide) (by decide) ?_
        exact lc_request X hW hCR (by omega) hi hl (by omega) (by omega) K
      by_cases c_3 : y = 3
      · refine lv_tableIn (off := 267) (tgt := 316) hx hb d_Law_law_49 (by rw [c_3]; decide) (by rw [c_3]; decide) (by rw [c_3]; decide) (by decide) ?_
        exact lc_refuse X hW hCR (by omega) hi hl (by omega) (by omega) K
      by_cases c_4 : y = 4
      · refine lv_tableIn (off := 335) (tgt := 384) hx hb d_Law_law_49 (by rw [c_4]; decide) (by rw [c_4]; decide) (by rw [c_4]; decide) (by decide) ?_
        exact lc_take X hW hCR (by omega) hi hl (by omega) (by omega) K
      by_cases c_5 : y = 5
      · refine lv_tableIn (off := 403) (tgt := 452) hx hb d_Law_law_49 (by rw [c_5]; decide) (by rw [c_5]; decide) (by rw [c_5]; decide) (by decide) ?_
        exact lc_deliver X hW hCR (by omega) hi hl (by omega) (by omega) K
      by_cases c_6 : y = 6
      · refine lv_tableIn (off := 487) (tgt := 536) hx hb d_Law_law_49 (by rw [c_6]; decide) (by rw [c_6]; decide) (by rw [c_6]; decide) (by decide) ?_
        exact lc_lose X hW hCR (by omega) hi hl (by omega) (by omega) K
      by_cases c_7 : y = 7
      · refine lv_tableIn (off := 543) (tgt := 592) hx hb d_Law_law_49 (by rw [c_7]; decide) (by rw [c_7]; decide) (by rw [c_7]; decide) (by decide) ?_
        exact lc_up X hW hCR (by omega) hi hl (by omega) (by omega) K
      by_cases c_8 : y = 8
      · refine lv_tableIn (off := 646) (tgt := 695) hx hb d_Law_law_49 (by rw [c_8]; decide) (by rw [c_8]; decide) (by rw [c_8]; decide) (by decide) ?_
        exact lc_text X hW hCR (by omega) hi hl (by omega) (by omega) K
      by_cases c_9 : y = 9
      · refine lv_tableIn (off := 714) (tgt := 763) hx hb d_Law_law_49 (by rw [c_9]; decide) (by rw [c_9]; decide) (by rw [c_9]; decide) (by decide) ?_
        exact lc_value X hW hCR (by omega) hi hl (by omega) (by omega) K
      by_cases c_10 : y = 10
      · refine lv_tableIn (off := 782) (tgt := 831) hx hb d_Law_law_49 (by rw [c_10]; decide) (by rw [c_10]; decide) (by rw [c_10]; decide) (by decide) ?_
        exact lc_lock X hW hCR (by omega) hi hl (by omega) (by omega) K
      by_cases c_11 : y = 11
      · refine lv_tableIn (off := 850) (tgt := 899) hx hb d_Law_law_49 (by rw [c_11]; decide) (by rw [c_11]; decide) (by rw [c_11]; decide) (by decide) ?_
        exact lc_state X hW hCR (by omega) hi hl (by omega) (by omega) K
      by_cases c_12 : y = 12
      · refine lv_tableIn (off := 918) (tgt := 967) hx hb d_Law_law_49 (by rw [c_12]; decide) (by rw [c_12]; decide) (by rw [c_12]; decide) (by decide) ?_
        exact lc_outcome X hW hCR (by omega) hi hl (by omega) (by omega) K
      by_cases c_13 : y = 13
      · refine lv_tableIn (off := 986) (tgt := 1035) hx hb d_Law_law_49 (by rw [c_13]; decide) (by rw [c_13]; decide) (by rw [c_13]; decide) (by decide) ?_
        exact lc_taken X hW hCR (by omega) hi hl (by omega) (by omega) K
      by_cases c_14 : y = 14
      · refine lv_tableIn (off := 1094) (tgt := 1143) hx hb d_Law_law_49 (by rw [c_14]; decide) (by rw [c_14]; decide) (by rw [c_14]; decide) (by decide) ?_
        exact lc_count X hW hCR (by omega) hi hl (by omega) (by omega) K
      refine lv_tableOut (tgt := 1199) hx hb d_Law_law_49 (by have q0 := lv_neT c_0 (a := 0) (by decide); have q1 := lv_neT c_1 (a := 1) (by decide); have q2 := lv_neT c_2 (a := 2) (by decide); have q3 := lv_neT c_3 (a := 3) (by decide); have q4 := lv_neT c_4 (a := 4) (by decide); have q5 := lv_neT c_5 (a := 5) (by decide); have q6 := lv_neT c_6 (a := 6) (by decide); have q7 := lv_neT c_7 (a := 7) (by decide); have q8 := lv_neT c_8 (a := 8) (by decide); have q9 := lv_neT c_9 (a := 9) (by decide); have q10 := lv_neT c_10 (a := 10) (by decide); have q11 := lv_neT c_11 (a := 11) (by decide); have q12 := lv_neT c_12 (a := 12) (by decide); have q13 := lv_neT c_13 (a := 13) (by decide); have q14 := lv_neT c_14 (a := 14) (by decide); omega) (by decide) ?_
      refine W.widen (show 1000 + 21 * t ≤ 1000 + 21 * t + 21 by omega) (show 30000 + 638 * t ≤ 30000 + 638 * t + 638 by omega) ?_
      exact K _ _ _ _ hW (CR_m (by omega) hCR) hl
set_option maxHeartbeats 4000000 in
theorem h_cell (l : Launch) (G : GT) (Hx : Heap) (b L : Nat) (xs : Nat → Int32) (hL : L ≤ 2561) : Met l y_Law_cell (.code y_Law_cell b_Law_cell 2 (some .int) :: WS) { frames := 0, cells := 0, slots := 0, locals := 0 } (hPreX G [.ref b, .int 0] Hx b L xs) (hQi G (fun r9 H9 => r9 = (if 0 < L then xs 0 else 0) ∧ H9 = Hx)) 0 0 (gAb G) := by
  refine va_MetF (cc := b_Law_cell) (maxL := 2) (ret := some .int) (by decide +kernel) rfl ?_
  intro p e s m args below meth c s₁ B hml hv
  obtain ⟨rfl, hE, hbs, hI, hX, hbl, hbA⟩ := hv
  subst hI
  rw [lg_entry_eq]
  have hx := B.exec
  have hb := B.bytes
  have hr := B.returns
  have hlk := B.notSynchronized
  have hl : lv_has _ 2 [(0, Value.ref b), (1, Value.int 0)] := lv_entry [Value.ref b, Value.int 0] (Nat.le_of_ble_eq_true rfl)
  have hS : va_S (gAb G) s.heap s.heap [] := va_S.rf
  refine lv_iload_n hx hb d_Law_cell_0 rfl (lv_at hl 1 rfl) ?_
  refine lv_aload_n hx hb d_Law_cell_1 rfl (lv_at hl 0 rfl) ?_
  refine va_slen hx hb hX hbl hbA hS d_Law_cell_2 ?_
  refine lv_icmp_ge (tgt := 12) hx hb d_Law_cell_3 (by decide) (fun c1 => ?_) (fun c1 => ?_)
  · have h0 : ¬ 0 < L := fun h => nI_nle h (by omega) c1
    refine lv_iconst (v := 0) hx hb d_Law_cell_12 (by decide) ?_
    exact h_iret hx hb hr hlk hS ⟨by rw [if_neg h0], rfl⟩ (Nat.le_refl _) (Nat.le_refl _) d_Law_cell_13
  · have h0 : 0 < L := Nat.lt_of_not_le (fun h => c1 (by rw [show L = 0 by omega]; decide))
    refine lv_aload_n hx hb d_Law_cell_6 rfl (lv_at hl 0 rfl) ?_
    refine lv_iload_n hx hb d_Law_cell_7 rfl (lv_at hl 1 rfl) ?_
    refine va_sld hx hb hX hbl hbA hS (vp_in_nI (n := 0) h0 (by omega)) d_Law_cell_8 ?_
    refine lv_goto (tgt := 13) hx hb d_Law_cell_9 (by decide) ?_
    exact h_iret hx hb hr hlk hS ⟨by rw [if_pos h0]; rfl, rfl⟩ (Nat.le_refl _) (Nat.le_refl _) d_Law_cell_13
