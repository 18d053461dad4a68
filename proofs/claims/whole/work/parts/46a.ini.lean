/-! At the beginning the two stand beside each other. -/
set_option maxRecDepth 100000 in
theorem i1_val : ∀ s, s < 3 → ∀ k, k < 4 → D0 1 (s + 20) k = D0 1 605 (4 * s + k) := by decide +kernel
set_option maxRecDepth 100000 in
theorem i1_loc : ∀ s, s < 3 → ∀ k, k < 4 → D0 1 (s + 30) k = -1 ∧ D0 1 606 (4 * s + k) = -1 := by decide +kernel
set_option maxRecDepth 100000 in
theorem i1_sta : ∀ s, s < 3 → ∀ t, t < 8 → D0 1 (s + 40) t = 0 ∧ D0 1 610 (3 * t + s) = 0 := by decide +kernel
set_option maxRecDepth 100000 in
theorem i1_wrt : ∀ s, s < 3 → ∀ t, t < 8 → D0 1 (s + 50) t = 0 ∧ D0 1 611 (3 * t + s) = 0 := by decide +kernel
set_option maxRecDepth 100000 in
theorem i1_wrs : ∀ s, s < 3 → ∀ t, t < 8 → ∀ k, k < 4 → D0 1 (8 * s + t + 70) k = D0 1 612 (4 * (3 * t + s) + k) := by decide +kernel
set_option maxRecDepth 100000 in
theorem i1_mem : ∀ t, t < 8 → D0 1 6 t = 0 ∧ D0 1 608 t = 0 ∧ D0 1 7 t = D0 1 609 t := by decide +kernel
set_option maxRecDepth 100000 in
theorem i1_pro : ∀ a, a < 1 → ∀ t, t < 8 → ∀ s, s < 3 → D0 1 (8 * a + t + 130) s = D0 1 613 (24 * a + 3 * t + s) ∧ D0 1 (8 * a + t + 160) s = -1 ∧ D0 1 614 (24 * a + 3 * t + s) = -1 := by decide +kernel
set_option maxRecDepth 100000 in
theorem i1_bal : ∀ i, i < 16 → D0 1 (i + 200) 0 = 0 ∧ D0 1 616 i = 0 ∧ D0 1 (i + 200) 2 = -1 ∧ D0 1 618 i = -1 := by decide +kernel
set_option maxRecDepth 100000 in
theorem i1_hr : ∀ i, i < 16 → ∀ a, a < 3 → D0 1 (i + 220) a = 0 ∧ D0 1 619 (3 * i + a) = 0 := by decide +kernel
set_option maxRecDepth 100000 in
theorem i1_lat : ∀ i, i < 16 → ∀ a, a < 3 → ∀ s, s < 3 → (a < 1 → D0 1 (4 * i + a + 350) s = -1) ∧ D0 1 622 (9 * i + 3 * a + s) = -1 := by decide +kernel
set_option maxRecDepth 100000 in
theorem i1_ups : (D0 1 4 0 = usF (D0 1) 602 3 ∧ ∀ w, w < 3 → D0 1 602 w = 0) ∧ (D0 1 4 1 = usF (D0 1) 603 1 ∧ ∀ w, w < 3 → D0 1 603 w = 0) ∧ (D0 1 4 2 = usF (D0 1) 604 2 ∧ ∀ w, w < 2 → D0 1 604 w = 0) := by decide +kernel
set_option maxRecDepth 100000 in
theorem i1_num : D0 1 0 8 = 0 ∧ D0 1 600 7 = 0 ∧ D0 1 600 1 = nI 1 ∧ D0 1 0 3 = mostI (nI 1) ∧ D0 1 5 1 = 0 ∧ D0 1 5 2 = D0 1 600 26 ∧ D0 1 600 25 = 0 := by decide +kernel
set_option maxRecDepth 100000 in
theorem i1_row : ∀ j, j < 60 → D0 1 8 j = nI j := by decide +kernel
theorem CR_ini1 : CR 1 0 (D0 1) (D0 1) := by
  obtain ⟨a1, a2, a3, a4, a5, a6, a7⟩ := i1_num
  obtain ⟨⟨u1, u2⟩, ⟨u3, u4⟩, u5, u6⟩ := i1_ups
  refine ⟨⟨⟨⟨a1.trans a2.symm, 0, by decide, a1⟩, a3, a4, by decide⟩, ⟨⟨u1, fun w h => Or.inl (u2 w h)⟩, ⟨u3, fun w h => Or.inl (u4 w h)⟩, u5, fun w h => Or.inl (u6 w h)⟩, fun t ht => ?_, fun t ht => (i1_mem t ht).2.2, fun s k hs hk => i1_val s hs k hk, fun s k hs hk => ?_, fun s t hs ht => ?_, fun s t hs ht => ?_, fun s t k hs ht hk => i1_wrs s hs t ht k hk, fun a t s ha ht hs => (i1_pro a ha t ht s hs).1, fun a t s ha ht hs => Or.inl (i1_pro a ha t ht s hs).2, fun i hi => ?_, fun i hi h0 => absurd (i1_bal i hi).1 h0, fun i hi => Or.inl (i1_bal i hi).2.2, fun i a hi ha => ?_, fun i a s hi ha hs h0 => absurd (i1_hr i hi a (by omega)).2 h0, fun i a s hi ha hs => ?_⟩, ⟨⟨⟨0, by decide, a5⟩, fun j hj => ⟨j, hj, i1_row j hj⟩, fun i j hi hj e => ?_⟩, a6, 0, by decide, a5, a7, fun j q hj => absurd hj (Nat.not_lt_zero j)⟩⟩
  · obtain ⟨b1, b2, -⟩ := i1_mem t ht
    exact ⟨b1.trans b2.symm, 0, by decide, b1⟩
  · obtain ⟨b1, b2⟩ := i1_loc s hs k hk
    exact ⟨b1.trans b2.symm, Or.inl b1⟩
  · obtain ⟨b1, b2⟩ := i1_sta s hs t ht
    exact ⟨b1.trans b2.symm, 0, by decide, b1⟩
  · obtain ⟨b1, b2⟩ := i1_wrt s hs t ht
    exact ⟨b1.trans b2.symm, 0, by decide, b1⟩
  · obtain ⟨b1, b2, -⟩ := i1_bal i hi
    exact ⟨b1.trans b2.symm, 0, by decide, b1⟩
  · obtain ⟨b1, b2⟩ := i1_hr i hi a ha
    exact ⟨fun _ => b1.trans b2.symm, fun _ => b2⟩
  · obtain ⟨b1, b2⟩ := i1_lat i hi a ha s hs
    exact ⟨fun h => Or.inl ⟨b1 h, b2⟩, fun _ => b2⟩
  · rw [i1_row i hi, i1_row j hj] at e
    exact (nI_eq (by omega) (by omega)).mp e
set_option maxRecDepth 100000 in
theorem i3_val : ∀ s, s < 3 → ∀ k, k < 4 → D0 3 (s + 20) k = D0 3 605 (4 * s + k) := by decide +kernel
set_option maxRecDepth 100000 in
theorem i3_loc : ∀ s, s < 3 → ∀ k, k < 4 → D0 3 (s + 30) k = -1 ∧ D0 3 606 (4 * s + k) = -1 := by decide +kernel
set_option maxRecDepth 100000 in
theorem i3_sta : ∀ s, s < 3 → ∀ t, t < 8 → D0 3 (s + 40) t = 0 ∧ D0 3 610 (3 * t + s) = 0 := by decide +kernel
set_option maxRecDepth 100000 in
theorem i3_wrt : ∀ s, s < 3 → ∀ t, t < 8 → D0 3 (s + 50) t = 0 ∧ D0 3 611 (3 * t + s) = 0 := by decide +kernel
set_option maxRecDepth 100000 in
theorem i3_wrs : ∀ s, s < 3 → ∀ t, t < 8 → ∀ k, k < 4 → D0 3 (8 * s + t + 70) k = D0 3 612 (4 * (3 * t + s) + k) := by decide +kernel
set_option maxRecDepth 100000 in
theorem i3_mem : ∀ t, t < 8 → D0 3 6 t = 0 ∧ D0 3 608 t = 0 ∧ D0 3 7 t = D0 3 609 t := by decide +kernel
set_option maxRecDepth 100000 in
theorem i3_pro : ∀ a, a < 3 → ∀ t, t < 8 → ∀ s, s < 3 → D0 3 (8 * a + t + 130) s = D0 3 613 (24 * a + 3 * t + s) ∧ D0 3 (8 * a + t + 160) s = -1 ∧ D0 3 614 (24 * a + 3 * t + s) = -1 := by decide +kernel
set_option maxRecDepth 100000 in
theorem i3_bal : ∀ i, i < 16 → D0 3 (i + 200) 0 = 0 ∧ D0 3 616 i = 0 ∧ D0 3 (i + 200) 2 = -1 ∧ D0 3 618 i = -1 := by decide +kernel
set_option maxRecDepth 100000 in
theorem i3_hr : ∀ i, i < 16 → ∀ a, a < 3 → D0 3 (i + 220) a = 0 ∧ D0 3 619 (3 * i + a) = 0 := by decide +kernel
set_option maxRecDepth 100000 in
theorem i3_lat : ∀ i, i < 16 → ∀ a, a < 3 → ∀ s, s < 3 → (a < 3 → D0 3 (4 * i + a + 350) s = -1) ∧ D0 3 622 (9 * i + 3 * a + s) = -1 := by decide +kernel
set_option maxRecDepth 100000 in
theorem i3_ups : (D0 3 4 0 = usF (D0 3) 602 3 ∧ ∀ w, w < 3 → D0 3 602 w = 0) ∧ (D0 3 4 1 = usF (D0 3) 603 3 ∧ ∀ w, w < 3 → D0 3 603 w = 0) ∧ (D0 3 4 2 = usF (D0 3) 604 2 ∧ ∀ w, w < 2 → D0 3 604 w = 0) := by decide +kernel
set_option maxRecDepth 100000 in
theorem i3_num : D0 3 0 8 = 0 ∧ D0 3 600 7 = 0 ∧ D0 3 600 1 = nI 3 ∧ D0 3 0 3 = mostI (nI 3) ∧ D0 3 5 1 = 0 ∧ D0 3 5 2 = D0 3 600 26 ∧ D0 3 600 25 = 0 := by decide +kernel
set_option maxRecDepth 100000 in
theorem i3_row : ∀ j, j < 60 → D0 3 8 j = nI j := by decide +kernel
theorem CR_ini3 : CR 3 0 (D0 3) (D0 3) := by
  obtain ⟨a1, a2, a3, a4, a5, a6, a7⟩ := i3_num
  obtain ⟨⟨u1, u2⟩, ⟨u3, u4⟩, u5, u6⟩ := i3_ups
  refine ⟨⟨⟨⟨a1.trans a2.symm, 0, by decide, a1⟩, a3, a4, by decide⟩, ⟨⟨u1, fun w h => Or.inl (u2 w h)⟩, ⟨u3, fun w h => Or.inl (u4 w h)⟩, u5, fun w h => Or.inl (u6 w h)⟩, fun t ht => ?_, fun t ht => (i3_mem t ht).2.2, fun s k hs hk => i3_val s hs k hk, fun s k hs hk => ?_, fun s t hs ht => ?_, fun s t hs ht => ?_, fun s t k hs ht hk => i3_wrs s hs t ht k hk, fun a t s ha ht hs => (i3_pro a ha t ht s hs).1, fun a t s ha ht hs => Or.inl (i3_pro a ha t ht s hs).2, fun i hi => ?_, fun i hi h0 => absurd (i3_bal i hi).1 h0, fun i hi => Or.inl (i3_bal i hi).2.2, fun i a hi ha => ?_, fun i a s hi ha hs h0 => absurd (i3_hr i hi a (by omega)).2 h0, fun i a s hi ha hs => ?_⟩, ⟨⟨⟨0, by decide, a5⟩, fun j hj => ⟨j, hj, i3_row j hj⟩, fun i j hi hj e => ?_⟩, a6, 0, by decide, a5, a7, fun j q hj => absurd hj (Nat.not_lt_zero j)⟩⟩
  · obtain ⟨b1, b2, -⟩ := i3_mem t ht
    exact ⟨b1.trans b2.symm, 0, by decide, b1⟩
  · obtain ⟨b1, b2⟩ := i3_loc s hs k hk
    exact ⟨b1.trans b2.symm, Or.inl b1⟩
  · obtain ⟨b1, b2⟩ := i3_sta s hs t ht
    exact ⟨b1.trans b2.symm, 0, by decide, b1⟩
  · obtain ⟨b1, b2⟩ := i3_wrt s hs t ht
    exact ⟨b1.trans b2.symm, 0, by decide, b1⟩
  · obtain ⟨b1, b2, -⟩ := i3_bal i hi
    exact ⟨b1.trans b2.symm, 0, by decide, b1⟩
  · obtain ⟨b1, b2⟩ := i3_hr i hi a ha
    exact ⟨fun _ => b1.trans b2.symm, fun _ => b2⟩
  · obtain ⟨b1, b2⟩ := i3_lat i hi a ha s hs
    exact ⟨fun h => Or.inl ⟨b1 h, b2⟩, fun _ => b2⟩
  · rw [i3_row i hi, i3_row j hj] at e
    exact (nI_eq (by omega) (by omega)).mp e
