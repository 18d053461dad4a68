/-! What the class's constructor has made, cell by cell. -/
theorem mm1_St (G : GT) (σ : Nat) {s : Nat} (hs : s < 3) {q : Nat × va_E} (hq : q ∈ wStoreI G (σ + 133 + 14 * s)) : q ∈ wPCI1 G σ := by
  unfold wPCI1
  rcases (by omega : s = 0 ∨ s = 1 ∨ s = 2) with rfl | rfl | rfl
  · exact List.mem_append_right _ (List.mem_append_left _ (List.mem_append_left _ (List.mem_append_left _ (List.mem_append_left _ (List.mem_append_left _ (List.mem_append_left _ (List.mem_append_left _ (List.mem_append_left _ (List.mem_append_left _ (List.mem_append_left _ (List.mem_append_left _ (List.mem_append_left _ (List.mem_append_left _ (List.mem_append_left _ (List.mem_append_left _ (List.mem_append_left _ (List.mem_append_left _ (List.mem_append_left _ (List.mem_append_left _ (List.mem_append_right _ hq))))))))))))))))))))
  · exact List.mem_append_right _ (List.mem_append_left _ (List.mem_append_left _ (List.mem_append_left _ (List.mem_append_left _ (List.mem_append_left _ (List.mem_append_left _ (List.mem_append_left _ (List.mem_append_left _ (List.mem_append_left _ (List.mem_append_left _ (List.mem_append_left _ (List.mem_append_left _ (List.mem_append_left _ (List.mem_append_left _ (List.mem_append_left _ (List.mem_append_left _ (List.mem_append_left _ (List.mem_append_left _ (List.mem_append_right _ hq)))))))))))))))))))
  · exact List.mem_append_right _ (List.mem_append_left _ (List.mem_append_left _ (List.mem_append_left _ (List.mem_append_left _ (List.mem_append_left _ (List.mem_append_left _ (List.mem_append_left _ (List.mem_append_left _ (List.mem_append_left _ (List.mem_append_left _ (List.mem_append_left _ (List.mem_append_left _ (List.mem_append_left _ (List.mem_append_left _ (List.mem_append_left _ (List.mem_append_left _ (List.mem_append_left _ (List.mem_append_right _ hq))))))))))))))))))
theorem mm1_Ac (G : GT) (σ : Nat) {s : Nat} (hs : s < 1) {q : Nat × va_E} (hq : q ∈ wAccI G (σ + 175 + 19 * s)) : q ∈ wPCI1 G σ := by
  unfold wPCI1
  rcases (by omega : s = 0) with rfl
  · exact List.mem_append_right _ (List.mem_append_left _ (List.mem_append_left _ (List.mem_append_left _ (List.mem_append_left _ (List.mem_append_left _ (List.mem_append_left _ (List.mem_append_left _ (List.mem_append_left _ (List.mem_append_left _ (List.mem_append_left _ (List.mem_append_left _ (List.mem_append_left _ (List.mem_append_left _ (List.mem_append_left _ (List.mem_append_left _ (List.mem_append_left _ (List.mem_append_right _ hq)))))))))))))))))
theorem mm1_Le (G : GT) (σ : Nat) {s : Nat} (hs : s < 16) {q : Nat × va_E} (hq : q ∈ wLedI1 G (σ + 194 + 6 * s)) : q ∈ wPCI1 G σ := by
  unfold wPCI1
  rcases (by omega : s = 0 ∨ s = 1 ∨ s = 2 ∨ s = 3 ∨ s = 4 ∨ s = 5 ∨ s = 6 ∨ s = 7 ∨ s = 8 ∨ s = 9 ∨ s = 10 ∨ s = 11 ∨ s = 12 ∨ s = 13 ∨ s = 14 ∨ s = 15) with rfl | rfl | rfl | rfl | rfl | rfl | rfl | rfl | rfl | rfl | rfl | rfl | rfl | rfl | rfl | rfl
  · exact List.mem_append_right _ (List.mem_append_left _ (List.mem_append_left _ (List.mem_append_left _ (List.mem_append_left _ (List.mem_append_left _ (List.mem_append_left _ (List.mem_append_left _ (List.mem_append_left _ (List.mem_append_left _ (List.mem_append_left _ (List.mem_append_left _ (List.mem_append_left _ (List.mem_append_left _ (List.mem_append_left _ (List.mem_append_left _ (List.mem_append_right _ hq))))))))))))))))
  · exact List.mem_append_right _ (List.mem_append_left _ (List.mem_append_left _ (List.mem_append_left _ (List.mem_append_left _ (List.mem_append_left _ (List.mem_append_left _ (List.mem_append_left _ (List.mem_append_left _ (List.mem_append_left _ (List.mem_append_left _ (List.mem_append_left _ (List.mem_append_left _ (List.mem_append_left _ (List.mem_append_left _ (List.mem_append_right _ hq)))))))))))))))
  · exact List.mem_append_right _ (List.mem_append_left _ (List.mem_append_left _ (List.mem_append_left _ (List.mem_append_left _ (List.mem_append_left _ (List.mem_append_left _ (List.mem_append_left _ (List.mem_append_left _ (List.mem_append_left _ (List.mem_append_left _ (List.mem_append_left _ (List.mem_append_left _ (List.mem_append_left _ (List.mem_append_right _ hq))))))))))))))
  · exact List.mem_append_right _ (List.mem_append_left _ (List.mem_append_left _ (List.mem_append_left _ (List.mem_append_left _ (List.mem_append_left _ (List.mem_append_left _ (List.mem_append_left _ (List.mem_append_left _ (List.mem_append_left _ (List.mem_append_left _ (List.mem_append_left _ (List.mem_append_left _ (List.mem_append_right _ hq)))))))))))))
  · exact List.mem_append_right _ (List.mem_append_left _ (List.mem_append_left _ (List.mem_append_left _ (List.mem_append_left _ (List.mem_append_left _ (List.mem_append_left _ (List.mem_append_left _ (List.mem_append_left _ (List.mem_append_left _ (List.mem_append_left _ (List.mem_append_left _ (List.mem_append_right _ hq))))))))))))
  · exact List.mem_append_right _ (List.mem_append_left _ (List.mem_append_left _ (List.mem_append_left _ (List.mem_append_left _ (List.mem_append_left _ (List.mem_append_left _ (List.mem_append_left _ (List.mem_append_left _ (List.mem_append_left _ (List.mem_append_left _ (List.mem_append_right _ hq)))))))))))
  · exact List.mem_append_right _ (List.mem_append_left _ (List.mem_append_left _ (List.mem_append_left _ (List.mem_append_left _ (List.mem_append_left _ (List.mem_append_left _ (List.mem_append_left _ (List.mem_append_left _ (List.mem_append_left _ (List.mem_append_right _ hq))))))))))
  · exact List.mem_append_right _ (List.mem_append_left _ (List.mem_append_left _ (List.mem_append_left _ (List.mem_append_left _ (List.mem_append_left _ (List.mem_append_left _ (List.mem_append_left _ (List.mem_append_left _ (List.mem_append_right _ hq)))))))))
  · exact List.mem_append_right _ (List.mem_append_left _ (List.mem_append_left _ (List.mem_append_left _ (List.mem_append_left _ (List.mem_append_left _ (List.mem_append_left _ (List.mem_append_left _ (List.mem_append_right _ hq))))))))
  · exact List.mem_append_right _ (List.mem_append_left _ (List.mem_append_left _ (List.mem_append_left _ (List.mem_append_left _ (List.mem_append_left _ (List.mem_append_left _ (List.mem_append_right _ hq)))))))
  · exact List.mem_append_right _ (List.mem_append_left _ (List.mem_append_left _ (List.mem_append_left _ (List.mem_append_left _ (List.mem_append_left _ (List.mem_append_right _ hq))))))
  · exact List.mem_append_right _ (List.mem_append_left _ (List.mem_append_left _ (List.mem_append_left _ (List.mem_append_left _ (List.mem_append_right _ hq)))))
  · exact List.mem_append_right _ (List.mem_append_left _ (List.mem_append_left _ (List.mem_append_left _ (List.mem_append_right _ hq))))
  · exact List.mem_append_right _ (List.mem_append_left _ (List.mem_append_left _ (List.mem_append_right _ hq)))
  · exact List.mem_append_right _ (List.mem_append_left _ (List.mem_append_right _ hq))
  · exact List.mem_append_right _ (List.mem_append_right _ hq)
theorem mm1_Nt (G : GT) (σ : Nat) {q : Nat × va_E} (hq : q ∈ wNetI G (σ + 4)) : q ∈ wPCI1 G σ := by
  unfold wPCI1
  exact List.mem_append_right _ (List.mem_append_left _ (List.mem_append_left _ (List.mem_append_left _ (List.mem_append_left _ (List.mem_append_left _ (List.mem_append_left _ (List.mem_append_left _ (List.mem_append_left _ (List.mem_append_left _ (List.mem_append_left _ (List.mem_append_left _ (List.mem_append_left _ (List.mem_append_left _ (List.mem_append_left _ (List.mem_append_left _ (List.mem_append_left _ (List.mem_append_left _ (List.mem_append_left _ (List.mem_append_left _ (List.mem_append_left _ (hq)))))))))))))))))))))
theorem mm1_Ms (G : GT) (σ : Nat) {j : Nat} (hj : j < 60) {q : Nat × va_E} (hq : q ∈ wMsgI G (σ + 4 + 6 + 2 * j)) : q ∈ wPCI1 G σ :=
  mm1_Nt G σ (List.mem_append_right _ (List.mem_append_right _ (List.mem_flatMap.mpr ⟨j, List.mem_range.mpr hj, hq⟩)))
theorem mm1_M60 (G : GT) (σ : Nat) {q : Nat × va_E} (hq : q ∈ wMsgI G (σ + 4 + 2)) : q ∈ wPCI1 G σ :=
  mm1_Nt G σ (List.mem_append_right _ (List.mem_append_left _ (List.mem_append_left _ hq)))
theorem mm1_M61 (G : GT) (σ : Nat) {q : Nat × va_E} (hq : q ∈ wMsgI G (σ + 4 + 4)) : q ∈ wPCI1 G σ :=
  mm1_Nt G σ (List.mem_append_right _ (List.mem_append_left _ (List.mem_append_right _ hq)))
theorem cv1_Mem {G : GT} {σ z : Nat} {H : Heap} (hF : GF 1 σ z G) (hP : ∀ q ∈ wPCI1 G σ, va_at G.1 gcl q H)  : va_at G.1 gcl (gad G (6), en G (dI 1) (6)) H := by
  have hG := GF_ok hF (by decide)
  have hm := hP _ ((List.mem_append_left _ (List.mem_of_getElem? (i := 4) rfl)))
  rw [en, (F_Mem G hG ).2.2, (GF_gad hF _).trans (g1_Mem σ z)]
  exact at_cgI (fun j hj => by rw [dI_Mem  j]) hm
theorem cv1_Clo {G : GT} {σ z : Nat} {H : Heap} (hF : GF 1 σ z G) (hP : ∀ q ∈ wPCI1 G σ, va_at G.1 gcl q H)  : va_at G.1 gcl (gad G (7), en G (dI 1) (7)) H := by
  have hG := GF_ok hF (by decide)
  have hm := hP _ ((List.mem_append_left _ (List.mem_of_getElem? (i := 5) rfl)))
  rw [en, (F_Clo G hG ).2.2, (GF_gad hF _).trans (g1_Clo σ z)]
  exact at_cgI (fun j hj => by rw [dI_Clo  j]) hm
theorem cv1_UpS {G : GT} {σ z : Nat} {H : Heap} (hF : GF 1 σ z G) (hP : ∀ q ∈ wPCI1 G σ, va_at G.1 gcl q H)  : va_at G.1 gcl (gad G (4), en G (dI 1) (4)) H := by
  have hG := GF_ok hF (by decide)
  have hm := hP _ ((List.mem_append_left _ (List.mem_of_getElem? (i := 3) rfl)))
  rw [en, (F_UpS G hG ).2.2, (GF_gad hF _).trans (g1_UpS σ z)]
  exact at_cgI (fun j hj => by rw [dI_UpS  j]; rcases (by omega : j = 0 ∨ j = 1 ∨ j = 2) with rfl | rfl | rfl <;> decide) hm
theorem cv1_Val {G : GT} {σ z : Nat} {H : Heap} (hF : GF 1 σ z G) (hP : ∀ q ∈ wPCI1 G σ, va_at G.1 gcl q H) {i0 : Nat} (h0 : i0 < 3) : va_at G.1 gcl (gad G (i0 + 20), en G (dI 1) (i0 + 20)) H := by
  have hG := GF_ok hF (by decide)
  have hm := hP _ (mm1_St G σ h0 (List.mem_of_getElem? (i := 1) rfl))
  rw [en, (F_Val G hG h0).2.2, (GF_gad hF _).trans (g1_Val σ z h0)]
  exact at_cgI (fun j hj => by rw [dI_Val h0 j]) hm
theorem cv1_Loc {G : GT} {σ z : Nat} {H : Heap} (hF : GF 1 σ z G) (hP : ∀ q ∈ wPCI1 G σ, va_at G.1 gcl q H) {i0 : Nat} (h0 : i0 < 3) : va_at G.1 gcl (gad G (i0 + 30), en G (dI 1) (i0 + 30)) H := by
  have hG := GF_ok hF (by decide)
  have hm := hP _ (mm1_St G σ h0 (List.mem_of_getElem? (i := 2) rfl))
  rw [en, (F_Loc G hG h0).2.2, (GF_gad hF _).trans (g1_Loc σ z h0)]
  exact at_cgI (fun j hj => by rw [dI_Loc h0 j]; exact if_pos hj) hm
theorem cv1_Sta {G : GT} {σ z : Nat} {H : Heap} (hF : GF 1 σ z G) (hP : ∀ q ∈ wPCI1 G σ, va_at G.1 gcl q H) {i0 : Nat} (h0 : i0 < 3) : va_at G.1 gcl (gad G (i0 + 40), en G (dI 1) (i0 + 40)) H := by
  have hG := GF_ok hF (by decide)
  have hm := hP _ (mm1_St G σ h0 (List.mem_of_getElem? (i := 3) rfl))
  rw [en, (F_Sta G hG h0).2.2, (GF_gad hF _).trans (g1_Sta σ z h0)]
  exact at_cgI (fun j hj => by rw [dI_Sta h0 j]) hm
theorem cv1_Wrt {G : GT} {σ z : Nat} {H : Heap} (hF : GF 1 σ z G) (hP : ∀ q ∈ wPCI1 G σ, va_at G.1 gcl q H) {i0 : Nat} (h0 : i0 < 3) : va_at G.1 gcl (gad G (i0 + 50), en G (dI 1) (i0 + 50)) H := by
  have hG := GF_ok hF (by decide)
  have hm := hP _ (mm1_St G σ h0 (List.mem_of_getElem? (i := 4) rfl))
  rw [en, (F_Wrt G hG h0).2.2, (GF_gad hF _).trans (g1_Wrt σ z h0)]
  exact at_cgI (fun j hj => by rw [dI_Wrt h0 j]) hm
theorem cv1_Wr {G : GT} {σ z : Nat} {H : Heap} (hF : GF 1 σ z G) (hP : ∀ q ∈ wPCI1 G σ, va_at G.1 gcl q H) {i0 i1 : Nat} (h0 : i0 < 3) (h1 : i1 < 8) : va_at G.1 gcl (gad G (8 * i0 + i1 + 70), en G (dI 1) (8 * i0 + i1 + 70)) H := by
  have hG := GF_ok hF (by decide)
  rw [en, (F_Wr G hG h0 h1).2.2, (GF_gad hF _).trans (g1_Wr σ z h0 h1)]
  have hd : ∀ j, dI 1 (8 * i0 + i1 + 70) j = _ := dI_Wr h0 h1
  rcases (by omega : i1 = 0 ∨ i1 = 1 ∨ i1 = 2 ∨ i1 = 3 ∨ i1 = 4 ∨ i1 = 5 ∨ i1 = 6 ∨ i1 = 7) with rfl | rfl | rfl | rfl | rfl | rfl | rfl | rfl
  · exact at_cgI (fun j hj => by rw [hd j]) (hP _ (mm1_St G σ h0 (List.mem_of_getElem? (i := 6) rfl)))
  · exact at_cgI (fun j hj => by rw [hd j]) (hP _ (mm1_St G σ h0 (List.mem_of_getElem? (i := 7) rfl)))
  · exact at_cgI (fun j hj => by rw [hd j]) (hP _ (mm1_St G σ h0 (List.mem_of_getElem? (i := 8) rfl)))
  · exact at_cgI (fun j hj => by rw [hd j]) (hP _ (mm1_St G σ h0 (List.mem_of_getElem? (i := 9) rfl)))
  · exact at_cgI (fun j hj => by rw [hd j]) (hP _ (mm1_St G σ h0 (List.mem_of_getElem? (i := 10) rfl)))
  · exact at_cgI (fun j hj => by rw [hd j]) (hP _ (mm1_St G σ h0 (List.mem_of_getElem? (i := 11) rfl)))
  · exact at_cgI (fun j hj => by rw [hd j]) (hP _ (mm1_St G σ h0 (List.mem_of_getElem? (i := 12) rfl)))
  · exact at_cgI (fun j hj => by rw [hd j]) (hP _ (mm1_St G σ h0 (List.mem_of_getElem? (i := 13) rfl)))
theorem cv1_PrR {G : GT} {σ z : Nat} {H : Heap} (hF : GF 1 σ z G) (hP : ∀ q ∈ wPCI1 G σ, va_at G.1 gcl q H) {i0 i1 : Nat} (h0 : i0 < 1) (h1 : i1 < 8) : va_at G.1 gcl (gad G (8 * i0 + i1 + 130), en G (dI 1) (8 * i0 + i1 + 130)) H := by
  have hG := GF_ok hF (by decide)
  rw [en, (F_PrR G hG (by rw [hF.2.1]; exact h0) h1).2.2, (GF_gad hF _).trans (g1_PrR σ z h0 h1)]
  have hd : ∀ j, dI 1 (8 * i0 + i1 + 130) j = _ := dI_PrR (by decide) h0 h1
  rcases (by omega : i1 = 0 ∨ i1 = 1 ∨ i1 = 2 ∨ i1 = 3 ∨ i1 = 4 ∨ i1 = 5 ∨ i1 = 6 ∨ i1 = 7) with rfl | rfl | rfl | rfl | rfl | rfl | rfl | rfl
  · exact at_cgI (fun j hj => by rw [hd j]) (hP _ (mm1_Ac G σ h0 (List.mem_of_getElem? (i := 2) rfl)))
  · exact at_cgI (fun j hj => by rw [hd j]) (hP _ (mm1_Ac G σ h0 (List.mem_of_getElem? (i := 3) rfl)))
  · exact at_cgI (fun j hj => by rw [hd j]) (hP _ (mm1_Ac G σ h0 (List.mem_of_getElem? (i := 4) rfl)))
  · exact at_cgI (fun j hj => by rw [hd j]) (hP _ (mm1_Ac G σ h0 (List.mem_of_getElem? (i := 5) rfl)))
  · exact at_cgI (fun j hj => by rw [hd j]) (hP _ (mm1_Ac G σ h0 (List.mem_of_getElem? (i := 6) rfl)))
  · exact at_cgI (fun j hj => by rw [hd j]) (hP _ (mm1_Ac G σ h0 (List.mem_of_getElem? (i := 7) rfl)))
  · exact at_cgI (fun j hj => by rw [hd j]) (hP _ (mm1_Ac G σ h0 (List.mem_of_getElem? (i := 8) rfl)))
  · exact at_cgI (fun j hj => by rw [hd j]) (hP _ (mm1_Ac G σ h0 (List.mem_of_getElem? (i := 9) rfl)))
theorem cv1_TkR {G : GT} {σ z : Nat} {H : Heap} (hF : GF 1 σ z G) (hP : ∀ q ∈ wPCI1 G σ, va_at G.1 gcl q H) {i0 i1 : Nat} (h0 : i0 < 1) (h1 : i1 < 8) : va_at G.1 gcl (gad G (8 * i0 + i1 + 160), en G (dI 1) (8 * i0 + i1 + 160)) H := by
  have hG := GF_ok hF (by decide)
  rw [en, (F_TkR G hG (by rw [hF.2.1]; exact h0) h1).2.2, (GF_gad hF _).trans (g1_TkR σ z h0 h1)]
  have hd : ∀ j, dI 1 (8 * i0 + i1 + 160) j = _ := dI_TkR (by decide) h0 h1
  rcases (by omega : i1 = 0 ∨ i1 = 1 ∨ i1 = 2 ∨ i1 = 3 ∨ i1 = 4 ∨ i1 = 5 ∨ i1 = 6 ∨ i1 = 7) with rfl | rfl | rfl | rfl | rfl | rfl | rfl | rfl
  · exact at_cgI (fun j hj => by rw [hd j]; exact if_pos hj) (hP _ (mm1_Ac G σ h0 (List.mem_of_getElem? (i := 11) rfl)))
  · exact at_cgI (fun j hj => by rw [hd j]; exact if_pos hj) (hP _ (mm1_Ac G σ h0 (List.mem_of_getElem? (i := 12) rfl)))
  · exact at_cgI (fun j hj => by rw [hd j]; exact if_pos hj) (hP _ (mm1_Ac G σ h0 (List.mem_of_getElem? (i := 13) rfl)))
  · exact at_cgI (fun j hj => by rw [hd j]; exact if_pos hj) (hP _ (mm1_Ac G σ h0 (List.mem_of_getElem? (i := 14) rfl)))
  · exact at_cgI (fun j hj => by rw [hd j]; exact if_pos hj) (hP _ (mm1_Ac G σ h0 (List.mem_of_getElem? (i := 15) rfl)))
  · exact at_cgI (fun j hj => by rw [hd j]; exact if_pos hj) (hP _ (mm1_Ac G σ h0 (List.mem_of_getElem? (i := 16) rfl)))
  · exact at_cgI (fun j hj => by rw [hd j]; exact if_pos hj) (hP _ (mm1_Ac G σ h0 (List.mem_of_getElem? (i := 17) rfl)))
  · exact at_cgI (fun j hj => by rw [hd j]; exact if_pos hj) (hP _ (mm1_Ac G σ h0 (List.mem_of_getElem? (i := 18) rfl)))
theorem cv1_RpR {G : GT} {σ z : Nat} {H : Heap} (hF : GF 1 σ z G) (hP : ∀ q ∈ wPCI1 G σ, va_at G.1 gcl q H) {i0 i1 : Nat} (h0 : i0 < 16) (h1 : i1 < 1) : va_at G.1 gcl (gad G (4 * i0 + i1 + 280), en G (dI 1) (4 * i0 + i1 + 280)) H := by
  have hG := GF_ok hF (by decide)
  rw [en, (F_RpR G hG h0 (by rw [hF.2.1]; exact h1)).2.2, (GF_gad hF _).trans (g1_RpR σ z h0 h1)]
  have hd : ∀ j, dI 1 (4 * i0 + i1 + 280) j = _ := dI_RpR (by decide) h0 h1
  rcases (by omega : i1 = 0) with rfl
  · exact at_cgI (fun j hj => by rw [hd j]) (hP _ (mm1_Le G σ h0 (List.mem_of_getElem? (i := 3) rfl)))
theorem cv1_LtR {G : GT} {σ z : Nat} {H : Heap} (hF : GF 1 σ z G) (hP : ∀ q ∈ wPCI1 G σ, va_at G.1 gcl q H) {i0 i1 : Nat} (h0 : i0 < 16) (h1 : i1 < 1) : va_at G.1 gcl (gad G (4 * i0 + i1 + 350), en G (dI 1) (4 * i0 + i1 + 350)) H := by
  have hG := GF_ok hF (by decide)
  rw [en, (F_LtR G hG h0 (by rw [hF.2.1]; exact h1)).2.2, (GF_gad hF _).trans (g1_LtR σ z h0 h1)]
  have hd : ∀ j, dI 1 (4 * i0 + i1 + 350) j = _ := dI_LtR (by decide) h0 h1
  rcases (by omega : i1 = 0) with rfl
  · exact at_cgI (fun j hj => by rw [hd j]; exact if_pos hj) (hP _ (mm1_Le G σ h0 (List.mem_of_getElem? (i := 5) rfl)))
theorem cv1_HR {G : GT} {σ z : Nat} {H : Heap} (hF : GF 1 σ z G) (hP : ∀ q ∈ wPCI1 G σ, va_at G.1 gcl q H) {i0 : Nat} (h0 : i0 < 16) : va_at G.1 gcl (gad G (i0 + 220), en G (dI 1) (i0 + 220)) H := by
  have hG := GF_ok hF (by decide)
  have hm := hP _ (mm1_Le G σ h0 (List.mem_of_getElem? (i := 1) rfl))
  rw [en, (F_HR G hG h0).2.2, hF.2.1, (GF_gad hF _).trans (g1_HR σ z h0)]
  exact at_cgI (fun j hj => by rw [dI_HR h0 j]) hm
theorem cv1_Wrs {G : GT} {σ z : Nat} {H : Heap} (hF : GF 1 σ z G) (hP : ∀ q ∈ wPCI1 G σ, va_at G.1 gcl q H) {i0 : Nat} (h0 : i0 < 3) : va_at G.1 gcl (gad G (i0 + 60), en G (dI 1) (i0 + 60)) H := by
  have hG := GF_ok hF (by decide)
  have hm := hP _ (mm1_St G σ h0 (List.mem_of_getElem? (i := 5) rfl))
  rw [en, (F_Wrs G hG h0).2.2, (GF_gad hF _).trans (g1_Wrs σ z h0)]
  exact at_cgR (fun j hj => by rw [if_pos hj]; exact congrArg some ((GF_gad hF _).trans (g1_Wr σ z h0 hj)).symm) hm
theorem cv1_Pro {G : GT} {σ z : Nat} {H : Heap} (hF : GF 1 σ z G) (hP : ∀ q ∈ wPCI1 G σ, va_at G.1 gcl q H) {i0 : Nat} (h0 : i0 < 1) : va_at G.1 gcl (gad G (i0 + 110), en G (dI 1) (i0 + 110)) H := by
  have hG := GF_ok hF (by decide)
  have hm := hP _ (mm1_Ac G σ h0 (List.mem_of_getElem? (i := 1) rfl))
  rw [en, (F_Pro G hG (by rw [hF.2.1]; exact h0)).2.2, (GF_gad hF _).trans (g1_Pro σ z h0)]
  exact at_cgR (fun j hj => by rw [if_pos hj]; exact congrArg some ((GF_gad hF _).trans (g1_PrR σ z h0 hj)).symm) hm
theorem cv1_Tak {G : GT} {σ z : Nat} {H : Heap} (hF : GF 1 σ z G) (hP : ∀ q ∈ wPCI1 G σ, va_at G.1 gcl q H) {i0 : Nat} (h0 : i0 < 1) : va_at G.1 gcl (gad G (i0 + 120), en G (dI 1) (i0 + 120)) H := by
  have hG := GF_ok hF (by decide)
  have hm := hP _ (mm1_Ac G σ h0 (List.mem_of_getElem? (i := 10) rfl))
  rw [en, (F_Tak G hG (by rw [hF.2.1]; exact h0)).2.2, (GF_gad hF _).trans (g1_Tak σ z h0)]
  exact at_cgR (fun j hj => by rw [if_pos hj]; exact congrArg some ((GF_gad hF _).trans (g1_TkR σ z h0 hj)).symm) hm
theorem cv1_Rpl {G : GT} {σ z : Nat} {H : Heap} (hF : GF 1 σ z G) (hP : ∀ q ∈ wPCI1 G σ, va_at G.1 gcl q H) {i0 : Nat} (h0 : i0 < 16) : va_at G.1 gcl (gad G (i0 + 240), en G (dI 1) (i0 + 240)) H := by
  have hG := GF_ok hF (by decide)
  have hm := hP _ (mm1_Le G σ h0 (List.mem_of_getElem? (i := 2) rfl))
  rw [en, (F_Rpl G hG h0).2.2, hF.2.1, (GF_gad hF _).trans (g1_Rpl σ z h0)]
  exact at_cgR (fun j hj => by rw [if_pos hj]; exact congrArg some ((GF_gad hF _).trans (g1_RpR σ z h0 hj)).symm) hm
theorem cv1_Lat {G : GT} {σ z : Nat} {H : Heap} (hF : GF 1 σ z G) (hP : ∀ q ∈ wPCI1 G σ, va_at G.1 gcl q H) {i0 : Nat} (h0 : i0 < 16) : va_at G.1 gcl (gad G (i0 + 260), en G (dI 1) (i0 + 260)) H := by
  have hG := GF_ok hF (by decide)
  have hm := hP _ (mm1_Le G σ h0 (List.mem_of_getElem? (i := 4) rfl))
  rw [en, (F_Lat G hG h0).2.2, hF.2.1, (GF_gad hF _).trans (g1_Lat σ z h0)]
  exact at_cgR (fun j hj => by rw [if_pos hj]; exact congrArg some ((GF_gad hF _).trans (g1_LtR σ z h0 hj)).symm) hm
theorem cv1_Stores {G : GT} {σ z : Nat} {H : Heap} (hF : GF 1 σ z G) (hP : ∀ q ∈ wPCI1 G σ, va_at G.1 gcl q H) : va_at G.1 gcl (gad G (1), en G (dI 1) (1)) H := by
  have hG := GF_ok hF (by decide)
  have hm := hP _ ((List.mem_append_left _ (List.mem_of_getElem? (i := 1) rfl)))
  rw [en, (F_Stores G hG).2.2.2, (GF_gad hF _).trans (g1_Stores σ z)]
  refine at_cgR (fun j hj => ?_) hm
  rw [show gad G (j + 10) = _ from (GF_gad hF _).trans (g1_Store σ z hj)]
  rcases (by omega : j = 0 ∨ j = 1 ∨ j = 2) with rfl | rfl | rfl <;> rfl
theorem cv1_Accs {G : GT} {σ z : Nat} {H : Heap} (hF : GF 1 σ z G) (hP : ∀ q ∈ wPCI1 G σ, va_at G.1 gcl q H) : va_at G.1 gcl (gad G (2), en G (dI 1) (2)) H := by
  have hG := GF_ok hF (by decide)
  have hm := hP _ ((List.mem_append_left _ (List.mem_of_getElem? (i := 6) rfl)))
  rw [en, (F_Accs G hG).2.2.2, hF.2.1, (GF_gad hF _).trans (g1_Accs σ z)]
  refine at_cgR (fun j hj => ?_) hm
  rw [show gad G (j + 100) = _ from (GF_gad hF _).trans (g1_Acc σ z hj)]
  rcases (by omega : j = 0) with rfl <;> rfl
theorem cv1_Leds {G : GT} {σ z : Nat} {H : Heap} (hF : GF 1 σ z G) (hP : ∀ q ∈ wPCI1 G σ, va_at G.1 gcl q H) : va_at G.1 gcl (gad G (3), en G (dI 1) (3)) H := by
  have hG := GF_ok hF (by decide)
  have hm := hP _ ((List.mem_append_left _ (List.mem_of_getElem? (i := 2) rfl)))
  rw [en, (F_Leds G hG).2.2.2, (GF_gad hF _).trans (g1_Leds σ z)]
  refine at_cgR (fun j hj => ?_) hm
  rw [show gad G (j + 200) = _ from (GF_gad hF _).trans (g1_Led σ z hj)]
  rcases (by omega : j = 0 ∨ j = 1 ∨ j = 2 ∨ j = 3 ∨ j = 4 ∨ j = 5 ∨ j = 6 ∨ j = 7 ∨ j = 8 ∨ j = 9 ∨ j = 10 ∨ j = 11 ∨ j = 12 ∨ j = 13 ∨ j = 14 ∨ j = 15) with rfl | rfl | rfl | rfl | rfl | rfl | rfl | rfl | rfl | rfl | rfl | rfl | rfl | rfl | rfl | rfl <;> rfl
theorem cv1_Row {G : GT} {σ z : Nat} {H : Heap} (hF : GF 1 σ z G) (hP : ∀ q ∈ wPCI1 G σ, va_at G.1 gcl q H) : va_at G.1 gcl (gad G (8), en G (dI 1) (8)) H := by
  have hG := GF_ok hF (by decide)
  have hm := hP _ (mm1_Nt G σ (List.mem_append_left _ (List.mem_of_getElem? (i := 1) rfl)))
  rw [en, (F_Row G hG).2.2.2, (GF_gad hF _).trans (g1_Row σ z)]
  refine at_cgR (fun j hj => ?_) hm
  show rwF (σ + 4) 60 j = some (gad G ((dI 1 8 j).toNatClampNeg + 420))
  rw [dI_Row, nI_clamp (by omega), show gad G (j + 420) = _ from (GF_gad hF _).trans (g1_Msg σ z hj)]
  exact if_pos hj
theorem cv1_PC {G : GT} {σ z : Nat} {H : Heap} (hF : GF 1 σ z G) (hP : ∀ q ∈ wPCI1 G σ, va_at G.1 gcl q H) : va_at G.1 gcl (gad G (0), en G (dI 1) (0)) H := by
  have hG := GF_ok hF (by decide)
  have hm := hP _ ((List.mem_append_left _ (List.mem_of_getElem? (i := 0) rfl)))
  rw [en, (F_PC G hG).2, (GF_gad hF _).trans (g1_PC σ z)]
  unfold fsPC
  rw [show gad G (1) = _ from (GF_gad hF _).trans (g1_Stores σ z), show gad G (2) = _ from (GF_gad hF _).trans (g1_Accs σ z), show gad G (3) = _ from (GF_gad hF _).trans (g1_Leds σ z), show gad G (4) = _ from (GF_gad hF _).trans (g1_UpS σ z), show gad G (5) = _ from (GF_gad hF _).trans (g1_Net σ z), show gad G (6) = _ from (GF_gad hF _).trans (g1_Mem σ z), show gad G (7) = _ from (GF_gad hF _).trans (g1_Clo σ z)]
  exact hm
theorem cv1_Net {G : GT} {σ z : Nat} {H : Heap} (hF : GF 1 σ z G) (hP : ∀ q ∈ wPCI1 G σ, va_at G.1 gcl q H) : va_at G.1 gcl (gad G (5), en G (dI 1) (5)) H := by
  have hG := GF_ok hF (by decide)
  have hm := hP _ (mm1_Nt G σ (List.mem_append_left _ (List.mem_of_getElem? (i := 0) rfl)))
  rw [en, (F_Net G hG).2, (GF_gad hF _).trans (g1_Net σ z)]
  unfold fsNet
  rw [show gad G (8) = _ from (GF_gad hF _).trans (g1_Row σ z), show gad G (480) = _ from (GF_gad hF _).trans (g1_Msg60 σ z), show gad G (481) = _ from (GF_gad hF _).trans (g1_Msg61 σ z)]
  exact hm
theorem cv1_Store {G : GT} {σ z : Nat} {H : Heap} (hF : GF 1 σ z G) (hP : ∀ q ∈ wPCI1 G σ, va_at G.1 gcl q H) {i0 : Nat} (h0 : i0 < 3) : va_at G.1 gcl (gad G (i0 + 10), en G (dI 1) (i0 + 10)) H := by
  have hG := GF_ok hF (by decide)
  have hm := hP _ (mm1_St G σ h0 (List.mem_of_getElem? (i := 0) rfl))
  rw [en, (F_Store G hG h0).2, (GF_gad hF _).trans (g1_Store σ z h0)]
  show va_at G.1 gcl (_, .inr (iStore, [.ref (gad G (i0 + 20)), .ref (gad G (i0 + 30)), .ref (gad G (i0 + 40)), .ref (gad G (i0 + 50)), .ref (gad G (i0 + 60))])) H
  rw [show gad G (i0 + 20) = _ from (GF_gad hF _).trans (g1_Val σ z h0), show gad G (i0 + 30) = _ from (GF_gad hF _).trans (g1_Loc σ z h0), show gad G (i0 + 40) = _ from (GF_gad hF _).trans (g1_Sta σ z h0), show gad G (i0 + 50) = _ from (GF_gad hF _).trans (g1_Wrt σ z h0), show gad G (i0 + 60) = _ from (GF_gad hF _).trans (g1_Wrs σ z h0)]
  exact hm
theorem cv1_Acc {G : GT} {σ z : Nat} {H : Heap} (hF : GF 1 σ z G) (hP : ∀ q ∈ wPCI1 G σ, va_at G.1 gcl q H) {i0 : Nat} (h0 : i0 < 1) : va_at G.1 gcl (gad G (i0 + 100), en G (dI 1) (i0 + 100)) H := by
  have hG := GF_ok hF (by decide)
  have hm := hP _ (mm1_Ac G σ h0 (List.mem_of_getElem? (i := 0) rfl))
  rw [en, (F_Acc G hG (by rw [hF.2.1]; exact h0)).2, (GF_gad hF _).trans (g1_Acc σ z h0)]
  show va_at G.1 gcl (_, .inr (iAcc, [.ref (gad G (i0 + 110)), .ref (gad G (i0 + 120))])) H
  rw [show gad G (i0 + 110) = _ from (GF_gad hF _).trans (g1_Pro σ z h0), show gad G (i0 + 120) = _ from (GF_gad hF _).trans (g1_Tak σ z h0)]
  exact hm
theorem cv1_Led {G : GT} {σ z : Nat} {H : Heap} (hF : GF 1 σ z G) (hP : ∀ q ∈ wPCI1 G σ, va_at G.1 gcl q H) {i0 : Nat} (h0 : i0 < 16) : va_at G.1 gcl (gad G (i0 + 200), en G (dI 1) (i0 + 200)) H := by
  have hG := GF_ok hF (by decide)
  have hm := hP _ (mm1_Le G σ h0 (List.mem_of_getElem? (i := 0) rfl))
  rw [en, (F_Led G hG h0).2, (GF_gad hF _).trans (g1_Led σ z h0)]
  show va_at G.1 gcl (_, .inr (iLed, [.int (dI 1 (i0 + 200) 0), .int (dI 1 (i0 + 200) 1), .int (dI 1 (i0 + 200) 2), .ref (gad G (i0 + 220)), .ref (gad G (i0 + 240)), .ref (gad G (i0 + 260))])) H
  rw [show gad G (i0 + 220) = _ from (GF_gad hF _).trans (g1_HR σ z h0), show gad G (i0 + 240) = _ from (GF_gad hF _).trans (g1_Rpl σ z h0), show gad G (i0 + 260) = _ from (GF_gad hF _).trans (g1_Lat σ z h0), dI_Led h0 0, dI_Led h0 1, dI_Led h0 2]
  exact hm
theorem cv1_Msg {G : GT} {σ z : Nat} {H : Heap} (hF : GF 1 σ z G) (hP : ∀ q ∈ wPCI1 G σ, va_at G.1 gcl q H) {i0 : Nat} (h0 : i0 < 62) : va_at G.1 gcl (gad G (i0 + 420), en G (dI 1) (i0 + 420)) H := by
  have hG := GF_ok hF (by decide)
  rw [en, (F_Msg G hG h0).2]
  show va_at G.1 gcl (_, .inr (iMsg, [.int (dI 1 (i0 + 420) 0), .int (dI 1 (i0 + 420) 1), .int (dI 1 (i0 + 420) 2), .int (dI 1 (i0 + 420) 3), .int (dI 1 (i0 + 420) 4), .int (dI 1 (i0 + 420) 5), .int (dI 1 (i0 + 420) 6), .ref (gad G (i0 + 490))])) H
  rw [dI_Msg h0 0, dI_Msg h0 1, dI_Msg h0 2, dI_Msg h0 3, dI_Msg h0 4, dI_Msg h0 5, dI_Msg h0 6]
  rcases (by omega : i0 < 60 ∨ i0 = 60 ∨ i0 = 61) with hj | rfl | rfl
  · have hm := hP _ (mm1_Ms G σ hj (List.mem_of_getElem? (i := 0) rfl))
    rw [show gad G (i0 + 490) = _ from (GF_gad hF _).trans (g1_Rep σ z hj), show gad G (i0 + 420) = _ from (GF_gad hF _).trans (g1_Msg σ z hj)]
    exact hm
  · have hm := hP _ (mm1_M60 G σ (List.mem_of_getElem? (i := 0) rfl))
    rw [show gad G (60 + 490) = _ from (GF_gad hF _).trans (g1_Rep60 σ z), show gad G (60 + 420) = _ from (GF_gad hF _).trans (g1_Msg60 σ z)]
    exact hm
  · have hm := hP _ (mm1_M61 G σ (List.mem_of_getElem? (i := 0) rfl))
    rw [show gad G (61 + 490) = _ from (GF_gad hF _).trans (g1_Rep61 σ z), show gad G (61 + 420) = _ from (GF_gad hF _).trans (g1_Msg61 σ z)]
    exact hm
theorem cv1_Rep {G : GT} {σ z : Nat} {H : Heap} (hF : GF 1 σ z G) (hP : ∀ q ∈ wPCI1 G σ, va_at G.1 gcl q H) {i0 : Nat} (h0 : i0 < 62) : va_at G.1 gcl (gad G (i0 + 490), en G (dI 1) (i0 + 490)) H := by
  have hG := GF_ok hF (by decide)
  rw [en, (F_Rep G hG h0).2.2]
  rcases (by omega : i0 < 60 ∨ i0 = 60 ∨ i0 = 61) with hj9 | rfl | rfl
  · have hm := hP _ (mm1_Ms G σ hj9 (List.mem_of_getElem? (i := 1) rfl))
    rw [show gad G (i0 + 490) = _ from (GF_gad hF _).trans (g1_Rep σ z hj9)]
    exact at_cgI (fun j hj => by rw [dI_Rep h0 j]) hm
  · have hm := hP _ (mm1_M60 G σ (List.mem_of_getElem? (i := 1) rfl))
    rw [show gad G (60 + 490) = _ from (GF_gad hF _).trans (g1_Rep60 σ z)]
    exact at_cgI (fun j hj => by rw [dI_Rep h0 j]) hm
  · have hm := hP _ (mm1_M61 G σ (List.mem_of_getElem? (i := 1) rfl))
    rw [show gad G (61 + 490) = _ from (GF_gad hF _).trans (g1_Rep61 σ z)]
    exact at_cgI (fun j hj => by rw [dI_Rep h0 j]) hm
set_option maxRecDepth 100000 in
theorem cv1 {G : GT} {σ z : Nat} {H : Heap} (hF : GF 1 σ z G) (hP : ∀ q ∈ wPCI1 G σ, va_at G.1 gcl q H) {c : Nat} (hc : okc 1 c) (h9 : ¬ c = 9) (h6 : c < 600) : va_at G.1 gcl (gad G c, en G (dI 1) c) H := by
  unfold okc at hc
  rcases hc with h | h | h | h | h | h | h | h | h | h | h | h | h | h | h | h | h | h | h | h | h | h | h | h | h | h | h | h | h | h | h | h | h | h | h | h | h | h | h | h | h | h | h | h | h | h | h | h | h | h | h | h | h
  · subst h; exact cv1_PC hF hP
  · subst h; exact cv1_Stores hF hP
  · subst h; exact cv1_Accs hF hP
  · subst h; exact cv1_Leds hF hP
  · subst h; exact cv1_UpS hF hP
  · subst h; exact cv1_Net hF hP
  · subst h; exact cv1_Mem hF hP
  · subst h; exact cv1_Clo hF hP
  · subst h; exact cv1_Row hF hP
  · exact absurd h h9
  · obtain ⟨i0, h0, rfl⟩ : ∃ i0, i0 < 3 ∧ c = i0 + 10 := ⟨c - 10, by omega, by omega⟩; exact cv1_Store hF hP h0
  · obtain ⟨i0, h0, rfl⟩ : ∃ i0, i0 < 3 ∧ c = i0 + 20 := ⟨c - 20, by omega, by omega⟩; exact cv1_Val hF hP h0
  · obtain ⟨i0, h0, rfl⟩ : ∃ i0, i0 < 3 ∧ c = i0 + 30 := ⟨c - 30, by omega, by omega⟩; exact cv1_Loc hF hP h0
  · obtain ⟨i0, h0, rfl⟩ : ∃ i0, i0 < 3 ∧ c = i0 + 40 := ⟨c - 40, by omega, by omega⟩; exact cv1_Sta hF hP h0
  · obtain ⟨i0, h0, rfl⟩ : ∃ i0, i0 < 3 ∧ c = i0 + 50 := ⟨c - 50, by omega, by omega⟩; exact cv1_Wrt hF hP h0
  · obtain ⟨i0, h0, rfl⟩ : ∃ i0, i0 < 3 ∧ c = i0 + 60 := ⟨c - 60, by omega, by omega⟩; exact cv1_Wrs hF hP h0
  · obtain ⟨i0, i1, h0, h1, rfl⟩ : ∃ i0 i1, i0 < 3 ∧ i1 < 8 ∧ c = 8 * i0 + i1 + 70 := ⟨(c - 70) / 8, (c - 70) % 8, by omega, by omega, by omega⟩; exact cv1_Wr hF hP h0 h1
  · obtain ⟨i0, h0, rfl⟩ : ∃ i0, i0 < 1 ∧ c = i0 + 100 := ⟨c - 100, by omega, by omega⟩; exact cv1_Acc hF hP h0
  · obtain ⟨i0, h0, rfl⟩ : ∃ i0, i0 < 1 ∧ c = i0 + 110 := ⟨c - 110, by omega, by omega⟩; exact cv1_Pro hF hP h0
  · obtain ⟨i0, h0, rfl⟩ : ∃ i0, i0 < 1 ∧ c = i0 + 120 := ⟨c - 120, by omega, by omega⟩; exact cv1_Tak hF hP h0
  · obtain ⟨i0, i1, h0, h1, rfl⟩ : ∃ i0 i1, i0 < 1 ∧ i1 < 8 ∧ c = 8 * i0 + i1 + 130 := ⟨(c - 130) / 8, (c - 130) % 8, by omega, by omega, by omega⟩; exact cv1_PrR hF hP h0 h1
  · obtain ⟨i0, i1, h0, h1, rfl⟩ : ∃ i0 i1, i0 < 1 ∧ i1 < 8 ∧ c = 8 * i0 + i1 + 160 := ⟨(c - 160) / 8, (c - 160) % 8, by omega, by omega, by omega⟩; exact cv1_TkR hF hP h0 h1
  · obtain ⟨i0, h0, rfl⟩ : ∃ i0, i0 < 16 ∧ c = i0 + 200 := ⟨c - 200, by omega, by omega⟩; exact cv1_Led hF hP h0
  · obtain ⟨i0, h0, rfl⟩ : ∃ i0, i0 < 16 ∧ c = i0 + 220 := ⟨c - 220, by omega, by omega⟩; exact cv1_HR hF hP h0
  · obtain ⟨i0, h0, rfl⟩ : ∃ i0, i0 < 16 ∧ c = i0 + 240 := ⟨c - 240, by omega, by omega⟩; exact cv1_Rpl hF hP h0
  · obtain ⟨i0, h0, rfl⟩ : ∃ i0, i0 < 16 ∧ c = i0 + 260 := ⟨c - 260, by omega, by omega⟩; exact cv1_Lat hF hP h0
  · obtain ⟨i0, i1, h0, h1, rfl⟩ : ∃ i0 i1, i0 < 16 ∧ i1 < 1 ∧ c = 4 * i0 + i1 + 280 := ⟨(c - 280) / 4, (c - 280) % 4, by omega, by omega, by omega⟩; exact cv1_RpR hF hP h0 h1
  · obtain ⟨i0, i1, h0, h1, rfl⟩ : ∃ i0 i1, i0 < 16 ∧ i1 < 1 ∧ c = 4 * i0 + i1 + 350 := ⟨(c - 350) / 4, (c - 350) % 4, by omega, by omega, by omega⟩; exact cv1_LtR hF hP h0 h1
  · obtain ⟨i0, h0, rfl⟩ : ∃ i0, i0 < 62 ∧ c = i0 + 420 := ⟨c - 420, by omega, by omega⟩; exact cv1_Msg hF hP h0
  · obtain ⟨i0, h0, rfl⟩ : ∃ i0, i0 < 62 ∧ c = i0 + 490 := ⟨c - 490, by omega, by omega⟩; exact cv1_Rep hF hP h0
  · omega
  · omega
  · omega
  · omega
  · omega
  · omega
  · omega
  · omega
  · omega
  · omega
  · omega
  · omega
  · omega
  · omega
  · omega
  · omega
  · omega
  · omega
  · omega
  · omega
  · omega
  · omega
  · omega
theorem mm3_St (G : GT) (σ : Nat) {s : Nat} (hs : s < 3) {q : Nat × va_E} (hq : q ∈ wStoreI G (σ + 133 + 14 * s)) : q ∈ wPCI3 G σ := by
  unfold wPCI3
  rcases (by omega : s = 0 ∨ s = 1 ∨ s = 2) with rfl | rfl | rfl
  · exact List.mem_append_right _ (List.mem_append_left _ (List.mem_append_left _ (List.mem_append_left _ (List.mem_append_left _ (List.mem_append_left _ (List.mem_append_left _ (List.mem_append_left _ (List.mem_append_left _ (List.mem_append_left _ (List.mem_append_left _ (List.mem_append_left _ (List.mem_append_left _ (List.mem_append_left _ (List.mem_append_left _ (List.mem_append_left _ (List.mem_append_left _ (List.mem_append_left _ (List.mem_append_left _ (List.mem_append_left _ (List.mem_append_left _ (List.mem_append_left _ (List.mem_append_right _ hq))))))))))))))))))))))
  · exact List.mem_append_right _ (List.mem_append_left _ (List.mem_append_left _ (List.mem_append_left _ (List.mem_append_left _ (List.mem_append_left _ (List.mem_append_left _ (List.mem_append_left _ (List.mem_append_left _ (List.mem_append_left _ (List.mem_append_left _ (List.mem_append_left _ (List.mem_append_left _ (List.mem_append_left _ (List.mem_append_left _ (List.mem_append_left _ (List.mem_append_left _ (List.mem_append_left _ (List.mem_append_left _ (List.mem_append_left _ (List.mem_append_left _ (List.mem_append_right _ hq)))))))))))))))))))))
  · exact List.mem_append_right _ (List.mem_append_left _ (List.mem_append_left _ (List.mem_append_left _ (List.mem_append_left _ (List.mem_append_left _ (List.mem_append_left _ (List.mem_append_left _ (List.mem_append_left _ (List.mem_append_left _ (List.mem_append_left _ (List.mem_append_left _ (List.mem_append_left _ (List.mem_append_left _ (List.mem_append_left _ (List.mem_append_left _ (List.mem_append_left _ (List.mem_append_left _ (List.mem_append_left _ (List.mem_append_left _ (List.mem_append_right _ hq))))))))))))))))))))
theorem mm3_Ac (G : GT) (σ : Nat) {s : Nat} (hs : s < 3) {q : Nat × va_E} (hq : q ∈ wAccI G (σ + 175 + 19 * s)) : q ∈ wPCI3 G σ := by
  unfold wPCI3
  rcases (by omega : s = 0 ∨ s = 1 ∨ s = 2) with rfl | rfl | rfl
  · exact List.mem_append_right _ (List.mem_append_left _ (List.mem_append_left _ (List.mem_append_left _ (List.mem_append_left _ (List.mem_append_left _ (List.mem_append_left _ (List.mem_append_left _ (List.mem_append_left _ (List.mem_append_left _ (List.mem_append_left _ (List.mem_append_left _ (List.mem_append_left _ (List.mem_append_left _ (List.mem_append_left _ (List.mem_append_left _ (List.mem_append_left _ (List.mem_append_left _ (List.mem_append_left _ (List.mem_append_right _ hq)))))))))))))))))))
  · exact List.mem_append_right _ (List.mem_append_left _ (List.mem_append_left _ (List.mem_append_left _ (List.mem_append_left _ (List.mem_append_left _ (List.mem_append_left _ (List.mem_append_left _ (List.mem_append_left _ (List.mem_append_left _ (List.mem_append_left _ (List.mem_append_left _ (List.mem_append_left _ (List.mem_append_left _ (List.mem_append_left _ (List.mem_append_left _ (List.mem_append_left _ (List.mem_append_left _ (List.mem_append_right _ hq))))))))))))))))))
  · exact List.mem_append_right _ (List.mem_append_left _ (List.mem_append_left _ (List.mem_append_left _ (List.mem_append_left _ (List.mem_append_left _ (List.mem_append_left _ (List.mem_append_left _ (List.mem_append_left _ (List.mem_append_left _ (List.mem_append_left _ (List.mem_append_left _ (List.mem_append_left _ (List.mem_append_left _ (List.mem_append_left _ (List.mem_append_left _ (List.mem_append_left _ (List.mem_append_right _ hq)))))))))))))))))
theorem mm3_Le (G : GT) (σ : Nat) {s : Nat} (hs : s < 16) {q : Nat × va_E} (hq : q ∈ wLedI3 G (σ + 232 + 10 * s)) : q ∈ wPCI3 G σ := by
  unfold wPCI3
  rcases (by omega : s = 0 ∨ s = 1 ∨ s = 2 ∨ s = 3 ∨ s = 4 ∨ s = 5 ∨ s = 6 ∨ s = 7 ∨ s = 8 ∨ s = 9 ∨ s = 10 ∨ s = 11 ∨ s = 12 ∨ s = 13 ∨ s = 14 ∨ s = 15) with rfl | rfl | rfl | rfl | rfl | rfl | rfl | rfl | rfl | rfl | rfl | rfl | rfl | rfl | rfl | rfl
  · exact List.mem_append_right _ (List.mem_append_left _ (List.mem_append_left _ (List.mem_append_left _ (List.mem_append_left _ (List.mem_append_left _ (List.mem_append_left _ (List.mem_append_left _ (List.mem_append_left _ (List.mem_append_left _ (List.mem_append_left _ (List.mem_append_left _ (List.mem_append_left _ (List.mem_append_left _ (List.mem_append_left _ (List.mem_append_left _ (List.mem_append_right _ hq))))))))))))))))
  · exact List.mem_append_right _ (List.mem_append_left _ (List.mem_append_left _ (List.mem_append_left _ (List.mem_append_left _ (List.mem_append_left _ (List.mem_append_left _ (List.mem_append_left _ (List.mem_append_left _ (List.mem_append_left _ (List.mem_append_left _ (List.mem_append_left _ (List.mem_append_left _ (List.mem_append_left _ (List.mem_append_left _ (List.mem_append_right _ hq)))))))))))))))
  · exact List.mem_append_right _ (List.mem_append_left _ (List.mem_append_left _ (List.mem_append_left _ (List.mem_append_left _ (List.mem_append_left _ (List.mem_append_left _ (List.mem_append_left _ (List.mem_append_left _ (List.mem_append_left _ (List.mem_append_left _ (List.mem_append_left _ (List.mem_append_left _ (List.mem_append_left _ (List.mem_append_right _ hq))))))))))))))
  · exact List.mem_append_right _ (List.mem_append_left _ (List.mem_append_left _ (List.mem_append_left _ (List.mem_append_left _ (List.mem_append_left _ (List.mem_append_left _ (List.mem_append_left _ (List.mem_append_left _ (List.mem_append_left _ (List.mem_append_left _ (List.mem_append_left _ (List.mem_append_left _ (List.mem_append_right _ hq)))))))))))))
  · exact List.mem_append_right _ (List.mem_append_left _ (List.mem_append_left _ (List.mem_append_left _ (List.mem_append_left _ (List.mem_append_left _ (List.mem_append_left _ (List.mem_append_left _ (List.mem_append_left _ (List.mem_append_left _ (List.mem_append_left _ (List.mem_append_left _ (List.mem_append_right _ hq))))))))))))
  · exact List.mem_append_right _ (List.mem_append_left _ (List.mem_append_left _ (List.mem_append_left _ (List.mem_append_left _ (List.mem_append_left _ (List.mem_append_left _ (List.mem_append_left _ (List.mem_append_left _ (List.mem_append_left _ (List.mem_append_left _ (List.mem_append_right _ hq)))))))))))
  · exact List.mem_append_right _ (List.mem_append_left _ (List.mem_append_left _ (List.mem_append_left _ (List.mem_append_left _ (List.mem_append_left _ (List.mem_append_left _ (List.mem_append_left _ (List.mem_append_left _ (List.mem_append_left _ (List.mem_append_right _ hq))))))))))
  · exact List.mem_append_right _ (List.mem_append_left _ (List.mem_append_left _ (List.mem_append_left _ (List.mem_append_left _ (List.mem_append_left _ (List.mem_append_left _ (List.mem_append_left _ (List.mem_append_left _ (List.mem_append_right _ hq)))))))))
  · exact List.mem_append_right _ (List.mem_append_left _ (List.mem_append_left _ (List.mem_append_left _ (List.mem_append_left _ (List.mem_append_left _ (List.mem_append_left _ (List.mem_append_left _ (List.mem_append_right _ hq))))))))
  · exact List.mem_append_right _ (List.mem_append_left _ (List.mem_append_left _ (List.mem_append_left _ (List.mem_append_left _ (List.mem_append_left _ (List.mem_append_left _ (List.mem_append_right _ hq)))))))
  · exact List.mem_append_right _ (List.mem_append_left _ (List.mem_append_left _ (List.mem_append_left _ (List.mem_append_left _ (List.mem_append_left _ (List.mem_append_right _ hq))))))
  · exact List.mem_append_right _ (List.mem_append_left _ (List.mem_append_left _ (List.mem_append_left _ (List.mem_append_left _ (List.mem_append_right _ hq)))))
  · exact List.mem_append_right _ (List.mem_append_left _ (List.mem_append_left _ (List.mem_append_left _ (List.mem_append_right _ hq))))
  · exact List.mem_append_right _ (List.mem_append_left _ (List.mem_append_left _ (List.mem_append_right _ hq)))
  · exact List.mem_append_right _ (List.mem_append_left _ (List.mem_append_right _ hq))
  · exact List.mem_append_right _ (List.mem_append_right _ hq)
theorem mm3_Nt (G : GT) (σ : Nat) {q : Nat × va_E} (hq : q ∈ wNetI G (σ + 4)) : q ∈ wPCI3 G σ := by
  unfold wPCI3
  exact List.mem_append_right _ (List.mem_append_left _ (List.mem_append_left _ (List.mem_append_left _ (List.mem_append_left _ (List.mem_append_left _ (List.mem_append_left _ (List.mem_append_left _ (List.mem_append_left _ (List.mem_append_left _ (List.mem_append_left _ (List.mem_append_left _ (List.mem_append_left _ (List.mem_append_left _ (List.mem_append_left _ (List.mem_append_left _ (List.mem_append_left _ (List.mem_append_left _ (List.mem_append_left _ (List.mem_append_left _ (List.mem_append_left _ (List.mem_append_left _ (List.mem_append_left _ (hq)))))))))))))))))))))))
theorem mm3_Ms (G : GT) (σ : Nat) {j : Nat} (hj : j < 60) {q : Nat × va_E} (hq : q ∈ wMsgI G (σ + 4 + 6 + 2 * j)) : q ∈ wPCI3 G σ :=
  mm3_Nt G σ (List.mem_append_right _ (List.mem_append_right _ (List.mem_flatMap.mpr ⟨j, List.mem_range.mpr hj, hq⟩)))
theorem mm3_M60 (G : GT) (σ : Nat) {q : Nat × va_E} (hq : q ∈ wMsgI G (σ + 4 + 2)) : q ∈ wPCI3 G σ :=
  mm3_Nt G σ (List.mem_append_right _ (List.mem_append_left _ (List.mem_append_left _ hq)))
theorem mm3_M61 (G : GT) (σ : Nat) {q : Nat × va_E} (hq : q ∈ wMsgI G (σ + 4 + 4)) : q ∈ wPCI3 G σ :=
  mm3_Nt G σ (List.mem_append_right _ (List.mem_append_left _ (List.mem_append_right _ hq)))
theorem cv3_Mem {G : GT} {σ z : Nat} {H : Heap} (hF : GF 3 σ z G) (hP : ∀ q ∈ wPCI3 G σ, va_at G.1 gcl q H)  : va_at G.1 gcl (gad G (6), en G (dI 3) (6)) H := by
  have hG := GF_ok hF (by decide)
  have hm := hP _ ((List.mem_append_left _ (List.mem_of_getElem? (i := 4) rfl)))
  rw [en, (F_Mem G hG ).2.2, (GF_gad hF _).trans (g3_Mem σ z)]
  exact at_cgI (fun j hj => by rw [dI_Mem  j]) hm
theorem cv3_Clo {G : GT} {σ z : Nat} {H : Heap} (hF : GF 3 σ z G) (hP : ∀ q ∈ wPCI3 G σ, va_at G.1 gcl q H)  : va_at G.1 gcl (gad G (7), en G (dI 3) (7)) H := by
  have hG := GF_ok hF (by decide)
  have hm := hP _ ((List.mem_append_left _ (List.mem_of_getElem? (i := 5) rfl)))
  rw [en, (F_Clo G hG ).2.2, (GF_gad hF _).trans (g3_Clo σ z)]
  exact at_cgI (fun j hj => by rw [dI_Clo  j]) hm
theorem cv3_UpS {G : GT} {σ z : Nat} {H : Heap} (hF : GF 3 σ z G) (hP : ∀ q ∈ wPCI3 G σ, va_at G.1 gcl q H)  : va_at G.1 gcl (gad G (4), en G (dI 3) (4)) H := by
  have hG := GF_ok hF (by decide)
  have hm := hP _ ((List.mem_append_left _ (List.mem_of_getElem? (i := 3) rfl)))
  rw [en, (F_UpS G hG ).2.2, (GF_gad hF _).trans (g3_UpS σ z)]
  exact at_cgI (fun j hj => by rw [dI_UpS  j]; rcases (by omega : j = 0 ∨ j = 1 ∨ j = 2) with rfl | rfl | rfl <;> decide) hm
theorem cv3_Val {G : GT} {σ z : Nat} {H : Heap} (hF : GF 3 σ z G) (hP : ∀ q ∈ wPCI3 G σ, va_at G.1 gcl q H) {i0 : Nat} (h0 : i0 < 3) : va_at G.1 gcl (gad G (i0 + 20), en G (dI 3) (i0 + 20)) H := by
  have hG := GF_ok hF (by decide)
  have hm := hP _ (mm3_St G σ h0 (List.mem_of_getElem? (i := 1) rfl))
  rw [en, (F_Val G hG h0).2.2, (GF_gad hF _).trans (g3_Val σ z h0)]
  exact at_cgI (fun j hj => by rw [dI_Val h0 j]) hm
theorem cv3_Loc {G : GT} {σ z : Nat} {H : Heap} (hF : GF 3 σ z G) (hP : ∀ q ∈ wPCI3 G σ, va_at G.1 gcl q H) {i0 : Nat} (h0 : i0 < 3) : va_at G.1 gcl (gad G (i0 + 30), en G (dI 3) (i0 + 30)) H := by
  have hG := GF_ok hF (by decide)
  have hm := hP _ (mm3_St G σ h0 (List.mem_of_getElem? (i := 2) rfl))
  rw [en, (F_Loc G hG h0).2.2, (GF_gad hF _).trans (g3_Loc σ z h0)]
  exact at_cgI (fun j hj => by rw [dI_Loc h0 j]; exact if_pos hj) hm
theorem cv3_Sta {G : GT} {σ z : Nat} {H : Heap} (hF : GF 3 σ z G) (hP : ∀ q ∈ wPCI3 G σ, va_at G.1 gcl q H) {i0 : Nat} (h0 : i0 < 3) : va_at G.1 gcl (gad G (i0 + 40), en G (dI 3) (i0 + 40)) H := by
  have hG := GF_ok hF (by decide)
  have hm := hP _ (mm3_St G σ h0 (List.mem_of_getElem? (i := 3) rfl))
  rw [en, (F_Sta G hG h0).2.2, (GF_gad hF _).trans (g3_Sta σ z h0)]
  exact at_cgI (fun j hj => by rw [dI_Sta h0 j]) hm
theorem cv3_Wrt {G : GT} {σ z : Nat} {H : Heap} (hF : GF 3 σ z G) (hP : ∀ q ∈ wPCI3 G σ, va_at G.1 gcl q H) {i0 : Nat} (h0 : i0 < 3) : va_at G.1 gcl (gad G (i0 + 50), en G (dI 3) (i0 + 50)) H := by
  have hG := GF_ok hF (by decide)
  have hm := hP _ (mm3_St G σ h0 (List.mem_of_getElem? (i := 4) rfl))
  rw [en, (F_Wrt G hG h0).2.2, (GF_gad hF _).trans (g3_Wrt σ z h0)]
  exact at_cgI (fun j hj => by rw [dI_Wrt h0 j]) hm
theorem cv3_Wr {G : GT} {σ z : Nat} {H : Heap} (hF : GF 3 σ z G) (hP : ∀ q ∈ wPCI3 G σ, va_at G.1 gcl q H) {i0 i1 : Nat} (h0 : i0 < 3) (h1 : i1 < 8) : va_at G.1 gcl (gad G (8 * i0 + i1 + 70), en G (dI 3) (8 * i0 + i1 + 70)) H := by
  have hG := GF_ok hF (by decide)
  rw [en, (F_Wr G hG h0 h1).2.2, (GF_gad hF _).trans (g3_Wr σ z h0 h1)]
  have hd : ∀ j, dI 3 (8 * i0 + i1 + 70) j = _ := dI_Wr h0 h1
  rcases (by omega : i1 = 0 ∨ i1 = 1 ∨ i1 = 2 ∨ i1 = 3 ∨ i1 = 4 ∨ i1 = 5 ∨ i1 = 6 ∨ i1 = 7) with rfl | rfl | rfl | rfl | rfl | rfl | rfl | rfl
  · exact at_cgI (fun j hj => by rw [hd j]) (hP _ (mm3_St G σ h0 (List.mem_of_getElem? (i := 6) rfl)))
  · exact at_cgI (fun j hj => by rw [hd j]) (hP _ (mm3_St G σ h0 (List.mem_of_getElem? (i := 7) rfl)))
  · exact at_cgI (fun j hj => by rw [hd j]) (hP _ (mm3_St G σ h0 (List.mem_of_getElem? (i := 8) rfl)))
  · exact at_cgI (fun j hj => by rw [hd j]) (hP _ (mm3_St G σ h0 (List.mem_of_getElem? (i := 9) rfl)))
  · exact at_cgI (fun j hj => by rw [hd j]) (hP _ (mm3_St G σ h0 (List.mem_of_getElem? (i := 10) rfl)))
  · exact at_cgI (fun j hj => by rw [hd j]) (hP _ (mm3_St G σ h0 (List.mem_of_getElem? (i := 11) rfl)))
  · exact at_cgI (fun j hj => by rw [hd j]) (hP _ (mm3_St G σ h0 (List.mem_of_getElem? (i := 12) rfl)))
  · exact at_cgI (fun j hj => by rw [hd j]) (hP _ (mm3_St G σ h0 (List.mem_of_getElem? (i := 13) rfl)))
theorem cv3_PrR {G : GT} {σ z : Nat} {H : Heap} (hF : GF 3 σ z G) (hP : ∀ q ∈ wPCI3 G σ, va_at G.1 gcl q H) {i0 i1 : Nat} (h0 : i0 < 3) (h1 : i1 < 8) : va_at G.1 gcl (gad G (8 * i0 + i1 + 130), en G (dI 3) (8 * i0 + i1 + 130)) H := by
  have hG := GF_ok hF (by decide)
  rw [en, (F_PrR G hG (by rw [hF.2.1]; exact h0) h1).2.2, (GF_gad hF _).trans (g3_PrR σ z h0 h1)]
  have hd : ∀ j, dI 3 (8 * i0 + i1 + 130) j = _ := dI_PrR (by decide) h0 h1
  rcases (by omega : i1 = 0 ∨ i1 = 1 ∨ i1 = 2 ∨ i1 = 3 ∨ i1 = 4 ∨ i1 = 5 ∨ i1 = 6 ∨ i1 = 7) with rfl | rfl | rfl | rfl | rfl | rfl | rfl | rfl
  · exact at_cgI (fun j hj => by rw [hd j]) (hP _ (mm3_Ac G σ h0 (List.mem_of_getElem? (i := 2) rfl)))
  · exact at_cgI (fun j hj => by rw [hd j]) (hP _ (mm3_Ac G σ h0 (List.mem_of_getElem? (i := 3) rfl)))
  · exact at_cgI (fun j hj => by rw [hd j]) (hP _ (mm3_Ac G σ h0 (List.mem_of_getElem? (i := 4) rfl)))
  · exact at_cgI (fun j hj => by rw [hd j]) (hP _ (mm3_Ac G σ h0 (List.mem_of_getElem? (i := 5) rfl)))
  · exact at_cgI (fun j hj => by rw [hd j]) (hP _ (mm3_Ac G σ h0 (List.mem_of_getElem? (i := 6) rfl)))
  · exact at_cgI (fun j hj => by rw [hd j]) (hP _ (mm3_Ac G σ h0 (List.mem_of_getElem? (i := 7) rfl)))
  · exact at_cgI (fun j hj => by rw [hd j]) (hP _ (mm3_Ac G σ h0 (List.mem_of_getElem? (i := 8) rfl)))
  · exact at_cgI (fun j hj => by rw [hd j]) (hP _ (mm3_Ac G σ h0 (List.mem_of_getElem? (i := 9) rfl)))
theorem cv3_TkR {G : GT} {σ z : Nat} {H : Heap} (hF : GF 3 σ z G) (hP : ∀ q ∈ wPCI3 G σ, va_at G.1 gcl q H) {i0 i1 : Nat} (h0 : i0 < 3) (h1 : i1 < 8) : va_at G.1 gcl (gad G (8 * i0 + i1 + 160), en G (dI 3) (8 * i0 + i1 + 160)) H := by
  have hG := GF_ok hF (by decide)
  rw [en, (F_TkR G hG (by rw [hF.2.1]; exact h0) h1).2.2, (GF_gad hF _).trans (g3_TkR σ z h0 h1)]
  have hd : ∀ j, dI 3 (8 * i0 + i1 + 160) j = _ := dI_TkR (by decide) h0 h1
  rcases (by omega : i1 = 0 ∨ i1 = 1 ∨ i1 = 2 ∨ i1 = 3 ∨ i1 = 4 ∨ i1 = 5 ∨ i1 = 6 ∨ i1 = 7) with rfl | rfl | rfl | rfl | rfl | rfl | rfl | rfl
  · exact at_cgI (fun j hj => by rw [hd j]; exact if_pos hj) (hP _ (mm3_Ac G σ h0 (List.mem_of_getElem? (i := 11) rfl)))
  · exact at_cgI (fun j hj => by rw [hd j]; exact if_pos hj) (hP _ (mm3_Ac G σ h0 (List.mem_of_getElem? (i := 12) rfl)))
  · exact at_cgI (fun j hj => by rw [hd j]; exact if_pos hj) (hP _ (mm3_Ac G σ h0 (List.mem_of_getElem? (i := 13) rfl)))
  · exact at_cgI (fun j hj => by rw [hd j]; exact if_pos hj) (hP _ (mm3_Ac G σ h0 (List.mem_of_getElem? (i := 14) rfl)))
  · exact at_cgI (fun j hj => by rw [hd j]; exact if_pos hj) (hP _ (mm3_Ac G σ h0 (List.mem_of_getElem? (i := 15) rfl)))
  · exact at_cgI (fun j hj => by rw [hd j]; exact if_pos hj) (hP _ (mm3_Ac G σ h0 (List.mem_of_getElem? (i := 16) rfl)))
  · exact at_cgI (fun j hj => by rw [hd j]; exact if_pos hj) (hP _ (mm3_Ac G σ h0 (List.mem_of_getElem? (i := 17) rfl)))
  · exact at_cgI (fun j hj => by rw [hd j]; exact if_pos hj) (hP _ (mm3_Ac G σ h0 (List.mem_of_getElem? (i := 18) rfl)))
theorem cv3_RpR {G : GT} {σ z : Nat} {H : Heap} (hF : GF 3 σ z G) (hP : ∀ q ∈ wPCI3 G σ, va_at G.1 gcl q H) {i0 i1 : Nat} (h0 : i0 < 16) (h1 : i1 < 3) : va_at G.1 gcl (gad G (4 * i0 + i1 + 280), en G (dI 3) (4 * i0 + i1 + 280)) H := by
  have hG := GF_ok hF (by decide)
  rw [en, (F_RpR G hG h0 (by rw [hF.2.1]; exact h1)).2.2, (GF_gad hF _).trans (g3_RpR σ z h0 h1)]
  have hd : ∀ j, dI 3 (4 * i0 + i1 + 280) j = _ := dI_RpR (by decide) h0 h1
  rcases (by omega : i1 = 0 ∨ i1 = 1 ∨ i1 = 2) with rfl | rfl | rfl
  · exact at_cgI (fun j hj => by rw [hd j]) (hP _ (mm3_Le G σ h0 (List.mem_of_getElem? (i := 3) rfl)))
  · exact at_cgI (fun j hj => by rw [hd j]) (hP _ (mm3_Le G σ h0 (List.mem_of_getElem? (i := 4) rfl)))
  · exact at_cgI (fun j hj => by rw [hd j]) (hP _ (mm3_Le G σ h0 (List.mem_of_getElem? (i := 5) rfl)))
theorem cv3_LtR {G : GT} {σ z : Nat} {H : Heap} (hF : GF 3 σ z G) (hP : ∀ q ∈ wPCI3 G σ, va_at G.1 gcl q H) {i0 i1 : Nat} (h0 : i0 < 16) (h1 : i1 < 3) : va_at G.1 gcl (gad G (4 * i0 + i1 + 350), en G (dI 3) (4 * i0 + i1 + 350)) H := by
  have hG := GF_ok hF (by decide)
  rw [en, (F_LtR G hG h0 (by rw [hF.2.1]; exact h1)).2.2, (GF_gad hF _).trans (g3_LtR σ z h0 h1)]
  have hd : ∀ j, dI 3 (4 * i0 + i1 + 350) j = _ := dI_LtR (by decide) h0 h1
  rcases (by omega : i1 = 0 ∨ i1 = 1 ∨ i1 = 2) with rfl | rfl | rfl
  · exact at_cgI (fun j hj => by rw [hd j]; exact if_pos hj) (hP _ (mm3_Le G σ h0 (List.mem_of_getElem? (i := 7) rfl)))
  · exact at_cgI (fun j hj => by rw [hd j]; exact if_pos hj) (hP _ (mm3_Le G σ h0 (List.mem_of_getElem? (i := 8) rfl)))
  · exact at_cgI (fun j hj => by rw [hd j]; exact if_pos hj) (hP _ (mm3_Le G σ h0 (List.mem_of_getElem? (i := 9) rfl)))
theorem cv3_HR {G : GT} {σ z : Nat} {H : Heap} (hF : GF 3 σ z G) (hP : ∀ q ∈ wPCI3 G σ, va_at G.1 gcl q H) {i0 : Nat} (h0 : i0 < 16) : va_at G.1 gcl (gad G (i0 + 220), en G (dI 3) (i0 + 220)) H := by
  have hG := GF_ok hF (by decide)
  have hm := hP _ (mm3_Le G σ h0 (List.mem_of_getElem? (i := 1) rfl))
  rw [en, (F_HR G hG h0).2.2, hF.2.1, (GF_gad hF _).trans (g3_HR σ z h0)]
  exact at_cgI (fun j hj => by rw [dI_HR h0 j]) hm
theorem cv3_Wrs {G : GT} {σ z : Nat} {H : Heap} (hF : GF 3 σ z G) (hP : ∀ q ∈ wPCI3 G σ, va_at G.1 gcl q H) {i0 : Nat} (h0 : i0 < 3) : va_at G.1 gcl (gad G (i0 + 60), en G (dI 3) (i0 + 60)) H := by
  have hG := GF_ok hF (by decide)
  have hm := hP _ (mm3_St G σ h0 (List.mem_of_getElem? (i := 5) rfl))
  rw [en, (F_Wrs G hG h0).2.2, (GF_gad hF _).trans (g3_Wrs σ z h0)]
  exact at_cgR (fun j hj => by rw [if_pos hj]; exact congrArg some ((GF_gad hF _).trans (g3_Wr σ z h0 hj)).symm) hm
theorem cv3_Pro {G : GT} {σ z : Nat} {H : Heap} (hF : GF 3 σ z G) (hP : ∀ q ∈ wPCI3 G σ, va_at G.1 gcl q H) {i0 : Nat} (h0 : i0 < 3) : va_at G.1 gcl (gad G (i0 + 110), en G (dI 3) (i0 + 110)) H := by
  have hG := GF_ok hF (by decide)
  have hm := hP _ (mm3_Ac G σ h0 (List.mem_of_getElem? (i := 1) rfl))
  rw [en, (F_Pro G hG (by rw [hF.2.1]; exact h0)).2.2, (GF_gad hF _).trans (g3_Pro σ z h0)]
  exact at_cgR (fun j hj => by rw [if_pos hj]; exact congrArg some ((GF_gad hF _).trans (g3_PrR σ z h0 hj)).symm) hm
theorem cv3_Tak {G : GT} {σ z : Nat} {H : Heap} (hF : GF 3 σ z G) (hP : ∀ q ∈ wPCI3 G σ, va_at G.1 gcl q H) {i0 : Nat} (h0 : i0 < 3) : va_at G.1 gcl (gad G (i0 + 120), en G (dI 3) (i0 + 120)) H := by
  have hG := GF_ok hF (by decide)
  have hm := hP _ (mm3_Ac G σ h0 (List.mem_of_getElem? (i := 10) rfl))
  rw [en, (F_Tak G hG (by rw [hF.2.1]; exact h0)).2.2, (GF_gad hF _).trans (g3_Tak σ z h0)]
  exact at_cgR (fun j hj => by rw [if_pos hj]; exact congrArg some ((GF_gad hF _).trans (g3_TkR σ z h0 hj)).symm) hm
theorem cv3_Rpl {G : GT} {σ z : Nat} {H : Heap} (hF : GF 3 σ z G) (hP : ∀ q ∈ wPCI3 G σ, va_at G.1 gcl q H) {i0 : Nat} (h0 : i0 < 16) : va_at G.1 gcl (gad G (i0 + 240), en G (dI 3) (i0 + 240)) H := by
  have hG := GF_ok hF (by decide)
  have hm := hP _ (mm3_Le G σ h0 (List.mem_of_getElem? (i := 2) rfl))
  rw [en, (F_Rpl G hG h0).2.2, hF.2.1, (GF_gad hF _).trans (g3_Rpl σ z h0)]
  exact at_cgR (fun j hj => by rw [if_pos hj]; exact congrArg some ((GF_gad hF _).trans (g3_RpR σ z h0 hj)).symm) hm
theorem cv3_Lat {G : GT} {σ z : Nat} {H : Heap} (hF : GF 3 σ z G) (hP : ∀ q ∈ wPCI3 G σ, va_at G.1 gcl q H) {i0 : Nat} (h0 : i0 < 16) : va_at G.1 gcl (gad G (i0 + 260), en G (dI 3) (i0 + 260)) H := by
  have hG := GF_ok hF (by decide)
  have hm := hP _ (mm3_Le G σ h0 (List.mem_of_getElem? (i := 6) rfl))
  rw [en, (F_Lat G hG h0).2.2, hF.2.1, (GF_gad hF _).trans (g3_Lat σ z h0)]
  exact at_cgR (fun j hj => by rw [if_pos hj]; exact congrArg some ((GF_gad hF _).trans (g3_LtR σ z h0 hj)).symm) hm
theorem cv3_Stores {G : GT} {σ z : Nat} {H : Heap} (hF : GF 3 σ z G) (hP : ∀ q ∈ wPCI3 G σ, va_at G.1 gcl q H) : va_at G.1 gcl (gad G (1), en G (dI 3) (1)) H := by
  have hG := GF_ok hF (by decide)
  have hm := hP _ ((List.mem_append_left _ (List.mem_of_getElem? (i := 1) rfl)))
  rw [en, (F_Stores G hG).2.2.2, (GF_gad hF _).trans (g3_Stores σ z)]
  refine at_cgR (fun j hj => ?_) hm
  rw [show gad G (j + 10) = _ from (GF_gad hF _).trans (g3_Store σ z hj)]
  rcases (by omega : j = 0 ∨ j = 1 ∨ j = 2) with rfl | rfl | rfl <;> rfl
theorem cv3_Accs {G : GT} {σ z : Nat} {H : Heap} (hF : GF 3 σ z G) (hP : ∀ q ∈ wPCI3 G σ, va_at G.1 gcl q H) : va_at G.1 gcl (gad G (2), en G (dI 3) (2)) H := by
  have hG := GF_ok hF (by decide)
  have hm := hP _ ((List.mem_append_left _ (List.mem_of_getElem? (i := 6) rfl)))
  rw [en, (F_Accs G hG).2.2.2, hF.2.1, (GF_gad hF _).trans (g3_Accs σ z)]
  refine at_cgR (fun j hj => ?_) hm
  rw [show gad G (j + 100) = _ from (GF_gad hF _).trans (g3_Acc σ z hj)]
  rcases (by omega : j = 0 ∨ j = 1 ∨ j = 2) with rfl | rfl | rfl <;> rfl
theorem cv3_Leds {G : GT} {σ z : Nat} {H : Heap} (hF : GF 3 σ z G) (hP : ∀ q ∈ wPCI3 G σ, va_at G.1 gcl q H) : va_at G.1 gcl (gad G (3), en G (dI 3) (3)) H := by
  have hG := GF_ok hF (by decide)
  have hm := hP _ ((List.mem_append_left _ (List.mem_of_getElem? (i := 2) rfl)))
  rw [en, (F_Leds G hG).2.2.2, (GF_gad hF _).trans (g3_Leds σ z)]
  refine at_cgR (fun j hj => ?_) hm
  rw [show gad G (j + 200) = _ from (GF_gad hF _).trans (g3_Led σ z hj)]
  rcases (by omega : j = 0 ∨ j = 1 ∨ j = 2 ∨ j = 3 ∨ j = 4 ∨ j = 5 ∨ j = 6 ∨ j = 7 ∨ j = 8 ∨ j = 9 ∨ j = 10 ∨ j = 11 ∨ j = 12 ∨ j = 13 ∨ j = 14 ∨ j = 15) with rfl | rfl | rfl | rfl | rfl | rfl | rfl | rfl | rfl | rfl | rfl | rfl | rfl | rfl | rfl | rfl <;> rfl
theorem cv3_Row {G : GT} {σ z : Nat} {H : Heap} (hF : GF 3 σ z G) (hP : ∀ q ∈ wPCI3 G σ, va_at G.1 gcl q H) : va_at G.1 gcl (gad G (8), en G (dI 3) (8)) H := by
  have hG := GF_ok hF (by decide)
  have hm := hP _ (mm3_Nt G σ (List.mem_append_left _ (List.mem_of_getElem? (i := 1) rfl)))
  rw [en, (F_Row G hG).2.2.2, (GF_gad hF _).trans (g3_Row σ z)]
  refine at_cgR (fun j hj => ?_) hm
  show rwF (σ + 4) 60 j = some (gad G ((dI 3 8 j).toNatClampNeg + 420))
  rw [dI_Row, nI_clamp (by omega), show gad G (j + 420) = _ from (GF_gad hF _).trans (g3_Msg σ z hj)]
  exact if_pos hj
theorem cv3_PC {G : GT} {σ z : Nat} {H : Heap} (hF : GF 3 σ z G) (hP : ∀ q ∈ wPCI3 G σ, va_at G.1 gcl q H) : va_at G.1 gcl (gad G (0), en G (dI 3) (0)) H := by
  have hG := GF_ok hF (by decide)
  have hm := hP _ ((List.mem_append_left _ (List.mem_of_getElem? (i := 0) rfl)))
  rw [en, (F_PC G hG).2, (GF_gad hF _).trans (g3_PC σ z)]
  unfold fsPC
  rw [show gad G (1) = _ from (GF_gad hF _).trans (g3_Stores σ z), show gad G (2) = _ from (GF_gad hF _).trans (g3_Accs σ z), show gad G (3) = _ from (GF_gad hF _).trans (g3_Leds σ z), show gad G (4) = _ from (GF_gad hF _).trans (g3_UpS σ z), show gad G (5) = _ from (GF_gad hF _).trans (g3_Net σ z), show gad G (6) = _ from (GF_gad hF _).trans (g3_Mem σ z), show gad G (7) = _ from (GF_gad hF _).trans (g3_Clo σ z)]
  exact hm
theorem cv3_Net {G : GT} {σ z : Nat} {H : Heap} (hF : GF 3 σ z G) (hP : ∀ q ∈ wPCI3 G σ, va_at G.1 gcl q H) : va_at G.1 gcl (gad G (5), en G (dI 3) (5)) H := by
  have hG := GF_ok hF (by decide)
  have hm := hP _ (mm3_Nt G σ (List.mem_append_left _ (List.mem_of_getElem? (i := 0) rfl)))
  rw [en, (F_Net G hG).2, (GF_gad hF _).trans (g3_Net σ z)]
  unfold fsNet
  rw [show gad G (8) = _ from (GF_gad hF _).trans (g3_Row σ z), show gad G (480) = _ from (GF_gad hF _).trans (g3_Msg60 σ z), show gad G (481) = _ from (GF_gad hF _).trans (g3_Msg61 σ z)]
  exact hm
theorem cv3_Store {G : GT} {σ z : Nat} {H : Heap} (hF : GF 3 σ z G) (hP : ∀ q ∈ wPCI3 G σ, va_at G.1 gcl q H) {i0 : Nat} (h0 : i0 < 3) : va_at G.1 gcl (gad G (i0 + 10), en G (dI 3) (i0 + 10)) H := by
  have hG := GF_ok hF (by decide)
  have hm := hP _ (mm3_St G σ h0 (List.mem_of_getElem? (i := 0) rfl))
  rw [en, (F_Store G hG h0).2, (GF_gad hF _).trans (g3_Store σ z h0)]
  show va_at G.1 gcl (_, .inr (iStore, [.ref (gad G (i0 + 20)), .ref (gad G (i0 + 30)), .ref (gad G (i0 + 40)), .ref (gad G (i0 + 50)), .ref (gad G (i0 + 60))])) H
  rw [show gad G (i0 + 20) = _ from (GF_gad hF _).trans (g3_Val σ z h0), show gad G (i0 + 30) = _ from (GF_gad hF _).trans (g3_Loc σ z h0), show gad G (i0 + 40) = _ from (GF_gad hF _).trans (g3_Sta σ z h0), show gad G (i0 + 50) = _ from (GF_gad hF _).trans (g3_Wrt σ z h0), show gad G (i0 + 60) = _ from (GF_gad hF _).trans (g3_Wrs σ z h0)]
  exact hm
theorem cv3_Acc {G : GT} {σ z : Nat} {H : Heap} (hF : GF 3 σ z G) (hP : ∀ q ∈ wPCI3 G σ, va_at G.1 gcl q H) {i0 : Nat} (h0 : i0 < 3) : va_at G.1 gcl (gad G (i0 + 100), en G (dI 3) (i0 + 100)) H := by
  have hG := GF_ok hF (by decide)
  have hm := hP _ (mm3_Ac G σ h0 (List.mem_of_getElem? (i := 0) rfl))
  rw [en, (F_Acc G hG (by rw [hF.2.1]; exact h0)).2, (GF_gad hF _).trans (g3_Acc σ z h0)]
  show va_at G.1 gcl (_, .inr (iAcc, [.ref (gad G (i0 + 110)), .ref (gad G (i0 + 120))])) H
  rw [show gad G (i0 + 110) = _ from (GF_gad hF _).trans (g3_Pro σ z h0), show gad G (i0 + 120) = _ from (GF_gad hF _).trans (g3_Tak σ z h0)]
  exact hm
theorem cv3_Led {G : GT} {σ z : Nat} {H : Heap} (hF : GF 3 σ z G) (hP : ∀ q ∈ wPCI3 G σ, va_at G.1 gcl q H) {i0 : Nat} (h0 : i0 < 16) : va_at G.1 gcl (gad G (i0 + 200), en G (dI 3) (i0 + 200)) H := by
  have hG := GF_ok hF (by decide)
  have hm := hP _ (mm3_Le G σ h0 (List.mem_of_getElem? (i := 0) rfl))
  rw [en, (F_Led G hG h0).2, (GF_gad hF _).trans (g3_Led σ z h0)]
  show va_at G.1 gcl (_, .inr (iLed, [.int (dI 3 (i0 + 200) 0), .int (dI 3 (i0 + 200) 1), .int (dI 3 (i0 + 200) 2), .ref (gad G (i0 + 220)), .ref (gad G (i0 + 240)), .ref (gad G (i0 + 260))])) H
  rw [show gad G (i0 + 220) = _ from (GF_gad hF _).trans (g3_HR σ z h0), show gad G (i0 + 240) = _ from (GF_gad hF _).trans (g3_Rpl σ z h0), show gad G (i0 + 260) = _ from (GF_gad hF _).trans (g3_Lat σ z h0), dI_Led h0 0, dI_Led h0 1, dI_Led h0 2]
  exact hm
theorem cv3_Msg {G : GT} {σ z : Nat} {H : Heap} (hF : GF 3 σ z G) (hP : ∀ q ∈ wPCI3 G σ, va_at G.1 gcl q H) {i0 : Nat} (h0 : i0 < 62) : va_at G.1 gcl (gad G (i0 + 420), en G (dI 3) (i0 + 420)) H := by
  have hG := GF_ok hF (by decide)
  rw [en, (F_Msg G hG h0).2]
  show va_at G.1 gcl (_, .inr (iMsg, [.int (dI 3 (i0 + 420) 0), .int (dI 3 (i0 + 420) 1), .int (dI 3 (i0 + 420) 2), .int (dI 3 (i0 + 420) 3), .int (dI 3 (i0 + 420) 4), .int (dI 3 (i0 + 420) 5), .int (dI 3 (i0 + 420) 6), .ref (gad G (i0 + 490))])) H
  rw [dI_Msg h0 0, dI_Msg h0 1, dI_Msg h0 2, dI_Msg h0 3, dI_Msg h0 4, dI_Msg h0 5, dI_Msg h0 6]
  rcases (by omega : i0 < 60 ∨ i0 = 60 ∨ i0 = 61) with hj | rfl | rfl
  · have hm := hP _ (mm3_Ms G σ hj (List.mem_of_getElem? (i := 0) rfl))
    rw [show gad G (i0 + 490) = _ from (GF_gad hF _).trans (g3_Rep σ z hj), show gad G (i0 + 420) = _ from (GF_gad hF _).trans (g3_Msg σ z hj)]
    exact hm
  · have hm := hP _ (mm3_M60 G σ (List.mem_of_getElem? (i := 0) rfl))
    rw [show gad G (60 + 490) = _ from (GF_gad hF _).trans (g3_Rep60 σ z), show gad G (60 + 420) = _ from (GF_gad hF _).trans (g3_Msg60 σ z)]
    exact hm
  · have hm := hP _ (mm3_M61 G σ (List.mem_of_getElem? (i := 0) rfl))
    rw [show gad G (61 + 490) = _ from (GF_gad hF _).trans (g3_Rep61 σ z), show gad G (61 + 420) = _ from (GF_gad hF _).trans (g3_Msg61 σ z)]
    exact hm
theorem cv3_Rep {G : GT} {σ z : Nat} {H : Heap} (hF : GF 3 σ z G) (hP : ∀ q ∈ wPCI3 G σ, va_at G.1 gcl q H) {i0 : Nat} (h0 : i0 < 62) : va_at G.1 gcl (gad G (i0 + 490), en G (dI 3) (i0 + 490)) H := by
  have hG := GF_ok hF (by decide)
  rw [en, (F_Rep G hG h0).2.2]
  rcases (by omega : i0 < 60 ∨ i0 = 60 ∨ i0 = 61) with hj9 | rfl | rfl
  · have hm := hP _ (mm3_Ms G σ hj9 (List.mem_of_getElem? (i := 1) rfl))
    rw [show gad G (i0 + 490) = _ from (GF_gad hF _).trans (g3_Rep σ z hj9)]
    exact at_cgI (fun j hj => by rw [dI_Rep h0 j]) hm
  · have hm := hP _ (mm3_M60 G σ (List.mem_of_getElem? (i := 1) rfl))
    rw [show gad G (60 + 490) = _ from (GF_gad hF _).trans (g3_Rep60 σ z)]
    exact at_cgI (fun j hj => by rw [dI_Rep h0 j]) hm
  · have hm := hP _ (mm3_M61 G σ (List.mem_of_getElem? (i := 1) rfl))
    rw [show gad G (61 + 490) = _ from (GF_gad hF _).trans (g3_Rep61 σ z)]
    exact at_cgI (fun j hj => by rw [dI_Rep h0 j]) hm
set_option maxRecDepth 100000 in
theorem cv3 {G : GT} {σ z : Nat} {H : Heap} (hF : GF 3 σ z G) (hP : ∀ q ∈ wPCI3 G σ, va_at G.1 gcl q H) {c : Nat} (hc : okc 3 c) (h9 : ¬ c = 9) (h6 : c < 600) : va_at G.1 gcl (gad G c, en G (dI 3) c) H := by
  unfold okc at hc
  rcases hc with h | h | h | h | h | h | h | h | h | h | h | h | h | h | h | h | h | h | h | h | h | h | h | h | h | h | h | h | h | h | h | h | h | h | h | h | h | h | h | h | h | h | h | h | h | h | h | h | h | h | h | h | h
  · subst h; exact cv3_PC hF hP
  · subst h; exact cv3_Stores hF hP
  · subst h; exact cv3_Accs hF hP
  · subst h; exact cv3_Leds hF hP
  · subst h; exact cv3_UpS hF hP
  · subst h; exact cv3_Net hF hP
  · subst h; exact cv3_Mem hF hP
  · subst h; exact cv3_Clo hF hP
  · subst h; exact cv3_Row hF hP
  · exact absurd h h9
  · obtain ⟨i0, h0, rfl⟩ : ∃ i0, i0 < 3 ∧ c = i0 + 10 := ⟨c - 10, by omega, by omega⟩; exact cv3_Store hF hP h0
  · obtain ⟨i0, h0, rfl⟩ : ∃ i0, i0 < 3 ∧ c = i0 + 20 := ⟨c - 20, by omega, by omega⟩; exact cv3_Val hF hP h0
  · obtain ⟨i0, h0, rfl⟩ : ∃ i0, i0 < 3 ∧ c = i0 + 30 := ⟨c - 30, by omega, by omega⟩; exact cv3_Loc hF hP h0
  · obtain ⟨i0, h0, rfl⟩ : ∃ i0, i0 < 3 ∧ c = i0 + 40 := ⟨c - 40, by omega, by omega⟩; exact cv3_Sta hF hP h0
  · obtain ⟨i0, h0, rfl⟩ : ∃ i0, i0 < 3 ∧ c = i0 + 50 := ⟨c - 50, by omega, by omega⟩; exact cv3_Wrt hF hP h0
  · obtain ⟨i0, h0, rfl⟩ : ∃ i0, i0 < 3 ∧ c = i0 + 60 := ⟨c - 60, by omega, by omega⟩; exact cv3_Wrs hF hP h0
  · obtain ⟨i0, i1, h0, h1, rfl⟩ : ∃ i0 i1, i0 < 3 ∧ i1 < 8 ∧ c = 8 * i0 + i1 + 70 := ⟨(c - 70) / 8, (c - 70) % 8, by omega, by omega, by omega⟩; exact cv3_Wr hF hP h0 h1
  · obtain ⟨i0, h0, rfl⟩ : ∃ i0, i0 < 3 ∧ c = i0 + 100 := ⟨c - 100, by omega, by omega⟩; exact cv3_Acc hF hP h0
  · obtain ⟨i0, h0, rfl⟩ : ∃ i0, i0 < 3 ∧ c = i0 + 110 := ⟨c - 110, by omega, by omega⟩; exact cv3_Pro hF hP h0
  · obtain ⟨i0, h0, rfl⟩ : ∃ i0, i0 < 3 ∧ c = i0 + 120 := ⟨c - 120, by omega, by omega⟩; exact cv3_Tak hF hP h0
  · obtain ⟨i0, i1, h0, h1, rfl⟩ : ∃ i0 i1, i0 < 3 ∧ i1 < 8 ∧ c = 8 * i0 + i1 + 130 := ⟨(c - 130) / 8, (c - 130) % 8, by omega, by omega, by omega⟩; exact cv3_PrR hF hP h0 h1
  · obtain ⟨i0, i1, h0, h1, rfl⟩ : ∃ i0 i1, i0 < 3 ∧ i1 < 8 ∧ c = 8 * i0 + i1 + 160 := ⟨(c - 160) / 8, (c - 160) % 8, by omega, by omega, by omega⟩; exact cv3_TkR hF hP h0 h1
  · obtain ⟨i0, h0, rfl⟩ : ∃ i0, i0 < 16 ∧ c = i0 + 200 := ⟨c - 200, by omega, by omega⟩; exact cv3_Led hF hP h0
  · obtain ⟨i0, h0, rfl⟩ : ∃ i0, i0 < 16 ∧ c = i0 + 220 := ⟨c - 220, by omega, by omega⟩; exact cv3_HR hF hP h0
  · obtain ⟨i0, h0, rfl⟩ : ∃ i0, i0 < 16 ∧ c = i0 + 240 := ⟨c - 240, by omega, by omega⟩; exact cv3_Rpl hF hP h0
  · obtain ⟨i0, h0, rfl⟩ : ∃ i0, i0 < 16 ∧ c = i0 + 260 := ⟨c - 260, by omega, by omega⟩; exact cv3_Lat hF hP h0
  · obtain ⟨i0, i1, h0, h1, rfl⟩ : ∃ i0 i1, i0 < 16 ∧ i1 < 3 ∧ c = 4 * i0 + i1 + 280 := ⟨(c - 280) / 4, (c - 280) % 4, by omega, by omega, by omega⟩; exact cv3_RpR hF hP h0 h1
  · obtain ⟨i0, i1, h0, h1, rfl⟩ : ∃ i0 i1, i0 < 16 ∧ i1 < 3 ∧ c = 4 * i0 + i1 + 350 := ⟨(c - 350) / 4, (c - 350) % 4, by omega, by omega, by omega⟩; exact cv3_LtR hF hP h0 h1
  · obtain ⟨i0, h0, rfl⟩ : ∃ i0, i0 < 62 ∧ c = i0 + 420 := ⟨c - 420, by omega, by omega⟩; exact cv3_Msg hF hP h0
  · obtain ⟨i0, h0, rfl⟩ : ∃ i0, i0 < 62 ∧ c = i0 + 490 := ⟨c - 490, by omega, by omega⟩; exact cv3_Rep hF hP h0
  · omega
  · omega
  · omega
  · omega
  · omega
  · omega
  · omega
  · omega
  · omega
  · omega
  · omega
  · omega
  · omega
  · omega
  · omega
  · omega
  · omega
  · omega
  · omega
  · omega
  · omega
  · omega
  · omega
