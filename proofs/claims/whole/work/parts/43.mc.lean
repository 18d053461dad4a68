theorem kw_568 : .methodLink R_Mo 1 Lib.objectInit ∈ WS := List.mem_filter.mpr ⟨List.mem_append_right _ (List.mem_of_getElem? (i := 907) (by decide +kernel)), by decide +kernel⟩
def D0 (n : Nat) : DD := m_fgt (m_fgt (lpFill (lpFill (dI n) 606 (-1) 12) 614 (-1) 72) 0) 1
def wMoI1 (G : GT) (sa : Nat) : va_W := [(sa, .inr (iMo, [.int (0), .int (1), .ref (sa + 1), .ref (sa + 2), .ref (sa + 3), .ref (sa + 4), .ref (sa + 5), .int (0), .ref (sa + 6), .ref (sa + 7), .ref (sa + 8), .ref (sa + 9), .ref (sa + 10), .ref (sa + 11), .ref (sa + 12), .ref (sa + 13), .ref (sa + 14), .ref (sa + 15), .ref (sa + 16), .ref (sa + 17), .ref (sa + 18), .ref (sa + 19), .ref (sa + 20), .ref (sa + 21), .ref (sa + 22), .int (0), .int (0)])), (sa + 1, aI (gC G 1) (3) (fun _ => 0)), (sa + 2, aI (gC G 1) (3) (fun _ => 0)), (sa + 3, aI (gC G 1) (2) (fun _ => 0)), (sa + 4, aI (gC G 0) (12) (fun _ => 0)), (sa + 5, aI (gC G 0) (12) (fun _ => 0)), (sa + 6, aI (gC G 0) (8) (fun _ => 0)), (sa + 7, aI (gC G 1) (8) (fun _ => 0)), (sa + 8, aI (gC G 0) (24) (fun _ => 0)), (sa + 9, aI (gC G 0) (24) (fun _ => 0)), (sa + 10, aI (gC G 0) (96) (fun _ => 0)), (sa + 11, aI (gC G 0) (72) (fun _ => 0)), (sa + 12, aI (gC G 0) (72) (fun _ => 0)), (sa + 13, aI (gC G 0) (72) (fun _ => 0)), (sa + 14, aI (gC G 0) (16) (fun _ => 0)), (sa + 15, aI (gC G 1) (16) (fun _ => 0)), (sa + 16, aI (gC G 0) (16) (fun _ => 0)), (sa + 17, aI (gC G 1) (48) (fun _ => 0)), (sa + 18, aI (gC G 0) (144) (fun _ => 0)), (sa + 19, aI (gC G 0) (144) (fun _ => 0)), (sa + 20, aI (gC G 0) (144) (fun _ => 0)), (sa + 21, aI (gC G 0) (144) (fun _ => 0)), (sa + 22, aI (gC G 0) (793) (fun _ => 0))]
theorem moc1_storeDown {G : GT} {σ z : Nat} {H : Heap} (hF : GF 1 σ z G) (hM : ∀ q ∈ wMoI1 G (σ + 290), va_at G.1 gcl q H) : va_at G.1 gcl (gad G 602, en G (dI 1) 602) H := by
  have hG := GF_ok hF (by decide)
  have hm := hM _ (List.mem_of_getElem? (i := 1) rfl)
  rw [en, (F_MstoreDown G hG).2.2, (GF_gad hF _).trans (g1_MstoreDown σ z)]
  exact at_cgI (fun j hj => by rw [dI_MstoreDown j]) hm
theorem moc1_acceptorDown {G : GT} {σ z : Nat} {H : Heap} (hF : GF 1 σ z G) (hM : ∀ q ∈ wMoI1 G (σ + 290), va_at G.1 gcl q H) : va_at G.1 gcl (gad G 603, en G (dI 1) 603) H := by
  have hG := GF_ok hF (by decide)
  have hm := hM _ (List.mem_of_getElem? (i := 2) rfl)
  rw [en, (F_MacceptorDown G hG).2.2, (GF_gad hF _).trans (g1_MacceptorDown σ z)]
  exact at_cgI (fun j hj => by rw [dI_MacceptorDown j]) hm
theorem moc1_leaderDown {G : GT} {σ z : Nat} {H : Heap} (hF : GF 1 σ z G) (hM : ∀ q ∈ wMoI1 G (σ + 290), va_at G.1 gcl q H) : va_at G.1 gcl (gad G 604, en G (dI 1) 604) H := by
  have hG := GF_ok hF (by decide)
  have hm := hM _ (List.mem_of_getElem? (i := 3) rfl)
  rw [en, (F_MleaderDown G hG).2.2, (GF_gad hF _).trans (g1_MleaderDown σ z)]
  exact at_cgI (fun j hj => by rw [dI_MleaderDown j]) hm
theorem moc1_value {G : GT} {σ z : Nat} {H : Heap} (hF : GF 1 σ z G) (hM : ∀ q ∈ wMoI1 G (σ + 290), va_at G.1 gcl q H) : va_at G.1 gcl (gad G 605, en G (dI 1) 605) H := by
  have hG := GF_ok hF (by decide)
  have hm := hM _ (List.mem_of_getElem? (i := 4) rfl)
  rw [en, (F_Mvalue G hG).2.2, (GF_gad hF _).trans (g1_Mvalue σ z)]
  exact at_cgI (fun j hj => by rw [dI_Mvalue j]) hm
theorem moc1_lock {G : GT} {σ z : Nat} {H : Heap} (hF : GF 1 σ z G) (hM : ∀ q ∈ wMoI1 G (σ + 290), va_at G.1 gcl q H) : va_at G.1 gcl (gad G 606, en G (dI 1) 606) H := by
  have hG := GF_ok hF (by decide)
  have hm := hM _ (List.mem_of_getElem? (i := 5) rfl)
  rw [en, (F_Mlock G hG).2.2, (GF_gad hF _).trans (g1_Mlock σ z)]
  exact at_cgI (fun j hj => by rw [dI_Mlock j]) hm
theorem moc1_members {G : GT} {σ z : Nat} {H : Heap} (hF : GF 1 σ z G) (hM : ∀ q ∈ wMoI1 G (σ + 290), va_at G.1 gcl q H) : va_at G.1 gcl (gad G 608, en G (dI 1) 608) H := by
  have hG := GF_ok hF (by decide)
  have hm := hM _ (List.mem_of_getElem? (i := 6) rfl)
  rw [en, (F_Mmembers G hG).2.2, (GF_gad hF _).trans (g1_Mmembers σ z)]
  exact at_cgI (fun j hj => by rw [dI_Mmembers j]) hm
theorem moc1_closed {G : GT} {σ z : Nat} {H : Heap} (hF : GF 1 σ z G) (hM : ∀ q ∈ wMoI1 G (σ + 290), va_at G.1 gcl q H) : va_at G.1 gcl (gad G 609, en G (dI 1) 609) H := by
  have hG := GF_ok hF (by decide)
  have hm := hM _ (List.mem_of_getElem? (i := 7) rfl)
  rw [en, (F_Mclosed G hG).2.2, (GF_gad hF _).trans (g1_Mclosed σ z)]
  exact at_cgI (fun j hj => by rw [dI_Mclosed j]) hm
theorem moc1_state {G : GT} {σ z : Nat} {H : Heap} (hF : GF 1 σ z G) (hM : ∀ q ∈ wMoI1 G (σ + 290), va_at G.1 gcl q H) : va_at G.1 gcl (gad G 610, en G (dI 1) 610) H := by
  have hG := GF_ok hF (by decide)
  have hm := hM _ (List.mem_of_getElem? (i := 8) rfl)
  rw [en, (F_Mstate G hG).2.2, (GF_gad hF _).trans (g1_Mstate σ z)]
  exact at_cgI (fun j hj => by rw [dI_Mstate j]) hm
theorem moc1_writes {G : GT} {σ z : Nat} {H : Heap} (hF : GF 1 σ z G) (hM : ∀ q ∈ wMoI1 G (σ + 290), va_at G.1 gcl q H) : va_at G.1 gcl (gad G 611, en G (dI 1) 611) H := by
  have hG := GF_ok hF (by decide)
  have hm := hM _ (List.mem_of_getElem? (i := 9) rfl)
  rw [en, (F_Mwrites G hG).2.2, (GF_gad hF _).trans (g1_Mwrites σ z)]
  exact at_cgI (fun j hj => by rw [dI_Mwrites j]) hm
theorem moc1_written {G : GT} {σ z : Nat} {H : Heap} (hF : GF 1 σ z G) (hM : ∀ q ∈ wMoI1 G (σ + 290), va_at G.1 gcl q H) : va_at G.1 gcl (gad G 612, en G (dI 1) 612) H := by
  have hG := GF_ok hF (by decide)
  have hm := hM _ (List.mem_of_getElem? (i := 10) rfl)
  rw [en, (F_Mwritten G hG).2.2, (GF_gad hF _).trans (g1_Mwritten σ z)]
  exact at_cgI (fun j hj => by rw [dI_Mwritten j]) hm
theorem moc1_promised {G : GT} {σ z : Nat} {H : Heap} (hF : GF 1 σ z G) (hM : ∀ q ∈ wMoI1 G (σ + 290), va_at G.1 gcl q H) : va_at G.1 gcl (gad G 613, en G (dI 1) 613) H := by
  have hG := GF_ok hF (by decide)
  have hm := hM _ (List.mem_of_getElem? (i := 11) rfl)
  rw [en, (F_Mpromised G hG).2.2, (GF_gad hF _).trans (g1_Mpromised σ z)]
  exact at_cgI (fun j hj => by rw [dI_Mpromised j]) hm
theorem moc1_takenBallot {G : GT} {σ z : Nat} {H : Heap} (hF : GF 1 σ z G) (hM : ∀ q ∈ wMoI1 G (σ + 290), va_at G.1 gcl q H) : va_at G.1 gcl (gad G 614, en G (dI 1) 614) H := by
  have hG := GF_ok hF (by decide)
  have hm := hM _ (List.mem_of_getElem? (i := 12) rfl)
  rw [en, (F_MtakenBallot G hG).2.2, (GF_gad hF _).trans (g1_MtakenBallot σ z)]
  exact at_cgI (fun j hj => by rw [dI_MtakenBallot j]) hm
theorem moc1_takenVote {G : GT} {σ z : Nat} {H : Heap} (hF : GF 1 σ z G) (hM : ∀ q ∈ wMoI1 G (σ + 290), va_at G.1 gcl q H) : va_at G.1 gcl (gad G 615, en G (dI 1) 615) H := by
  have hG := GF_ok hF (by decide)
  have hm := hM _ (List.mem_of_getElem? (i := 13) rfl)
  rw [en, (F_MtakenVote G hG).2.2, (GF_gad hF _).trans (g1_MtakenVote σ z)]
  exact at_cgI (fun j hj => by rw [dI_MtakenVote j]) hm
theorem moc1_ballot {G : GT} {σ z : Nat} {H : Heap} (hF : GF 1 σ z G) (hM : ∀ q ∈ wMoI1 G (σ + 290), va_at G.1 gcl q H) : va_at G.1 gcl (gad G 616, en G (dI 1) 616) H := by
  have hG := GF_ok hF (by decide)
  have hm := hM _ (List.mem_of_getElem? (i := 14) rfl)
  rw [en, (F_Mballot G hG).2.2, (GF_gad hF _).trans (g1_Mballot σ z)]
  exact at_cgI (fun j hj => by rw [dI_Mballot j]) hm
theorem moc1_proposed {G : GT} {σ z : Nat} {H : Heap} (hF : GF 1 σ z G) (hM : ∀ q ∈ wMoI1 G (σ + 290), va_at G.1 gcl q H) : va_at G.1 gcl (gad G 617, en G (dI 1) 617) H := by
  have hG := GF_ok hF (by decide)
  have hm := hM _ (List.mem_of_getElem? (i := 15) rfl)
  rw [en, (F_Mproposed G hG).2.2, (GF_gad hF _).trans (g1_Mproposed σ z)]
  exact at_cgI (fun j hj => by rw [dI_Mproposed j]) hm
theorem moc1_known {G : GT} {σ z : Nat} {H : Heap} (hF : GF 1 σ z G) (hM : ∀ q ∈ wMoI1 G (σ + 290), va_at G.1 gcl q H) : va_at G.1 gcl (gad G 618, en G (dI 1) 618) H := by
  have hG := GF_ok hF (by decide)
  have hm := hM _ (List.mem_of_getElem? (i := 16) rfl)
  rw [en, (F_Mknown G hG).2.2, (GF_gad hF _).trans (g1_Mknown σ z)]
  exact at_cgI (fun j hj => by rw [dI_Mknown j]) hm
theorem moc1_replied {G : GT} {σ z : Nat} {H : Heap} (hF : GF 1 σ z G) (hM : ∀ q ∈ wMoI1 G (σ + 290), va_at G.1 gcl q H) : va_at G.1 gcl (gad G 619, en G (dI 1) 619) H := by
  have hG := GF_ok hF (by decide)
  have hm := hM _ (List.mem_of_getElem? (i := 17) rfl)
  rw [en, (F_Mreplied G hG).2.2, (GF_gad hF _).trans (g1_Mreplied σ z)]
  exact at_cgI (fun j hj => by rw [dI_Mreplied j]) hm
theorem moc1_replyBallot {G : GT} {σ z : Nat} {H : Heap} (hF : GF 1 σ z G) (hM : ∀ q ∈ wMoI1 G (σ + 290), va_at G.1 gcl q H) : va_at G.1 gcl (gad G 620, en G (dI 1) 620) H := by
  have hG := GF_ok hF (by decide)
  have hm := hM _ (List.mem_of_getElem? (i := 18) rfl)
  rw [en, (F_MreplyBallot G hG).2.2, (GF_gad hF _).trans (g1_MreplyBallot σ z)]
  exact at_cgI (fun j hj => by rw [dI_MreplyBallot j]) hm
theorem moc1_replyVote {G : GT} {σ z : Nat} {H : Heap} (hF : GF 1 σ z G) (hM : ∀ q ∈ wMoI1 G (σ + 290), va_at G.1 gcl q H) : va_at G.1 gcl (gad G 621, en G (dI 1) 621) H := by
  have hG := GF_ok hF (by decide)
  have hm := hM _ (List.mem_of_getElem? (i := 19) rfl)
  rw [en, (F_MreplyVote G hG).2.2, (GF_gad hF _).trans (g1_MreplyVote σ z)]
  exact at_cgI (fun j hj => by rw [dI_MreplyVote j]) hm
theorem moc1_latestBallot {G : GT} {σ z : Nat} {H : Heap} (hF : GF 1 σ z G) (hM : ∀ q ∈ wMoI1 G (σ + 290), va_at G.1 gcl q H) : va_at G.1 gcl (gad G 622, en G (dI 1) 622) H := by
  have hG := GF_ok hF (by decide)
  have hm := hM _ (List.mem_of_getElem? (i := 20) rfl)
  rw [en, (F_MlatestBallot G hG).2.2, (GF_gad hF _).trans (g1_MlatestBallot σ z)]
  exact at_cgI (fun j hj => by rw [dI_MlatestBallot j]) hm
theorem moc1_latestVote {G : GT} {σ z : Nat} {H : Heap} (hF : GF 1 σ z G) (hM : ∀ q ∈ wMoI1 G (σ + 290), va_at G.1 gcl q H) : va_at G.1 gcl (gad G 623, en G (dI 1) 623) H := by
  have hG := GF_ok hF (by decide)
  have hm := hM _ (List.mem_of_getElem? (i := 21) rfl)
  rw [en, (F_MlatestVote G hG).2.2, (GF_gad hF _).trans (g1_MlatestVote σ z)]
  exact at_cgI (fun j hj => by rw [dI_MlatestVote j]) hm
theorem moc1_net {G : GT} {σ z : Nat} {H : Heap} (hF : GF 1 σ z G) (hM : ∀ q ∈ wMoI1 G (σ + 290), va_at G.1 gcl q H) : va_at G.1 gcl (gad G 624, en G (dI 1) 624) H := by
  have hG := GF_ok hF (by decide)
  have hm := hM _ (List.mem_of_getElem? (i := 22) rfl)
  rw [en, (F_Mnet G hG).2.2, (GF_gad hF _).trans (g1_Mnet σ z)]
  exact at_cgI (fun j hj => by rw [dI_Mnet j]) hm
theorem moc1_Mo {G : GT} {σ z : Nat} {H : Heap} (hF : GF 1 σ z G) (hM : ∀ q ∈ wMoI1 G (σ + 290), va_at G.1 gcl q H) : va_at G.1 gcl (gad G 600, en G (dI 1) 600) H := by
  have hG := GF_ok hF (by decide)
  have hm := hM _ (List.mem_of_getElem? (i := 0) rfl)
  rw [en, (F_Mo G hG).2, (GF_gad hF _).trans (g1_Mo σ z)]
  unfold fsMo
  rw [show gad G 602 = _ from (GF_gad hF _).trans (g1_MstoreDown σ z), show gad G 603 = _ from (GF_gad hF _).trans (g1_MacceptorDown σ z), show gad G 604 = _ from (GF_gad hF _).trans (g1_MleaderDown σ z), show gad G 605 = _ from (GF_gad hF _).trans (g1_Mvalue σ z), show gad G 606 = _ from (GF_gad hF _).trans (g1_Mlock σ z), show gad G 608 = _ from (GF_gad hF _).trans (g1_Mmembers σ z), show gad G 609 = _ from (GF_gad hF _).trans (g1_Mclosed σ z), show gad G 610 = _ from (GF_gad hF _).trans (g1_Mstate σ z), show gad G 611 = _ from (GF_gad hF _).trans (g1_Mwrites σ z), show gad G 612 = _ from (GF_gad hF _).trans (g1_Mwritten σ z), show gad G 613 = _ from (GF_gad hF _).trans (g1_Mpromised σ z), show gad G 614 = _ from (GF_gad hF _).trans (g1_MtakenBallot σ z), show gad G 615 = _ from (GF_gad hF _).trans (g1_MtakenVote σ z), show gad G 616 = _ from (GF_gad hF _).trans (g1_Mballot σ z), show gad G 617 = _ from (GF_gad hF _).trans (g1_Mproposed σ z), show gad G 618 = _ from (GF_gad hF _).trans (g1_Mknown σ z), show gad G 619 = _ from (GF_gad hF _).trans (g1_Mreplied σ z), show gad G 620 = _ from (GF_gad hF _).trans (g1_MreplyBallot σ z), show gad G 621 = _ from (GF_gad hF _).trans (g1_MreplyVote σ z), show gad G 622 = _ from (GF_gad hF _).trans (g1_MlatestBallot σ z), show gad G 623 = _ from (GF_gad hF _).trans (g1_MlatestVote σ z), show gad G 624 = _ from (GF_gad hF _).trans (g1_Mnet σ z)]
  exact hm
set_option maxRecDepth 100000 in
theorem moc1 {G : GT} {σ z : Nat} {H : Heap} (hF : GF 1 σ z G) (hM : ∀ q ∈ wMoI1 G (σ + 290), va_at G.1 gcl q H) {c : Nat} (hc : okc 1 c) (h6 : 600 ≤ c) : va_at G.1 gcl (gad G c, en G (dI 1) c) H := by
  unfold okc at hc
  have h : c = 600 ∨ c = 602 ∨ c = 603 ∨ c = 604 ∨ c = 605 ∨ c = 606 ∨ c = 608 ∨ c = 609 ∨ c = 610 ∨ c = 611 ∨ c = 612 ∨ c = 613 ∨ c = 614 ∨ c = 615 ∨ c = 616 ∨ c = 617 ∨ c = 618 ∨ c = 619 ∨ c = 620 ∨ c = 621 ∨ c = 622 ∨ c = 623 ∨ c = 624 := by omega
  rcases h with rfl | rfl | rfl | rfl | rfl | rfl | rfl | rfl | rfl | rfl | rfl | rfl | rfl | rfl | rfl | rfl | rfl | rfl | rfl | rfl | rfl | rfl | rfl
  · exact moc1_Mo hF hM
  · exact moc1_storeDown hF hM
  · exact moc1_acceptorDown hF hM
  · exact moc1_leaderDown hF hM
  · exact moc1_value hF hM
  · exact moc1_lock hF hM
  · exact moc1_members hF hM
  · exact moc1_closed hF hM
  · exact moc1_state hF hM
  · exact moc1_writes hF hM
  · exact moc1_written hF hM
  · exact moc1_promised hF hM
  · exact moc1_takenBallot hF hM
  · exact moc1_takenVote hF hM
  · exact moc1_ballot hF hM
  · exact moc1_proposed hF hM
  · exact moc1_known hF hM
  · exact moc1_replied hF hM
  · exact moc1_replyBallot hF hM
  · exact moc1_replyVote hF hM
  · exact moc1_latestBallot hF hM
  · exact moc1_latestVote hF hM
  · exact moc1_net hF hM
theorem mo_cases1 {G : GT} {σ : Nat} (hF : GF 1 σ 0 G) {P : Nat → Prop} {c : Nat} (hc : okc 1 c) (h0 : gad G c ≠ 0) (h1 : ∀ c, okc 1 c → ¬ c = 9 → c < 600 → P c) (h2 : 600 ≤ c → P c) : P c := by
  by_cases h9 : c = 9
  · exact absurd (by rw [GF_gad hF, h9]; rfl) h0
  · rcases Nat.lt_or_ge c 600 with h | h
    · exact h1 c hc h9 h
    · exact h2 h
set_option maxHeartbeats 4000000 in
set_option maxRecDepth 100000 in
theorem h_MoI1 (l : Launch) (G : GT) (Hx : Heap) (sa σ : Nat) (f : Int32) (hf : f = 0) (hF : GF 1 σ 0 G) (T0 : va_W) (hT : ∀ H1 : Heap, (∀ q ∈ T0, va_at G.1 gcl q H1) → ∀ c, okc 1 c → ¬ c = 9 → c < 600 → va_at G.1 gcl (gad G c, en G (dI 1) c) H1) (hsa : sa = σ + 290) (hz0 : Array.size Hx = sa + 1) (hP : va_P G.1 gcl ([(sa, .inr (iMo, [.int (0), .int (0), .null, .null, .null, .null, .null, .int (0), .null, .null, .null, .null, .null, .null, .null, .null, .null, .null, .null, .null, .null, .null, .null, .null, .null, .int (0), .int (0)]))] ++ T0) Hx) (hD : va_D (gAb G) ([(sa, .inr (iMo, [.int (0), .int (0), .null, .null, .null, .null, .null, .int (0), .null, .null, .null, .null, .null, .null, .null, .null, .null, .null, .null, .null, .null, .null, .null, .null, .null, .int (0), .int (0)]))] ++ T0)) : Met l y_Mo_init (.code y_Mo_init b_Mo_init 3 none :: WS) { frames := 1, cells := 22, slots := 1873, locals := 30 } (hPre G [.ref sa, .int (f)] (fun H9 => H9 = Hx)) (hQv G (fun H9 => va_P G.1 gcl (wl G (D0 1)) H9 ∧ va_D (gAb G) (wl G (D0 1)) ∧ Array.size H9 = sa + 23)) 22 1873 (gAb G) := by
  refine h_startI (own := R_Mo) (by decide +kernel) rfl (Nat.le_of_ble_eq_true rfl) ?_
  intro p e zs zm below meth zc ls hini C hI hl
  subst hI
  obtain ⟨hx, hb, hr, hml, hown, hts, hlk, hE, hbs⟩ := C
  have hK := hE.1
  have hl : lv_has ls 3 [(0, .ref sa), (1, .int (f))] := hl
  obtain ⟨locs, hlocs⟩ : ∃ l9 : List Loc, l9 = [] := ⟨_, rfl⟩
  rw [← hlocs]
  have hW : WW G zs.heap ([(sa, .inr (iMo, [.int (0), .int (0), .null, .null, .null, .null, .null, .int (0), .null, .null, .null, .null, .null, .null, .null, .null, .null, .null, .null, .null, .null, .null, .null, .null, .null, .int (0), .int (0)]))] ++ T0) zs.heap locs := ⟨hP, hD, by rw [hlocs]; exact va_S.rf⟩
  have hG := GF_ok hF (by decide)
  have hn3 := hG.1
  refine lv_aload_n hx hb d_Mo_init_0 rfl (lv_at hl 0 rfl) ?_
  refine h_oinit hx hb hown (hts _ kw_568) (hts _ kw_89) (hts _ kw_90) (by rw [hml]; exact hl.1) d_Mo_init_1 (Nat.le_of_ble_eq_true rfl) (Nat.le_of_ble_eq_true rfl) ?_
  refine lv_aload_n hx hb d_Mo_init_4 rfl (lv_at hl 0 rfl) ?_
  refine lv_iconst (v := 3) hx hb d_Mo_init_5 (by decide) ?_
  refine W_sz (fun hzu => ?_)
  have hzl := (va_P_mem.mp hW.1 _ (List.mem_of_getElem? (i := 0) rfl)).lt
  have hz : Array.size zs.heap = sa + 1 := sz_eq hzu hz0 hzl rfl rfl
  refine h_newa (G := G) (atype := .boolean) (t0 := 1) (N' := 3) (a0 := (3, .inl (fun _ => 0))) hx hb hts kw_540 (List.mem_of_getElem? (i := 1) rfl) hE hW.2.2 (fun _ => by first | rfl | (rw [vp_cell_i]; rfl)) (by decide) (by decide) (by decide) (Nat.le_of_ble_eq_true rfl) (Nat.le_of_ble_eq_true rfl) d_Mo_init_6 (fun H ha9 hz9 hk9 hS9 => ?_)
  rw [hz] at ha9 ⊢
  have hW := WW_push2 hW hbs hz ha9 hk9 hS9
  have hW : WW G zs.heap ([(sa, .inr (iMo, [.int (0), .int (0), .null, .null, .null, .null, .null, .int (0), .null, .null, .null, .null, .null, .null, .null, .null, .null, .null, .null, .null, .null, .null, .null, .null, .null, .int (0), .int (0)])), (sa + 1, aI (gC G 1) (3) (fun _ => 0))] ++ T0) H locs := WW_perm (pm_push [(sa, .inr (iMo, [.int (0), .int (0), .null, .null, .null, .null, .null, .int (0), .null, .null, .null, .null, .null, .null, .null, .null, .null, .null, .null, .null, .null, .null, .null, .null, .null, .int (0), .int (0)]))] _ _) hW
  refine va_putF hx hb hts i_Mo t_Mo t_Mo_ok n_Mo hown hK hW.1 hW.2.1 hW.2.2 0 rfl rfl 2 (by decide) (hts _ kw_458) (fun _ h => h) rfl hini rfl (t_Mo_ok 2 (by decide)) rfl rfl (Nat.le_of_ble_eq_true rfl) d_Mo_init_8 (fun H locs h1 h2 h3 => ?_)
  have hW : WW G zs.heap ([(sa, .inr (iMo, [.int (0), .int (0), .ref (sa + 1), .null, .null, .null, .null, .int (0), .null, .null, .null, .null, .null, .null, .null, .null, .null, .null, .null, .null, .null, .null, .null, .null, .null, .int (0), .int (0)])), (sa + 1, aI (gC G 1) (3) (fun _ => 0))] ++ T0) H locs := ⟨h1, h2, h3⟩
  refine lv_aload_n hx hb d_Mo_init_11 rfl (lv_at hl 0 rfl) ?_
  refine lv_iconst (v := 3) hx hb d_Mo_init_12 (by decide) ?_
  refine W_sz (fun hzu => ?_)
  have hzl := (va_P_mem.mp hW.1 _ (List.mem_of_getElem? (i := 1) rfl)).lt
  have hz : Array.size H = sa + 2 := sz_eq hzu hz0 hzl rfl rfl
  refine h_newa (G := G) (atype := .boolean) (t0 := 1) (N' := 3) (a0 := (3, .inl (fun _ => 0))) hx hb hts kw_540 (List.mem_of_getElem? (i := 1) rfl) hE hW.2.2 (fun _ => by first | rfl | (rw [vp_cell_i]; rfl)) (by decide) (by decide) (by decide) (Nat.le_of_ble_eq_true rfl) (Nat.le_of_ble_eq_true rfl) d_Mo_init_13 (fun H ha9 hz9 hk9 hS9 => ?_)
  rw [hz] at ha9 ⊢
  have hW := WW_push2 hW hbs hz ha9 hk9 hS9
  have hW : WW G zs.heap ([(sa, .inr (iMo, [.int (0), .int (0), .ref (sa + 1), .null, .null, .null, .null, .int (0), .null, .null, .null, .null, .null, .null, .null, .null, .null, .null, .null, .null, .null, .null, .null, .null, .null, .int (0), .int (0)])), (sa + 1, aI (gC G 1) (3) (fun _ => 0)), (sa + 2, aI (gC G 1) (3) (fun _ => 0))] ++ T0) H locs := WW_perm (pm_push [(sa, .inr (iMo, [.int (0), .int (0), .ref (sa + 1), .null, .null, .null, .null, .int (0), .null, .null, .null, .null, .null, .null, .null, .null, .null, .null, .null, .null, .null, .null, .null, .null, .null, .int (0), .int (0)])), (sa + 1, aI (gC G 1) (3) (fun _ => 0))] _ _) hW
  refine va_putF hx hb hts i_Mo t_Mo t_Mo_ok n_Mo hown hK hW.1 hW.2.1 hW.2.2 0 rfl rfl 3 (by decide) (hts _ kw_463) (fun _ h => h) rfl hini rfl (t_Mo_ok 3 (by decide)) rfl rfl (Nat.le_of_ble_eq_true rfl) d_Mo_init_15 (fun H locs h1 h2 h3 => ?_)
  have hW : WW G zs.heap ([(sa, .inr (iMo, [.int (0), .int (0), .ref (sa + 1), .ref (sa + 2), .null, .null, .null, .int (0), .null, .null, .null, .null, .null, .null, .null, .null, .null, .null, .null, .null, .null, .null, .null, .null, .null, .int (0), .int (0)])), (sa + 1, aI (gC G 1) (3) (fun _ => 0)), (sa + 2, aI (gC G 1) (3) (fun _ => 0))] ++ T0) H locs := ⟨h1, h2, h3⟩
  refine lv_aload_n hx hb d_Mo_init_18 rfl (lv_at hl 0 rfl) ?_
  refine lv_iconst (v := 2) hx hb d_Mo_init_19 (by decide) ?_
  refine W_sz (fun hzu => ?_)
  have hzl := (va_P_mem.mp hW.1 _ (List.mem_of_getElem? (i := 2) rfl)).lt
  have hz : Array.size H = sa + 3 := sz_eq hzu hz0 hzl rfl rfl
  refine h_newa (G := G) (atype := .boolean) (t0 := 1) (N' := 2) (a0 := (2, .inl (fun _ => 0))) hx hb hts kw_540 (List.mem_of_getElem? (i := 1) rfl) hE hW.2.2 (fun _ => by first | rfl | (rw [vp_cell_i]; rfl)) (by decide) (by decide) (by decide) (Nat.le_of_ble_eq_true rfl) (Nat.le_of_ble_eq_true rfl) d_Mo_init_20 (fun H ha9 hz9 hk9 hS9 => ?_)
  rw [hz] at ha9 ⊢
  have hW := WW_push2 hW hbs hz ha9 hk9 hS9
  have hW : WW G zs.heap ([(sa, .inr (iMo, [.int (0), .int (0), .ref (sa + 1), .ref (sa + 2), .null, .null, .null, .int (0), .null, .null, .null, .null, .null, .null, .null, .null, .null, .null, .null, .null, .null, .null, .null, .null, .null, .int (0), .int (0)])), (sa + 1, aI (gC G 1) (3) (fun _ => 0)), (sa + 2, aI (gC G 1) (3) (fun _ => 0)), (sa + 3, aI (gC G 1) (2) (fun _ => 0))] ++ T0) H locs := WW_perm (pm_push [(sa, .inr (iMo, [.int (0), .int (0), .ref (sa + 1), .ref (sa + 2), .null, .null, .null, .int (0), .null, .null, .null, .null, .null, .null, .null, .null, .null, .null, .null, .null, .null, .null, .null, .null, .null, .int (0), .int (0)])), (sa + 1, aI (gC G 1) (3) (fun _ => 0)), (sa + 2, aI (gC G 1) (3) (fun _ => 0))] _ _) hW
  refine va_putF hx hb hts i_Mo t_Mo t_Mo_ok n_Mo hown hK hW.1 hW.2.1 hW.2.2 0 rfl rfl 4 (by decide) (hts _ kw_468) (fun _ h => h) rfl hini rfl (t_Mo_ok 4 (by decide)) rfl rfl (Nat.le_of_ble_eq_true rfl) d_Mo_init_22 (fun H locs h1 h2 h3 => ?_)
  have hW : WW G zs.heap ([(sa, .inr (iMo, [.int (0), .int (0), .ref (sa + 1), .ref (sa + 2), .ref (sa + 3), .null, .null, .int (0), .null, .null, .null, .null, .null, .null, .null, .null, .null, .null, .null, .null, .null, .null, .null, .null, .null, .int (0), .int (0)])), (sa + 1, aI (gC G 1) (3) (fun _ => 0)), (sa + 2, aI (gC G 1) (3) (fun _ => 0)), (sa + 3, aI (gC G 1) (2) (fun _ => 0))] ++ T0) H locs := ⟨h1, h2, h3⟩
  refine lv_aload_n hx hb d_Mo_init_25 rfl (lv_at hl 0 rfl) ?_
  refine lv_bipush (v := 12) hx hb d_Mo_init_26 (by decide) ?_
  refine W_sz (fun hzu => ?_)
  have hzl := (va_P_mem.mp hW.1 _ (List.mem_of_getElem? (i := 3) rfl)).lt
  have hz : Array.size H = sa + 4 := sz_eq hzu hz0 hzl rfl rfl
  refine h_newa (G := G) (atype := .int) (t0 := 0) (N' := 12) (a0 := (12, .inl (fun _ => 0))) hx hb hts kw_532 (List.mem_of_getElem? (i := 0) rfl) hE hW.2.2 (fun _ => by first | rfl | (rw [vp_cell_i]; rfl)) (by decide) (by decide) (by decide) (Nat.le_of_ble_eq_true rfl) (Nat.le_of_ble_eq_true rfl) d_Mo_init_28 (fun H ha9 hz9 hk9 hS9 => ?_)
  rw [hz] at ha9 ⊢
  have hW := WW_push2 hW hbs hz ha9 hk9 hS9
  have hW : WW G zs.heap ([(sa, .inr (iMo, [.int (0), .int (0), .ref (sa + 1), .ref (sa + 2), .ref (sa + 3), .null, .null, .int (0), .null, .null, .null, .null, .null, .null, .null, .null, .null, .null, .null, .null, .null, .null, .null, .null, .null, .int (0), .int (0)])), (sa + 1, aI (gC G 1) (3) (fun _ => 0)), (sa + 2, aI (gC G 1) (3) (fun _ => 0)), (sa + 3, aI (gC G 1) (2) (fun _ => 0)), (sa + 4, aI (gC G 0) (12) (fun _ => 0))] ++ T0) H locs := WW_perm (pm_push [(sa, .inr (iMo, [.int (0), .int (0), .ref (sa + 1), .ref (sa + 2), .ref (sa + 3), .null, .null, .int (0), .null, .null, .null, .null, .null, .null, .null, .null, .null, .null, .null, .null, .null, .null, .null, .null, .null, .int (0), .int (0)])), (sa + 1, aI (gC G 1) (3) (fun _ => 0)), (sa + 2, aI (gC G 1) (3) (fun _ => 0)), (sa + 3, aI (gC G 1) (2) (fun _ => 0))] _ _) hW
  refine va_putF hx hb hts i_Mo t_Mo t_Mo_ok n_Mo hown hK hW.1 hW.2.1 hW.2.2 0 rfl rfl 5 (by decide) (hts _ kw_456) (fun _ h => h) rfl hini rfl (t_Mo_ok 5 (by decide)) rfl rfl (Nat.le_of_ble_eq_true rfl) d_Mo_init_30 (fun H locs h1 h2 h3 => ?_)
  have hW : WW G zs.heap ([(sa, .inr (iMo, [.int (0), .int (0), .ref (sa + 1), .ref (sa + 2), .ref (sa + 3), .ref (sa + 4), .null, .int (0), .null, .null, .null, .null, .null, .null, .null, .null, .null, .null, .null, .null, .null, .null, .null, .null, .null, .int (0), .int (0)])), (sa + 1, aI (gC G 1) (3) (fun _ => 0)), (sa + 2, aI (gC G 1) (3) (fun _ => 0)), (sa + 3, aI (gC G 1) (2) (fun _ => 0)), (sa + 4, aI (gC G 0) (12) (fun _ => 0))] ++ T0) H locs := ⟨h1, h2, h3⟩
  refine lv_aload_n hx hb d_Mo_init_33 rfl (lv_at hl 0 rfl) ?_
  refine lv_bipush (v := 12) hx hb d_Mo_init_34 (by decide) ?_
  refine W_sz (fun hzu => ?_)
  have hzl := (va_P_mem.mp hW.1 _ (List.mem_of_getElem? (i := 4) rfl)).lt
  have hz : Array.size H = sa + 5 := sz_eq hzu hz0 hzl rfl rfl
  refine h_newa (G := G) (atype := .int) (t0 := 0) (N' := 12) (a0 := (12, .inl (fun _ => 0))) hx hb hts kw_532 (List.mem_of_getElem? (i := 0) rfl) hE hW.2.2 (fun _ => by first | rfl | (rw [vp_cell_i]; rfl)) (by decide) (by decide) (by decide) (Nat.le_of_ble_eq_true rfl) (Nat.le_of_ble_eq_true rfl) d_Mo_init_36 (fun H ha9 hz9 hk9 hS9 => ?_)
  rw [hz] at ha9 ⊢
  have hW := WW_push2 hW hbs hz ha9 hk9 hS9
  have hW : WW G zs.heap ([(sa, .inr (iMo, [.int (0), .int (0), .ref (sa + 1), .ref (sa + 2), .ref (sa + 3), .ref (sa + 4), .null, .int (0), .null, .null, .null, .null, .null, .null, .null, .null, .null, .null, .null, .null, .null, .null, .null, .null, .null, .int (0), .int (0)])), (sa + 1, aI (gC G 1) (3) (fun _ => 0)), (sa + 2, aI (gC G 1) (3) (fun _ => 0)), (sa + 3, aI (gC G 1) (2) (fun _ => 0)), (sa + 4, aI (gC G 0) (12) (fun _ => 0)), (sa + 5, aI (gC G 0) (12) (fun _ => 0))] ++ T0) H locs := WW_perm (pm_push [(sa, .inr (iMo, [.int (0), .int (0), .ref (sa + 1), .ref (sa + 2), .ref (sa + 3), .ref (sa + 4), .null, .int (0), .null, .null, .null, .null, .null, .null, .null, .null, .null, .null, .null, .null, .null, .null, .null, .null, .null, .int (0), .int (0)])), (sa + 1, aI (gC G 1) (3) (fun _ => 0)), (sa + 2, aI (gC G 1) (3) (fun _ => 0)), (sa + 3, aI (gC G 1) (2) (fun _ => 0)), (sa + 4, aI (gC G 0) (12) (fun _ => 0))] _ _) hW
  refine va_putF hx hb hts i_Mo t_Mo t_Mo_ok n_Mo hown hK hW.1 hW.2.1 hW.2.2 0 rfl rfl 6 (by decide) (hts _ kw_409) (fun _ h => h) rfl hini rfl (t_Mo_ok 6 (by decide)) rfl rfl (Nat.le_of_ble_eq_true rfl) d_Mo_init_38 (fun H locs h1 h2 h3 => ?_)
  have hW : WW G zs.heap ([(sa, .inr (iMo, [.int (0), .int (0), .ref (sa + 1), .ref (sa + 2), .ref (sa + 3), .ref (sa + 4), .ref (sa + 5), .int (0), .null, .null, .null, .null, .null, .null, .null, .null, .null, .null, .null, .null, .null, .null, .null, .null, .null, .int (0), .int (0)])), (sa + 1, aI (gC G 1) (3) (fun _ => 0)), (sa + 2, aI (gC G 1) (3) (fun _ => 0)), (sa + 3, aI (gC G 1) (2) (fun _ => 0)), (sa + 4, aI (gC G 0) (12) (fun _ => 0)), (sa + 5, aI (gC G 0) (12) (fun _ => 0))] ++ T0) H locs := ⟨h1, h2, h3⟩
  refine lv_aload_n hx hb d_Mo_init_41 rfl (lv_at hl 0 rfl) ?_
  refine lv_bipush (v := 8) hx hb d_Mo_init_42 (by decide) ?_
  refine W_sz (fun hzu => ?_)
  have hzl := (va_P_mem.mp hW.1 _ (List.mem_of_getElem? (i := 5) rfl)).lt
  have hz : Array.size H = sa + 6 := sz_eq hzu hz0 hzl rfl rfl
  refine h_newa (G := G) (atype := .int) (t0 := 0) (N' := 8) (a0 := (8, .inl (fun _ => 0))) hx hb hts kw_532 (List.mem_of_getElem? (i := 0) rfl) hE hW.2.2 (fun _ => by first | rfl | (rw [vp_cell_i]; rfl)) (by decide) (by decide) (by decide) (Nat.le_of_ble_eq_true rfl) (Nat.le_of_ble_eq_true rfl) d_Mo_init_44 (fun H ha9 hz9 hk9 hS9 => ?_)
  rw [hz] at ha9 ⊢
  have hW := WW_push2 hW hbs hz ha9 hk9 hS9
  have hW : WW G zs.heap ([(sa, .inr (iMo, [.int (0), .int (0), .ref (sa + 1), .ref (sa + 2), .ref (sa + 3), .ref (sa + 4), .ref (sa + 5), .int (0), .null, .null, .null, .null, .null, .null, .null, .null, .null, .null, .null, .null, .null, .null, .null, .null, .null, .int (0), .int (0)])), (sa + 1, aI (gC G 1) (3) (fun _ => 0)), (sa + 2, aI (gC G 1) (3) (fun _ => 0)), (sa + 3, aI (gC G 1) (2) (fun _ => 0)), (sa + 4, aI (gC G 0) (12) (fun _ => 0)), (sa + 5, aI (gC G 0) (12) (fun _ => 0)), (sa + 6, aI (gC G 0) (8) (fun _ => 0))] ++ T0) H locs := WW_perm (pm_push [(sa, .inr (iMo, [.int (0), .int (0), .ref (sa + 1), .ref (sa + 2), .ref (sa + 3), .ref (sa + 4), .ref (sa + 5), .int (0), .null, .null, .null, .null, .null, .null, .null, .null, .null, .null, .null, .null, .null, .null, .null, .null, .null, .int (0), .int (0)])), (sa + 1, aI (gC G 1) (3) (fun _ => 0)), (sa + 2, aI (gC G 1) (3) (fun _ => 0)), (sa + 3, aI (gC G 1) (2) (fun _ => 0)), (sa + 4, aI (gC G 0) (12) (fun _ => 0)), (sa + 5, aI (gC G 0) (12) (fun _ => 0))] _ _) hW
  refine va_putF hx hb hts i_Mo t_Mo t_Mo_ok n_Mo hown hK hW.1 hW.2.1 hW.2.2 0 rfl rfl 8 (by decide) (hts _ kw_405) (fun _ h => h) rfl hini rfl (t_Mo_ok 8 (by decide)) rfl rfl (Nat.le_of_ble_eq_true rfl) d_Mo_init_46 (fun H locs h1 h2 h3 => ?_)
  have hW : WW G zs.heap ([(sa, .inr (iMo, [.int (0), .int (0), .ref (sa + 1), .ref (sa + 2), .ref (sa + 3), .ref (sa + 4), .ref (sa + 5), .int (0), .ref (sa + 6), .null, .null, .null, .null, .null, .null, .null, .null, .null, .null, .null, .null, .null, .null, .null, .null, .int (0), .int (0)])), (sa + 1, aI (gC G 1) (3) (fun _ => 0)), (sa + 2, aI (gC G 1) (3) (fun _ => 0)), (sa + 3, aI (gC G 1) (2) (fun _ => 0)), (sa + 4, aI (gC G 0) (12) (fun _ => 0)), (sa + 5, aI (gC G 0) (12) (fun _ => 0)), (sa + 6, aI (gC G 0) (8) (fun _ => 0))] ++ T0) H locs := ⟨h1, h2, h3⟩
  refine lv_aload_n hx hb d_Mo_init_49 rfl (lv_at hl 0 rfl) ?_
  refine lv_bipush (v := 8) hx hb d_Mo_init_50 (by decide) ?_
  refine W_sz (fun hzu => ?_)
  have hzl := (va_P_mem.mp hW.1 _ (List.mem_of_getElem? (i := 6) rfl)).lt
  have hz : Array.size H = sa + 7 := sz_eq hzu hz0 hzl rfl rfl
  refine h_newa (G := G) (atype := .boolean) (t0 := 1) (N' := 8) (a0 := (8, .inl (fun _ => 0))) hx hb hts kw_540 (List.mem_of_getElem? (i := 1) rfl) hE hW.2.2 (fun _ => by first | rfl | (rw [vp_cell_i]; rfl)) (by decide) (by decide) (by decide) (Nat.le_of_ble_eq_true rfl) (Nat.le_of_ble_eq_true rfl) d_Mo_init_52 (fun H ha9 hz9 hk9 hS9 => ?_)
  rw [hz] at ha9 ⊢
  have hW := WW_push2 hW hbs hz ha9 hk9 hS9
  have hW : WW G zs.heap ([(sa, .inr (iMo, [.int (0), .int (0), .ref (sa + 1), .ref (sa + 2), .ref (sa + 3), .ref (sa + 4), .ref (sa + 5), .int (0), .ref (sa + 6), .null, .null, .null, .null, .null, .null, .null, .null, .null, .null, .null, .null, .null, .null, .null, .null, .int (0), .int (0)])), (sa + 1, aI (gC G 1) (3) (fun _ => 0)), (sa + 2, aI (gC G 1) (3) (fun _ => 0)), (sa + 3, aI (gC G 1) (2) (fun _ => 0)), (sa + 4, aI (gC G 0) (12) (fun _ => 0)), (sa + 5, aI (gC G 0) (12) (fun _ => 0)), (sa + 6, aI (gC G 0) (8) (fun _ => 0)), (sa + 7, aI (gC G 1) (8) (fun _ => 0))] ++ T0) H locs := WW_perm (pm_push [(sa, .inr (iMo, [.int (0), .int (0), .ref (sa + 1), .ref (sa + 2), .ref (sa + 3), .ref (sa + 4), .ref (sa + 5), .int (0), .ref (sa + 6), .null, .null, .null, .null, .null, .null, .null, .null, .null, .null, .null, .null, .null, .null, .null, .null, .int (0), .int (0)])), (sa + 1, aI (gC G 1) (3) (fun _ => 0)), (sa + 2, aI (gC G 1) (3) (fun _ => 0)), (sa + 3, aI (gC G 1) (2) (fun _ => 0)), (sa + 4, aI (gC G 0) (12) (fun _ => 0)), (sa + 5, aI (gC G 0) (12) (fun _ => 0)), (sa + 6, aI (gC G 0) (8) (fun _ => 0))] _ _) hW
  refine va_putF hx hb hts i_Mo t_Mo t_Mo_ok n_Mo hown hK hW.1 hW.2.1 hW.2.2 0 rfl rfl 9 (by decide) (hts _ kw_494) (fun _ h => h) rfl hini rfl (t_Mo_ok 9 (by decide)) rfl rfl (Nat.le_of_ble_eq_true rfl) d_Mo_init_54 (fun H locs h1 h2 h3 => ?_)
  have hW : WW G zs.heap ([(sa, .inr (iMo, [.int (0), .int (0), .ref (sa + 1), .ref (sa + 2), .ref (sa + 3), .ref (sa + 4), .ref (sa + 5), .int (0), .ref (sa + 6), .ref (sa + 7), .null, .null, .null, .null, .null, .null, .null, .null, .null, .null, .null, .null, .null, .null, .null, .int (0), .int (0)])), (sa + 1, aI (gC G 1) (3) (fun _ => 0)), (sa + 2, aI (gC G 1) (3) (fun _ => 0)), (sa + 3, aI (gC G 1) (2) (fun _ => 0)), (sa + 4, aI (gC G 0) (12) (fun _ => 0)), (sa + 5, aI (gC G 0) (12) (fun _ => 0)), (sa + 6, aI (gC G 0) (8) (fun _ => 0)), (sa + 7, aI (gC G 1) (8) (fun _ => 0))] ++ T0) H locs := ⟨h1, h2, h3⟩
  refine lv_aload_n hx hb d_Mo_init_57 rfl (lv_at hl 0 rfl) ?_
  refine lv_bipush (v := 24) hx hb d_Mo_init_58 (by decide) ?_
  refine W_sz (fun hzu => ?_)
  have hzl := (va_P_mem.mp hW.1 _ (List.mem_of_getElem? (i := 7) rfl)).lt
  have hz : Array.size H = sa + 8 := sz_eq hzu hz0 hzl rfl rfl
  refine h_newa (G := G) (atype := .int) (t0 := 0) (N' := 24) (a0 := (24, .inl (fun _ => 0))) hx hb hts kw_532 (List.mem_of_getElem? (i := 0) rfl) hE hW.2.2 (fun _ => by first | rfl | (rw [vp_cell_i]; rfl)) (by decide) (by decide) (by decide) (Nat.le_of_ble_eq_true rfl) (Nat.le_of_ble_eq_true rfl) d_Mo_init_60 (fun H ha9 hz9 hk9 hS9 => ?_)
  rw [hz] at ha9 ⊢
  have hW := WW_push2 hW hbs hz ha9 hk9 hS9
  have hW : WW G zs.heap ([(sa, .inr (iMo, [.int (0), .int (0), .ref (sa + 1), .ref (sa + 2), .ref (sa + 3), .ref (sa + 4), .ref (sa + 5), .int (0), .ref (sa + 6), .ref (sa + 7), .null, .null, .null, .null, .null, .null, .null, .null, .null, .null, .null, .null, .null, .null, .null, .int (0), .int (0)])), (sa + 1, aI (gC G 1) (3) (fun _ => 0)), (sa + 2, aI (gC G 1) (3) (fun _ => 0)), (sa + 3, aI (gC G 1) (2) (fun _ => 0)), (sa + 4, aI (gC G 0) (12) (fun _ => 0)), (sa + 5, aI (gC G 0) (12) (fun _ => 0)), (sa + 6, aI (gC G 0) (8) (fun _ => 0)), (sa + 7, aI (gC G 1) (8) (fun _ => 0)), (sa + 8, aI (gC G 0) (24) (fun _ => 0))] ++ T0) H locs := WW_perm (pm_push [(sa, .inr (iMo, [.int (0), .int (0), .ref (sa + 1), .ref (sa + 2), .ref (sa + 3), .ref (sa + 4), .ref (sa + 5), .int (0), .ref (sa + 6), .ref (sa + 7), .null, .null, .null, .null, .null, .null, .null, .null, .null, .null, .null, .null, .null, .null, .null, .int (0), .int (0)])), (sa + 1, aI (gC G 1) (3) (fun _ => 0)), (sa + 2, aI (gC G 1) (3) (fun _ => 0)), (sa + 3, aI (gC G 1) (2) (fun _ => 0)), (sa + 4, aI (gC G 0) (12) (fun _ => 0)), (sa + 5, aI (gC G 0) (12) (fun _ => 0)), (sa + 6, aI (gC G 0) (8) (fun _ => 0)), (sa + 7, aI (gC G 1) (8) (fun _ => 0))] _ _) hW
  refine va_putF hx hb hts i_Mo t_Mo t_Mo_ok n_Mo hown hK hW.1 hW.2.1 hW.2.2 0 rfl rfl 10 (by decide) (hts _ kw_410) (fun _ h => h) rfl hini rfl (t_Mo_ok 10 (by decide)) rfl rfl (Nat.le_of_ble_eq_true rfl) d_Mo_init_62 (fun H locs h1 h2 h3 => ?_)
  have hW : WW G zs.heap ([(sa, .inr (iMo, [.int (0), .int (0), .ref (sa + 1), .ref (sa + 2), .ref (sa + 3), .ref (sa + 4), .ref (sa + 5), .int (0), .ref (sa + 6), .ref (sa + 7), .ref (sa + 8), .null, .null, .null, .null, .null, .null, .null, .null, .null, .null, .null, .null, .null, .null, .int (0), .int (0)])), (sa + 1, aI (gC G 1) (3) (fun _ => 0)), (sa + 2, aI (gC G 1) (3) (fun _ => 0)), (sa + 3, aI (gC G 1) (2) (fun _ => 0)), (sa + 4, aI (gC G 0) (12) (fun _ => 0)), (sa + 5, aI (gC G 0) (12) (fun _ => 0)), (sa + 6, aI (gC G 0) (8) (fun _ => 0)), (sa + 7, aI (gC G 1) (8) (fun _ => 0)), (sa + 8, aI (gC G 0) (24) (fun _ => 0))] ++ T0) H locs := ⟨h1, h2, h3⟩
  refine lv_aload_n hx hb d_Mo_init_65 rfl (lv_at hl 0 rfl) ?_
  refine lv_bipush (v := 24) hx hb d_Mo_init_66 (by decide) ?_
  refine W_sz (fun hzu => ?_)
  have hzl := (va_P_mem.mp hW.1 _ (List.mem_of_getElem? (i := 8) rfl)).lt
  have hz : Array.size H = sa + 9 := sz_eq hzu hz0 hzl rfl rfl
  refine h_newa (G := G) (atype := .int) (t0 := 0) (N' := 24) (a0 := (24, .inl (fun _ => 0))) hx hb hts kw_532 (List.mem_of_getElem? (i := 0) rfl) hE hW.2.2 (fun _ => by first | rfl | (rw [vp_cell_i]; rfl)) (by decide) (by decide) (by decide) (Nat.le_of_ble_eq_true rfl) (Nat.le_of_ble_eq_true rfl) d_Mo_init_68 (fun H ha9 hz9 hk9 hS9 => ?_)
  rw [hz] at ha9 ⊢
  have hW := WW_push2 hW hbs hz ha9 hk9 hS9
  have hW : WW G zs.heap ([(sa, .inr (iMo, [.int (0), .int (0), .ref (sa + 1), .ref (sa + 2), .ref (sa + 3), .ref (sa + 4), .ref (sa + 5), .int (0), .ref (sa + 6), .ref (sa + 7), .ref (sa + 8), .null, .null, .null, .null, .null, .null, .null, .null, .null, .null, .null, .null, .null, .null, .int (0), .int (0)])), (sa + 1, aI (gC G 1) (3) (fun _ => 0)), (sa + 2, aI (gC G 1) (3) (fun _ => 0)), (sa + 3, aI (gC G 1) (2) (fun _ => 0)), (sa + 4, aI (gC G 0) (12) (fun _ => 0)), (sa + 5, aI (gC G 0) (12) (fun _ => 0)), (sa + 6, aI (gC G 0) (8) (fun _ => 0)), (sa + 7, aI (gC G 1) (8) (fun _ => 0)), (sa + 8, aI (gC G 0) (24) (fun _ => 0)), (sa + 9, aI (gC G 0) (24) (fun _ => 0))] ++ T0) H locs := WW_perm (pm_push [(sa, .inr (iMo, [.int (0), .int (0), .ref (sa + 1), .ref (sa + 2), .ref (sa + 3), .ref (sa + 4), .ref (sa + 5), .int (0), .ref (sa + 6), .ref (sa + 7), .ref (sa + 8), .null, .null, .null, .null, .null, .null, .null, .null, .null, .null, .null, .null, .null, .null, .int (0), .int (0)])), (sa + 1, aI (gC G 1) (3) (fun _ => 0)), (sa + 2, aI (gC G 1) (3) (fun _ => 0)), (sa + 3, aI (gC G 1) (2) (fun _ => 0)), (sa + 4, aI (gC G 0) (12) (fun _ => 0)), (sa + 5, aI (gC G 0) (12) (fun _ => 0)), (sa + 6, aI (gC G 0) (8) (fun _ => 0)), (sa + 7, aI (gC G 1) (8) (fun _ => 0)), (sa + 8, aI (gC G 0) (24) (fun _ => 0))] _ _) hW
  refine va_putF hx hb hts i_Mo t_Mo t_Mo_ok n_Mo hown hK hW.1 hW.2.1 hW.2.2 0 rfl rfl 11 (by decide) (hts _ kw_455) (fun _ h => h) rfl hini rfl (t_Mo_ok 11 (by decide)) rfl rfl (Nat.le_of_ble_eq_true rfl) d_Mo_init_70 (fun H locs h1 h2 h3 => ?_)
  have hW : WW G zs.heap ([(sa, .inr (iMo, [.int (0), .int (0), .ref (sa + 1), .ref (sa + 2), .ref (sa + 3), .ref (sa + 4), .ref (sa + 5), .int (0), .ref (sa + 6), .ref (sa + 7), .ref (sa + 8), .ref (sa + 9), .null, .null, .null, .null, .null, .null, .null, .null, .null, .null, .null, .null, .null, .int (0), .int (0)])), (sa + 1, aI (gC G 1) (3) (fun _ => 0)), (sa + 2, aI (gC G 1) (3) (fun _ => 0)), (sa + 3, aI (gC G 1) (2) (fun _ => 0)), (sa + 4, aI (gC G 0) (12) (fun _ => 0)), (sa + 5, aI (gC G 0) (12) (fun _ => 0)), (sa + 6, aI (gC G 0) (8) (fun _ => 0)), (sa + 7, aI (gC G 1) (8) (fun _ => 0)), (sa + 8, aI (gC G 0) (24) (fun _ => 0)), (sa + 9, aI (gC G 0) (24) (fun _ => 0))] ++ T0) H locs := ⟨h1, h2, h3⟩
  refine lv_aload_n hx hb d_Mo_init_73 rfl (lv_at hl 0 rfl) ?_
  refine lv_bipush (v := 96) hx hb d_Mo_init_74 (by decide) ?_
  refine W_sz (fun hzu => ?_)
  have hzl := (va_P_mem.mp hW.1 _ (List.mem_of_getElem? (i := 9) rfl)).lt
  have hz : Array.size H = sa + 10 := sz_eq hzu hz0 hzl rfl rfl
  refine h_newa (G := G) (atype := .int) (t0 := 0) (N' := 96) (a0 := (96, .inl (fun _ => 0))) hx hb hts kw_532 (List.mem_of_getElem? (i := 0) rfl) hE hW.2.2 (fun _ => by first | rfl | (rw [vp_cell_i]; rfl)) (by decide) (by decide) (by decide) (Nat.le_of_ble_eq_true rfl) (Nat.le_of_ble_eq_true rfl) d_Mo_init_76 (fun H ha9 hz9 hk9 hS9 => ?_)
  rw [hz] at ha9 ⊢
  have hW := WW_push2 hW hbs hz ha9 hk9 hS9
  have hW : WW G zs.heap ([(sa, .inr (iMo, [.int (0), .int (0), .ref (sa + 1), .ref (sa + 2), .ref (sa + 3), .ref (sa + 4), .ref (sa + 5), .int (0), .ref (sa + 6), .ref (sa + 7), .ref (sa + 8), .ref (sa + 9), .null, .null, .null, .null, .null, .null, .null, .null, .null, .null, .null, .null, .null, .int (0), .int (0)])), (sa + 1, aI (gC G 1) (3) (fun _ => 0)), (sa + 2, aI (gC G 1) (3) (fun _ => 0)), (sa + 3, aI (gC G 1) (2) (fun _ => 0)), (sa + 4, aI (gC G 0) (12) (fun _ => 0)), (sa + 5, aI (gC G 0) (12) (fun _ => 0)), (sa + 6, aI (gC G 0) (8) (fun _ => 0)), (sa + 7, aI (gC G 1) (8) (fun _ => 0)), (sa + 8, aI (gC G 0) (24) (fun _ => 0)), (sa + 9, aI (gC G 0) (24) (fun _ => 0)), (sa + 10, aI (gC G 0) (96) (fun _ => 0))] ++ T0) H locs := WW_perm (pm_push [(sa, .inr (iMo, [.int (0), .int (0), .ref (sa + 1), .ref (sa + 2), .ref (sa + 3), .ref (sa + 4), .ref (sa + 5), .int (0), .ref (sa + 6), .ref (sa + 7), .ref (sa + 8), .ref (sa + 9), .null, .null, .null, .null, .null, .null, .null, .null, .null, .null, .null, .null, .null, .int (0), .int (0)])), (sa + 1, aI (gC G 1) (3) (fun _ => 0)), (sa + 2, aI (gC G 1) (3) (fun _ => 0)), (sa + 3, aI (gC G 1) (2) (fun _ => 0)), (sa + 4, aI (gC G 0) (12) (fun _ => 0)), (sa + 5, aI (gC G 0) (12) (fun _ => 0)), (sa + 6, aI (gC G 0) (8) (fun _ => 0)), (sa + 7, aI (gC G 1) (8) (fun _ => 0)), (sa + 8, aI (gC G 0) (24) (fun _ => 0)), (sa + 9, aI (gC G 0) (24) (fun _ => 0))] _ _) hW
  refine va_putF hx hb hts i_Mo t_Mo t_Mo_ok n_Mo hown hK hW.1 hW.2.1 hW.2.2 0 rfl rfl 12 (by decide) (hts _ kw_457) (fun _ h => h) rfl hini rfl (t_Mo_ok 12 (by decide)) rfl rfl (Nat.le_of_ble_eq_true rfl) d_Mo_init_78 (fun H locs h1 h2 h3 => ?_)
  have hW : WW G zs.heap ([(sa, .inr (iMo, [.int (0), .int (0), .ref (sa + 1), .ref (sa + 2), .ref (sa + 3), .ref (sa + 4), .ref (sa + 5), .int (0), .ref (sa + 6), .ref (sa + 7), .ref (sa + 8), .ref (sa + 9), .ref (sa + 10), .null, .null, .null, .null, .null, .null, .null, .null, .null, .null, .null, .null, .int (0), .int (0)])), (sa + 1, aI (gC G 1) (3) (fun _ => 0)), (sa + 2, aI (gC G 1) (3) (fun _ => 0)), (sa + 3, aI (gC G 1) (2) (fun _ => 0)), (sa + 4, aI (gC G 0) (12) (fun _ => 0)), (sa + 5, aI (gC G 0) (12) (fun _ => 0)), (sa + 6, aI (gC G 0) (8) (fun _ => 0)), (sa + 7, aI (gC G 1) (8) (fun _ => 0)), (sa + 8, aI (gC G 0) (24) (fun _ => 0)), (sa + 9, aI (gC G 0) (24) (fun _ => 0)), (sa + 10, aI (gC G 0) (96) (fun _ => 0))] ++ T0) H locs := ⟨h1, h2, h3⟩
  refine lv_aload_n hx hb d_Mo_init_81 rfl (lv_at hl 0 rfl) ?_
  refine lv_bipush (v := 72) hx hb d_Mo_init_82 (by decide) ?_
  refine W_sz (fun hzu => ?_)
  have hzl := (va_P_mem.mp hW.1 _ (List.mem_of_getElem? (i := 10) rfl)).lt
  have hz : Array.size H = sa + 11 := sz_eq hzu hz0 hzl rfl rfl
  refine h_newa (G := G) (atype := .int) (t0 := 0) (N' := 72) (a0 := (72, .inl (fun _ => 0))) hx hb hts kw_532 (List.mem_of_getElem? (i := 0) rfl) hE hW.2.2 (fun _ => by first | rfl | (rw [vp_cell_i]; rfl)) (by decide) (by decide) (by decide) (Nat.le_of_ble_eq_true rfl) (Nat.le_of_ble_eq_true rfl) d_Mo_init_84 (fun H ha9 hz9 hk9 hS9 => ?_)
  rw [hz] at ha9 ⊢
  have hW := WW_push2 hW hbs hz ha9 hk9 hS9
  have hW : WW G zs.heap ([(sa, .inr (iMo, [.int (0), .int (0), .ref (sa + 1), .ref (sa + 2), .ref (sa + 3), .ref (sa + 4), .ref (sa + 5), .int (0), .ref (sa + 6), .ref (sa + 7), .ref (sa + 8), .ref (sa + 9), .ref (sa + 10), .null, .null, .null, .null, .null, .null, .null, .null, .null, .null, .null, .null, .int (0), .int (0)])), (sa + 1, aI (gC G 1) (3) (fun _ => 0)), (sa + 2, aI (gC G 1) (3) (fun _ => 0)), (sa + 3, aI (gC G 1) (2) (fun _ => 0)), (sa + 4, aI (gC G 0) (12) (fun _ => 0)), (sa + 5, aI (gC G 0) (12) (fun _ => 0)), (sa + 6, aI (gC G 0) (8) (fun _ => 0)), (sa + 7, aI (gC G 1) (8) (fun _ => 0)), (sa + 8, aI (gC G 0) (24) (fun _ => 0)), (sa + 9, aI (gC G 0) (24) (fun _ => 0)), (sa + 10, aI (gC G 0) (96) (fun _ => 0)), (sa + 11, aI (gC G 0) (72) (fun _ => 0))] ++ T0) H locs := WW_perm (pm_push [(sa, .inr (iMo, [.int (0), .int (0), .ref (sa + 1), .ref (sa + 2), .ref (sa + 3), .ref (sa + 4), .ref (sa + 5), .int (0), .ref (sa + 6), .ref (sa + 7), .ref (sa + 8), .ref (sa + 9), .ref (sa + 10), .null, .null, .null, .null, .null, .null, .null, .null, .null, .null, .null, .null, .int (0), .int (0)])), (sa + 1, aI (gC G 1) (3) (fun _ => 0)), (sa + 2, aI (gC G 1) (3) (fun _ => 0)), (sa + 3, aI (gC G 1) (2) (fun _ => 0)), (sa + 4, aI (gC G 0) (12) (fun _ => 0)), (sa + 5, aI (gC G 0) (12) (fun _ => 0)), (sa + 6, aI (gC G 0) (8) (fun _ => 0)), (sa + 7, aI (gC G 1) (8) (fun _ => 0)), (sa + 8, aI (gC G 0) (24) (fun _ => 0)), (sa + 9, aI (gC G 0) (24) (fun _ => 0)), (sa + 10, aI (gC G 0) (96) (fun _ => 0))] _ _) hW
  refine va_putF hx hb hts i_Mo t_Mo t_Mo_ok n_Mo hown hK hW.1 hW.2.1 hW.2.2 0 rfl rfl 13 (by decide) (hts _ kw_443) (fun _ h => h) rfl hini rfl (t_Mo_ok 13 (by decide)) rfl rfl (Nat.le_of_ble_eq_true rfl) d_Mo_init_86 (fun H locs h1 h2 h3 => ?_)
  have hW : WW G zs.heap ([(sa, .inr (iMo, [.int (0), .int (0), .ref (sa + 1), .ref (sa + 2), .ref (sa + 3), .ref (sa + 4), .ref (sa + 5), .int (0), .ref (sa + 6), .ref (sa + 7), .ref (sa + 8), .ref (sa + 9), .ref (sa + 10), .ref (sa + 11), .null, .null, .null, .null, .null, .null, .null, .null, .null, .null, .null, .int (0), .int (0)])), (sa + 1, aI (gC G 1) (3) (fun _ => 0)), (sa + 2, aI (gC G 1) (3) (fun _ => 0)), (sa + 3, aI (gC G 1) (2) (fun _ => 0)), (sa + 4, aI (gC G 0) (12) (fun _ => 0)), (sa + 5, aI (gC G 0) (12) (fun _ => 0)), (sa + 6, aI (gC G 0) (8) (fun _ => 0)), (sa + 7, aI (gC G 1) (8) (fun _ => 0)), (sa + 8, aI (gC G 0) (24) (fun _ => 0)), (sa + 9, aI (gC G 0) (24) (fun _ => 0)), (sa + 10, aI (gC G 0) (96) (fun _ => 0)), (sa + 11, aI (gC G 0) (72) (fun _ => 0))] ++ T0) H locs := ⟨h1, h2, h3⟩
  refine lv_aload_n hx hb d_Mo_init_89 rfl (lv_at hl 0 rfl) ?_
  refine lv_bipush (v := 72) hx hb d_Mo_init_90 (by decide) ?_
  refine W_sz (fun hzu => ?_)
  have hzl := (va_P_mem.mp hW.1 _ (List.mem_of_getElem? (i := 11) rfl)).lt
  have hz : Array.size H = sa + 12 := sz_eq hzu hz0 hzl rfl rfl
  refine h_newa (G := G) (atype := .int) (t0 := 0) (N' := 72) (a0 := (72, .inl (fun _ => 0))) hx hb hts kw_532 (List.mem_of_getElem? (i := 0) rfl) hE hW.2.2 (fun _ => by first | rfl | (rw [vp_cell_i]; rfl)) (by decide) (by decide) (by decide) (Nat.le_of_ble_eq_true rfl) (Nat.le_of_ble_eq_true rfl) d_Mo_init_92 (fun H ha9 hz9 hk9 hS9 => ?_)
  rw [hz] at ha9 ⊢
  have hW := WW_push2 hW hbs hz ha9 hk9 hS9
  have hW : WW G zs.heap ([(sa, .inr (iMo, [.int (0), .int (0), .ref (sa + 1), .ref (sa + 2), .ref (sa + 3), .ref (sa + 4), .ref (sa + 5), .int (0), .ref (sa + 6), .ref (sa + 7), .ref (sa + 8), .ref (sa + 9), .ref (sa + 10), .ref (sa + 11), .null, .null, .null, .null, .null, .null, .null, .null, .null, .null, .null, .int (0), .int (0)])), (sa + 1, aI (gC G 1) (3) (fun _ => 0)), (sa + 2, aI (gC G 1) (3) (fun _ => 0)), (sa + 3, aI (gC G 1) (2) (fun _ => 0)), (sa + 4, aI (gC G 0) (12) (fun _ => 0)), (sa + 5, aI (gC G 0) (12) (fun _ => 0)), (sa + 6, aI (gC G 0) (8) (fun _ => 0)), (sa + 7, aI (gC G 1) (8) (fun _ => 0)), (sa + 8, aI (gC G 0) (24) (fun _ => 0)), (sa + 9, aI (gC G 0) (24) (fun _ => 0)), (sa + 10, aI (gC G 0) (96) (fun _ => 0)), (sa + 11, aI (gC G 0) (72) (fun _ => 0)), (sa + 12, aI (gC G 0) (72) (fun _ => 0))] ++ T0) H locs := WW_perm (pm_push [(sa, .inr (iMo, [.int (0), .int (0), .ref (sa + 1), .ref (sa + 2), .ref (sa + 3), .ref (sa + 4), .ref (sa + 5), .int (0), .ref (sa + 6), .ref (sa + 7), .ref (sa + 8), .ref (sa + 9), .ref (sa + 10), .ref (sa + 11), .null, .null, .null, .null, .null, .null, .null, .null, .null, .null, .null, .int (0), .int (0)])), (sa + 1, aI (gC G 1) (3) (fun _ => 0)), (sa + 2, aI (gC G 1) (3) (fun _ => 0)), (sa + 3, aI (gC G 1) (2) (fun _ => 0)), (sa + 4, aI (gC G 0) (12) (fun _ => 0)), (sa + 5, aI (gC G 0) (12) (fun _ => 0)), (sa + 6, aI (gC G 0) (8) (fun _ => 0)), (sa + 7, aI (gC G 1) (8) (fun _ => 0)), (sa + 8, aI (gC G 0) (24) (fun _ => 0)), (sa + 9, aI (gC G 0) (24) (fun _ => 0)), (sa + 10, aI (gC G 0) (96) (fun _ => 0)), (sa + 11, aI (gC G 0) (72) (fun _ => 0))] _ _) hW
  refine va_putF hx hb hts i_Mo t_Mo t_Mo_ok n_Mo hown hK hW.1 hW.2.1 hW.2.2 0 rfl rfl 14 (by decide) (hts _ kw_442) (fun _ h => h) rfl hini rfl (t_Mo_ok 14 (by decide)) rfl rfl (Nat.le_of_ble_eq_true rfl) d_Mo_init_94 (fun H locs h1 h2 h3 => ?_)
  have hW : WW G zs.heap ([(sa, .inr (iMo, [.int (0), .int (0), .ref (sa + 1), .ref (sa + 2), .ref (sa + 3), .ref (sa + 4), .ref (sa + 5), .int (0), .ref (sa + 6), .ref (sa + 7), .ref (sa + 8), .ref (sa + 9), .ref (sa + 10), .ref (sa + 11), .ref (sa + 12), .null, .null, .null, .null, .null, .null, .null, .null, .null, .null, .int (0), .int (0)])), (sa + 1, aI (gC G 1) (3) (fun _ => 0)), (sa + 2, aI (gC G 1) (3) (fun _ => 0)), (sa + 3, aI (gC G 1) (2) (fun _ => 0)), (sa + 4, aI (gC G 0) (12) (fun _ => 0)), (sa + 5, aI (gC G 0) (12) (fun _ => 0)), (sa + 6, aI (gC G 0) (8) (fun _ => 0)), (sa + 7, aI (gC G 1) (8) (fun _ => 0)), (sa + 8, aI (gC G 0) (24) (fun _ => 0)), (sa + 9, aI (gC G 0) (24) (fun _ => 0)), (sa + 10, aI (gC G 0) (96) (fun _ => 0)), (sa + 11, aI (gC G 0) (72) (fun _ => 0)), (sa + 12, aI (gC G 0) (72) (fun _ => 0))] ++ T0) H locs := ⟨h1, h2, h3⟩
  refine lv_aload_n hx hb d_Mo_init_97 rfl (lv_at hl 0 rfl) ?_
  refine lv_bipush (v := 72) hx hb d_Mo_init_98 (by decide) ?_
  refine W_sz (fun hzu => ?_)
  have hzl := (va_P_mem.mp hW.1 _ (List.mem_of_getElem? (i := 12) rfl)).lt
  have hz : Array.size H = sa + 13 := sz_eq hzu hz0 hzl rfl rfl
  refine h_newa (G := G) (atype := .int) (t0 := 0) (N' := 72) (a0 := (72, .inl (fun _ => 0))) hx hb hts kw_532 (List.mem_of_getElem? (i := 0) rfl) hE hW.2.2 (fun _ => by first | rfl | (rw [vp_cell_i]; rfl)) (by decide) (by decide) (by decide) (Nat.le_of_ble_eq_true rfl) (Nat.le_of_ble_eq_true rfl) d_Mo_init_100 (fun H ha9 hz9 hk9 hS9 => ?_)
  rw [hz] at ha9 ⊢
  have hW := WW_push2 hW hbs hz ha9 hk9 hS9
  have hW : WW G zs.heap ([(sa, .inr (iMo, [.int (0), .int (0), .ref (sa + 1), .ref (sa + 2), .ref (sa + 3), .ref (sa + 4), .ref (sa + 5), .int (0), .ref (sa + 6), .ref (sa + 7), .ref (sa + 8), .ref (sa + 9), .ref (sa + 10), .ref (sa + 11), .ref (sa + 12), .null, .null, .null, .null, .null, .null, .null, .null, .null, .null, .int (0), .int (0)])), (sa + 1, aI (gC G 1) (3) (fun _ => 0)), (sa + 2, aI (gC G 1) (3) (fun _ => 0)), (sa + 3, aI (gC G 1) (2) (fun _ => 0)), (sa + 4, aI (gC G 0) (12) (fun _ => 0)), (sa + 5, aI (gC G 0) (12) (fun _ => 0)), (sa + 6, aI (gC G 0) (8) (fun _ => 0)), (sa + 7, aI (gC G 1) (8) (fun _ => 0)), (sa + 8, aI (gC G 0) (24) (fun _ => 0)), (sa + 9, aI (gC G 0) (24) (fun _ => 0)), (sa + 10, aI (gC G 0) (96) (fun _ => 0)), (sa + 11, aI (gC G 0) (72) (fun _ => 0)), (sa + 12, aI (gC G 0) (72) (fun _ => 0)), (sa + 13, aI (gC G 0) (72) (fun _ => 0))] ++ T0) H locs := WW_perm (pm_push [(sa, .inr (iMo, [.int (0), .int (0), .ref (sa + 1), .ref (sa + 2), .ref (sa + 3), .ref (sa + 4), .ref (sa + 5), .int (0), .ref (sa + 6), .ref (sa + 7), .ref (sa + 8), .ref (sa + 9), .ref (sa + 10), .ref (sa + 11), .ref (sa + 12), .null, .null, .null, .null, .null, .null, .null, .null, .null, .null, .int (0), .int (0)])), (sa + 1, aI (gC G 1) (3) (fun _ => 0)), (sa + 2, aI (gC G 1) (3) (fun _ => 0)), (sa + 3, aI (gC G 1) (2) (fun _ => 0)), (sa + 4, aI (gC G 0) (12) (fun _ => 0)), (sa + 5, aI (gC G 0) (12) (fun _ => 0)), (sa + 6, aI (gC G 0) (8) (fun _ => 0)), (sa + 7, aI (gC G 1) (8) (fun _ => 0)), (sa + 8, aI (gC G 0) (24) (fun _ => 0)), (sa + 9, aI (gC G 0) (24) (fun _ => 0)), (sa + 10, aI (gC G 0) (96) (fun _ => 0)), (sa + 11, aI (gC G 0) (72) (fun _ => 0)), (sa + 12, aI (gC G 0) (72) (fun _ => 0))] _ _) hW
  refine va_putF hx hb hts i_Mo t_Mo t_Mo_ok n_Mo hown hK hW.1 hW.2.1 hW.2.2 0 rfl rfl 15 (by decide) (hts _ kw_441) (fun _ h => h) rfl hini rfl (t_Mo_ok 15 (by decide)) rfl rfl (Nat.le_of_ble_eq_true rfl) d_Mo_init_102 (fun H locs h1 h2 h3 => ?_)
  have hW : WW G zs.heap ([(sa, .inr (iMo, [.int (0), .int (0), .ref (sa + 1), .ref (sa + 2), .ref (sa + 3), .ref (sa + 4), .ref (sa + 5), .int (0), .ref (sa + 6), .ref (sa + 7), .ref (sa + 8), .ref (sa + 9), .ref (sa + 10), .ref (sa + 11), .ref (sa + 12), .ref (sa + 13), .null, .null, .null, .null, .null, .null, .null, .null, .null, .int (0), .int (0)])), (sa + 1, aI (gC G 1) (3) (fun _ => 0)), (sa + 2, aI (gC G 1) (3) (fun _ => 0)), (sa + 3, aI (gC G 1) (2) (fun _ => 0)), (sa + 4, aI (gC G 0) (12) (fun _ => 0)), (sa + 5, aI (gC G 0) (12) (fun _ => 0)), (sa + 6, aI (gC G 0) (8) (fun _ => 0)), (sa + 7, aI (gC G 1) (8) (fun _ => 0)), (sa + 8, aI (gC G 0) (24) (fun _ => 0)), (sa + 9, aI (gC G 0) (24) (fun _ => 0)), (sa + 10, aI (gC G 0) (96) (fun _ => 0)), (sa + 11, aI (gC G 0) (72) (fun _ => 0)), (sa + 12, aI (gC G 0) (72) (fun _ => 0)), (sa + 13, aI (gC G 0) (72) (fun _ => 0))] ++ T0) H locs := ⟨h1, h2, h3⟩
  refine lv_aload_n hx hb d_Mo_init_105 rfl (lv_at hl 0 rfl) ?_
  refine lv_bipush (v := 16) hx hb d_Mo_init_106 (by decide) ?_
  refine W_sz (fun hzu => ?_)
  have hzl := (va_P_mem.mp hW.1 _ (List.mem_of_getElem? (i := 13) rfl)).lt
  have hz : Array.size H = sa + 14 := sz_eq hzu hz0 hzl rfl rfl
  refine h_newa (G := G) (atype := .int) (t0 := 0) (N' := 16) (a0 := (16, .inl (fun _ => 0))) hx hb hts kw_532 (List.mem_of_getElem? (i := 0) rfl) hE hW.2.2 (fun _ => by first | rfl | (rw [vp_cell_i]; rfl)) (by decide) (by decide) (by decide) (Nat.le_of_ble_eq_true rfl) (Nat.le_of_ble_eq_true rfl) d_Mo_init_108 (fun H ha9 hz9 hk9 hS9 => ?_)
  rw [hz] at ha9 ⊢
  have hW := WW_push2 hW hbs hz ha9 hk9 hS9
  have hW : WW G zs.heap ([(sa, .inr (iMo, [.int (0), .int (0), .ref (sa + 1), .ref (sa + 2), .ref (sa + 3), .ref (sa + 4), .ref (sa + 5), .int (0), .ref (sa + 6), .ref (sa + 7), .ref (sa + 8), .ref (sa + 9), .ref (sa + 10), .ref (sa + 11), .ref (sa + 12), .ref (sa + 13), .null, .null, .null, .null, .null, .null, .null, .null, .null, .int (0), .int (0)])), (sa + 1, aI (gC G 1) (3) (fun _ => 0)), (sa + 2, aI (gC G 1) (3) (fun _ => 0)), (sa + 3, aI (gC G 1) (2) (fun _ => 0)), (sa + 4, aI (gC G 0) (12) (fun _ => 0)), (sa + 5, aI (gC G 0) (12) (fun _ => 0)), (sa + 6, aI (gC G 0) (8) (fun _ => 0)), (sa + 7, aI (gC G 1) (8) (fun _ => 0)), (sa + 8, aI (gC G 0) (24) (fun _ => 0)), (sa + 9, aI (gC G 0) (24) (fun _ => 0)), (sa + 10, aI (gC G 0) (96) (fun _ => 0)), (sa + 11, aI (gC G 0) (72) (fun _ => 0)), (sa + 12, aI (gC G 0) (72) (fun _ => 0)), (sa + 13, aI (gC G 0) (72) (fun _ => 0)), (sa + 14, aI (gC G 0) (16) (fun _ => 0))] ++ T0) H locs := WW_perm (pm_push [(sa, .inr (iMo, [.int (0), .int (0), .ref (sa + 1), .ref (sa + 2), .ref (sa + 3), .ref (sa + 4), .ref (sa + 5), .int (0), .ref (sa + 6), .ref (sa + 7), .ref (sa + 8), .ref (sa + 9), .ref (sa + 10), .ref (sa + 11), .ref (sa + 12), .ref (sa + 13), .null, .null, .null, .null, .null, .null, .null, .null, .null, .int (0), .int (0)])), (sa + 1, aI (gC G 1) (3) (fun _ => 0)), (sa + 2, aI (gC G 1) (3) (fun _ => 0)), (sa + 3, aI (gC G 1) (2) (fun _ => 0)), (sa + 4, aI (gC G 0) (12) (fun _ => 0)), (sa + 5, aI (gC G 0) (12) (fun _ => 0)), (sa + 6, aI (gC G 0) (8) (fun _ => 0)), (sa + 7, aI (gC G 1) (8) (fun _ => 0)), (sa + 8, aI (gC G 0) (24) (fun _ => 0)), (sa + 9, aI (gC G 0) (24) (fun _ => 0)), (sa + 10, aI (gC G 0) (96) (fun _ => 0)), (sa + 11, aI (gC G 0) (72) (fun _ => 0)), (sa + 12, aI (gC G 0) (72) (fun _ => 0)), (sa + 13, aI (gC G 0) (72) (fun _ => 0))] _ _) hW
  refine va_putF hx hb hts i_Mo t_Mo t_Mo_ok n_Mo hown hK hW.1 hW.2.1 hW.2.2 0 rfl rfl 16 (by decide) (hts _ kw_444) (fun _ h => h) rfl hini rfl (t_Mo_ok 16 (by decide)) rfl rfl (Nat.le_of_ble_eq_true rfl) d_Mo_init_110 (fun H locs h1 h2 h3 => ?_)
  have hW : WW G zs.heap ([(sa, .inr (iMo, [.int (0), .int (0), .ref (sa + 1), .ref (sa + 2), .ref (sa + 3), .ref (sa + 4), .ref (sa + 5), .int (0), .ref (sa + 6), .ref (sa + 7), .ref (sa + 8), .ref (sa + 9), .ref (sa + 10), .ref (sa + 11), .ref (sa + 12), .ref (sa + 13), .ref (sa + 14), .null, .null, .null, .null, .null, .null, .null, .null, .int (0), .int (0)])), (sa + 1, aI (gC G 1) (3) (fun _ => 0)), (sa + 2, aI (gC G 1) (3) (fun _ => 0)), (sa + 3, aI (gC G 1) (2) (fun _ => 0)), (sa + 4, aI (gC G 0) (12) (fun _ => 0)), (sa + 5, aI (gC G 0) (12) (fun _ => 0)), (sa + 6, aI (gC G 0) (8) (fun _ => 0)), (sa + 7, aI (gC G 1) (8) (fun _ => 0)), (sa + 8, aI (gC G 0) (24) (fun _ => 0)), (sa + 9, aI (gC G 0) (24) (fun _ => 0)), (sa + 10, aI (gC G 0) (96) (fun _ => 0)), (sa + 11, aI (gC G 0) (72) (fun _ => 0)), (sa + 12, aI (gC G 0) (72) (fun _ => 0)), (sa + 13, aI (gC G 0) (72) (fun _ => 0)), (sa + 14, aI (gC G 0) (16) (fun _ => 0))] ++ T0) H locs := ⟨h1, h2, h3⟩
  refine lv_aload_n hx hb d_Mo_init_113 rfl (lv_at hl 0 rfl) ?_
  refine lv_bipush (v := 16) hx hb d_Mo_init_114 (by decide) ?_
  refine W_sz (fun hzu => ?_)
  have hzl := (va_P_mem.mp hW.1 _ (List.mem_of_getElem? (i := 14) rfl)).lt
  have hz : Array.size H = sa + 15 := sz_eq hzu hz0 hzl rfl rfl
  refine h_newa (G := G) (atype := .boolean) (t0 := 1) (N' := 16) (a0 := (16, .inl (fun _ => 0))) hx hb hts kw_540 (List.mem_of_getElem? (i := 1) rfl) hE hW.2.2 (fun _ => by first | rfl | (rw [vp_cell_i]; rfl)) (by decide) (by decide) (by decide) (Nat.le_of_ble_eq_true rfl) (Nat.le_of_ble_eq_true rfl) d_Mo_init_116 (fun H ha9 hz9 hk9 hS9 => ?_)
  rw [hz] at ha9 ⊢
  have hW := WW_push2 hW hbs hz ha9 hk9 hS9
  have hW : WW G zs.heap ([(sa, .inr (iMo, [.int (0), .int (0), .ref (sa + 1), .ref (sa + 2), .ref (sa + 3), .ref (sa + 4), .ref (sa + 5), .int (0), .ref (sa + 6), .ref (sa + 7), .ref (sa + 8), .ref (sa + 9), .ref (sa + 10), .ref (sa + 11), .ref (sa + 12), .ref (sa + 13), .ref (sa + 14), .null, .null, .null, .null, .null, .null, .null, .null, .int (0), .int (0)])), (sa + 1, aI (gC G 1) (3) (fun _ => 0)), (sa + 2, aI (gC G 1) (3) (fun _ => 0)), (sa + 3, aI (gC G 1) (2) (fun _ => 0)), (sa + 4, aI (gC G 0) (12) (fun _ => 0)), (sa + 5, aI (gC G 0) (12) (fun _ => 0)), (sa + 6, aI (gC G 0) (8) (fun _ => 0)), (sa + 7, aI (gC G 1) (8) (fun _ => 0)), (sa + 8, aI (gC G 0) (24) (fun _ => 0)), (sa + 9, aI (gC G 0) (24) (fun _ => 0)), (sa + 10, aI (gC G 0) (96) (fun _ => 0)), (sa + 11, aI (gC G 0) (72) (fun _ => 0)), (sa + 12, aI (gC G 0) (72) (fun _ => 0)), (sa + 13, aI (gC G 0) (72) (fun _ => 0)), (sa + 14, aI (gC G 0) (16) (fun _ => 0)), (sa + 15, aI (gC G 1) (16) (fun _ => 0))] ++ T0) H locs := WW_perm (pm_push [(sa, .inr (iMo, [.int (0), .int (0), .ref (sa + 1), .ref (sa + 2), .ref (sa + 3), .ref (sa + 4), .ref (sa + 5), .int (0), .ref (sa + 6), .ref (sa + 7), .ref (sa + 8), .ref (sa + 9), .ref (sa + 10), .ref (sa + 11), .ref (sa + 12), .ref (sa + 13), .ref (sa + 14), .null, .null, .null, .null, .null, .null, .null, .null, .int (0), .int (0)])), (sa + 1, aI (gC G 1) (3) (fun _ => 0)), (sa + 2, aI (gC G 1) (3) (fun _ => 0)), (sa + 3, aI (gC G 1) (2) (fun _ => 0)), (sa + 4, aI (gC G 0) (12) (fun _ => 0)), (sa + 5, aI (gC G 0) (12) (fun _ => 0)), (sa + 6, aI (gC G 0) (8) (fun _ => 0)), (sa + 7, aI (gC G 1) (8) (fun _ => 0)), (sa + 8, aI (gC G 0) (24) (fun _ => 0)), (sa + 9, aI (gC G 0) (24) (fun _ => 0)), (sa + 10, aI (gC G 0) (96) (fun _ => 0)), (sa + 11, aI (gC G 0) (72) (fun _ => 0)), (sa + 12, aI (gC G 0) (72) (fun _ => 0)), (sa + 13, aI (gC G 0) (72) (fun _ => 0)), (sa + 14, aI (gC G 0) (16) (fun _ => 0))] _ _) hW
  refine va_putF hx hb hts i_Mo t_Mo t_Mo_ok n_Mo hown hK hW.1 hW.2.1 hW.2.2 0 rfl rfl 17 (by decide) (hts _ kw_445) (fun _ h => h) rfl hini rfl (t_Mo_ok 17 (by decide)) rfl rfl (Nat.le_of_ble_eq_true rfl) d_Mo_init_118 (fun H locs h1 h2 h3 => ?_)
  have hW : WW G zs.heap ([(sa, .inr (iMo, [.int (0), .int (0), .ref (sa + 1), .ref (sa + 2), .ref (sa + 3), .ref (sa + 4), .ref (sa + 5), .int (0), .ref (sa + 6), .ref (sa + 7), .ref (sa + 8), .ref (sa + 9), .ref (sa + 10), .ref (sa + 11), .ref (sa + 12), .ref (sa + 13), .ref (sa + 14), .ref (sa + 15), .null, .null, .null, .null, .null, .null, .null, .int (0), .int (0)])), (sa + 1, aI (gC G 1) (3) (fun _ => 0)), (sa + 2, aI (gC G 1) (3) (fun _ => 0)), (sa + 3, aI (gC G 1) (2) (fun _ => 0)), (sa + 4, aI (gC G 0) (12) (fun _ => 0)), (sa + 5, aI (gC G 0) (12) (fun _ => 0)), (sa + 6, aI (gC G 0) (8) (fun _ => 0)), (sa + 7, aI (gC G 1) (8) (fun _ => 0)), (sa + 8, aI (gC G 0) (24) (fun _ => 0)), (sa + 9, aI (gC G 0) (24) (fun _ => 0)), (sa + 10, aI (gC G 0) (96) (fun _ => 0)), (sa + 11, aI (gC G 0) (72) (fun _ => 0)), (sa + 12, aI (gC G 0) (72) (fun _ => 0)), (sa + 13, aI (gC G 0) (72) (fun _ => 0)), (sa + 14, aI (gC G 0) (16) (fun _ => 0)), (sa + 15, aI (gC G 1) (16) (fun _ => 0))] ++ T0) H locs := ⟨h1, h2, h3⟩
  refine lv_aload_n hx hb d_Mo_init_121 rfl (lv_at hl 0 rfl) ?_
  refine lv_bipush (v := 16) hx hb d_Mo_init_122 (by decide) ?_
  refine W_sz (fun hzu => ?_)
  have hzl := (va_P_mem.mp hW.1 _ (List.mem_of_getElem? (i := 15) rfl)).lt
  have hz : Array.size H = sa + 16 := sz_eq hzu hz0 hzl rfl rfl
  refine h_newa (G := G) (atype := .int) (t0 := 0) (N' := 16) (a0 := (16, .inl (fun _ => 0))) hx hb hts kw_532 (List.mem_of_getElem? (i := 0) rfl) hE hW.2.2 (fun _ => by first | rfl | (rw [vp_cell_i]; rfl)) (by decide) (by decide) (by decide) (Nat.le_of_ble_eq_true rfl) (Nat.le_of_ble_eq_true rfl) d_Mo_init_124 (fun H ha9 hz9 hk9 hS9 => ?_)
  rw [hz] at ha9 ⊢
  have hW := WW_push2 hW hbs hz ha9 hk9 hS9
  have hW : WW G zs.heap ([(sa, .inr (iMo, [.int (0), .int (0), .ref (sa + 1), .ref (sa + 2), .ref (sa + 3), .ref (sa + 4), .ref (sa + 5), .int (0), .ref (sa + 6), .ref (sa + 7), .ref (sa + 8), .ref (sa + 9), .ref (sa + 10), .ref (sa + 11), .ref (sa + 12), .ref (sa + 13), .ref (sa + 14), .ref (sa + 15), .null, .null, .null, .null, .null, .null, .null, .int (0), .int (0)])), (sa + 1, aI (gC G 1) (3) (fun _ => 0)), (sa + 2, aI (gC G 1) (3) (fun _ => 0)), (sa + 3, aI (gC G 1) (2) (fun _ => 0)), (sa + 4, aI (gC G 0) (12) (fun _ => 0)), (sa + 5, aI (gC G 0) (12) (fun _ => 0)), (sa + 6, aI (gC G 0) (8) (fun _ => 0)), (sa + 7, aI (gC G 1) (8) (fun _ => 0)), (sa + 8, aI (gC G 0) (24) (fun _ => 0)), (sa + 9, aI (gC G 0) (24) (fun _ => 0)), (sa + 10, aI (gC G 0) (96) (fun _ => 0)), (sa + 11, aI (gC G 0) (72) (fun _ => 0)), (sa + 12, aI (gC G 0) (72) (fun _ => 0)), (sa + 13, aI (gC G 0) (72) (fun _ => 0)), (sa + 14, aI (gC G 0) (16) (fun _ => 0)), (sa + 15, aI (gC G 1) (16) (fun _ => 0)), (sa + 16, aI (gC G 0) (16) (fun _ => 0))] ++ T0) H locs := WW_perm (pm_push [(sa, .inr (iMo, [.int (0), .int (0), .ref (sa + 1), .ref (sa + 2), .ref (sa + 3), .ref (sa + 4), .ref (sa + 5), .int (0), .ref (sa + 6), .ref (sa + 7), .ref (sa + 8), .ref (sa + 9), .ref (sa + 10), .ref (sa + 11), .ref (sa + 12), .ref (sa + 13), .ref (sa + 14), .ref (sa + 15), .null, .null, .null, .null, .null, .null, .null, .int (0), .int (0)])), (sa + 1, aI (gC G 1) (3) (fun _ => 0)), (sa + 2, aI (gC G 1) (3) (fun _ => 0)), (sa + 3, aI (gC G 1) (2) (fun _ => 0)), (sa + 4, aI (gC G 0) (12) (fun _ => 0)), (sa + 5, aI (gC G 0) (12) (fun _ => 0)), (sa + 6, aI (gC G 0) (8) (fun _ => 0)), (sa + 7, aI (gC G 1) (8) (fun _ => 0)), (sa + 8, aI (gC G 0) (24) (fun _ => 0)), (sa + 9, aI (gC G 0) (24) (fun _ => 0)), (sa + 10, aI (gC G 0) (96) (fun _ => 0)), (sa + 11, aI (gC G 0) (72) (fun _ => 0)), (sa + 12, aI (gC G 0) (72) (fun _ => 0)), (sa + 13, aI (gC G 0) (72) (fun _ => 0)), (sa + 14, aI (gC G 0) (16) (fun _ => 0)), (sa + 15, aI (gC G 1) (16) (fun _ => 0))] _ _) hW
  refine va_putF hx hb hts i_Mo t_Mo t_Mo_ok n_Mo hown hK hW.1 hW.2.1 hW.2.2 0 rfl rfl 18 (by decide) (hts _ kw_450) (fun _ h => h) rfl hini rfl (t_Mo_ok 18 (by decide)) rfl rfl (Nat.le_of_ble_eq_true rfl) d_Mo_init_126 (fun H locs h1 h2 h3 => ?_)
  have hW : WW G zs.heap ([(sa, .inr (iMo, [.int (0), .int (0), .ref (sa + 1), .ref (sa + 2), .ref (sa + 3), .ref (sa + 4), .ref (sa + 5), .int (0), .ref (sa + 6), .ref (sa + 7), .ref (sa + 8), .ref (sa + 9), .ref (sa + 10), .ref (sa + 11), .ref (sa + 12), .ref (sa + 13), .ref (sa + 14), .ref (sa + 15), .ref (sa + 16), .null, .null, .null, .null, .null, .null, .int (0), .int (0)])), (sa + 1, aI (gC G 1) (3) (fun _ => 0)), (sa + 2, aI (gC G 1) (3) (fun _ => 0)), (sa + 3, aI (gC G 1) (2) (fun _ => 0)), (sa + 4, aI (gC G 0) (12) (fun _ => 0)), (sa + 5, aI (gC G 0) (12) (fun _ => 0)), (sa + 6, aI (gC G 0) (8) (fun _ => 0)), (sa + 7, aI (gC G 1) (8) (fun _ => 0)), (sa + 8, aI (gC G 0) (24) (fun _ => 0)), (sa + 9, aI (gC G 0) (24) (fun _ => 0)), (sa + 10, aI (gC G 0) (96) (fun _ => 0)), (sa + 11, aI (gC G 0) (72) (fun _ => 0)), (sa + 12, aI (gC G 0) (72) (fun _ => 0)), (sa + 13, aI (gC G 0) (72) (fun _ => 0)), (sa + 14, aI (gC G 0) (16) (fun _ => 0)), (sa + 15, aI (gC G 1) (16) (fun _ => 0)), (sa + 16, aI (gC G 0) (16) (fun _ => 0))] ++ T0) H locs := ⟨h1, h2, h3⟩
  refine lv_aload_n hx hb d_Mo_init_129 rfl (lv_at hl 0 rfl) ?_
  refine lv_bipush (v := 48) hx hb d_Mo_init_130 (by decide) ?_
  refine W_sz (fun hzu => ?_)
  have hzl := (va_P_mem.mp hW.1 _ (List.mem_of_getElem? (i := 16) rfl)).lt
  have hz : Array.size H = sa + 17 := sz_eq hzu hz0 hzl rfl rfl
  refine h_newa (G := G) (atype := .boolean) (t0 := 1) (N' := 48) (a0 := (48, .inl (fun _ => 0))) hx hb hts kw_540 (List.mem_of_getElem? (i := 1) rfl) hE hW.2.2 (fun _ => by first | rfl | (rw [vp_cell_i]; rfl)) (by decide) (by decide) (by decide) (Nat.le_of_ble_eq_true rfl) (Nat.le_of_ble_eq_true rfl) d_Mo_init_132 (fun H ha9 hz9 hk9 hS9 => ?_)
  rw [hz] at ha9 ⊢
  have hW := WW_push2 hW hbs hz ha9 hk9 hS9
  have hW : WW G zs.heap ([(sa, .inr (iMo, [.int (0), .int (0), .ref (sa + 1), .ref (sa + 2), .ref (sa + 3), .ref (sa + 4), .ref (sa + 5), .int (0), .ref (sa + 6), .ref (sa + 7), .ref (sa + 8), .ref (sa + 9), .ref (sa + 10), .ref (sa + 11), .ref (sa + 12), .ref (sa + 13), .ref (sa + 14), .ref (sa + 15), .ref (sa + 16), .null, .null, .null, .null, .null, .null, .int (0), .int (0)])), (sa + 1, aI (gC G 1) (3) (fun _ => 0)), (sa + 2, aI (gC G 1) (3) (fun _ => 0)), (sa + 3, aI (gC G 1) (2) (fun _ => 0)), (sa + 4, aI (gC G 0) (12) (fun _ => 0)), (sa + 5, aI (gC G 0) (12) (fun _ => 0)), (sa + 6, aI (gC G 0) (8) (fun _ => 0)), (sa + 7, aI (gC G 1) (8) (fun _ => 0)), (sa + 8, aI (gC G 0) (24) (fun _ => 0)), (sa + 9, aI (gC G 0) (24) (fun _ => 0)), (sa + 10, aI (gC G 0) (96) (fun _ => 0)), (sa + 11, aI (gC G 0) (72) (fun _ => 0)), (sa + 12, aI (gC G 0) (72) (fun _ => 0)), (sa + 13, aI (gC G 0) (72) (fun _ => 0)), (sa + 14, aI (gC G 0) (16) (fun _ => 0)), (sa + 15, aI (gC G 1) (16) (fun _ => 0)), (sa + 16, aI (gC G 0) (16) (fun _ => 0)), (sa + 17, aI (gC G 1) (48) (fun _ => 0))] ++ T0) H locs := WW_perm (pm_push [(sa, .inr (iMo, [.int (0), .int (0), .ref (sa + 1), .ref (sa + 2), .ref (sa + 3), .ref (sa + 4), .ref (sa + 5), .int (0), .ref (sa + 6), .ref (sa + 7), .ref (sa + 8), .ref (sa + 9), .ref (sa + 10), .ref (sa + 11), .ref (sa + 12), .ref (sa + 13), .ref (sa + 14), .ref (sa + 15), .ref (sa + 16), .null, .null, .null, .null, .null, .null, .int (0), .int (0)])), (sa + 1, aI (gC G 1) (3) (fun _ => 0)), (sa + 2, aI (gC G 1) (3) (fun _ => 0)), (sa + 3, aI (gC G 1) (2) (fun _ => 0)), (sa + 4, aI (gC G 0) (12) (fun _ => 0)), (sa + 5, aI (gC G 0) (12) (fun _ => 0)), (sa + 6, aI (gC G 0) (8) (fun _ => 0)), (sa + 7, aI (gC G 1) (8) (fun _ => 0)), (sa + 8, aI (gC G 0) (24) (fun _ => 0)), (sa + 9, aI (gC G 0) (24) (fun _ => 0)), (sa + 10, aI (gC G 0) (96) (fun _ => 0)), (sa + 11, aI (gC G 0) (72) (fun _ => 0)), (sa + 12, aI (gC G 0) (72) (fun _ => 0)), (sa + 13, aI (gC G 0) (72) (fun _ => 0)), (sa + 14, aI (gC G 0) (16) (fun _ => 0)), (sa + 15, aI (gC G 1) (16) (fun _ => 0)), (sa + 16, aI (gC G 0) (16) (fun _ => 0))] _ _) hW
  refine va_putF hx hb hts i_Mo t_Mo t_Mo_ok n_Mo hown hK hW.1 hW.2.1 hW.2.2 0 rfl rfl 19 (by decide) (hts _ kw_416) (fun _ h => h) rfl hini rfl (t_Mo_ok 19 (by decide)) rfl rfl (Nat.le_of_ble_eq_true rfl) d_Mo_init_134 (fun H locs h1 h2 h3 => ?_)
  have hW : WW G zs.heap ([(sa, .inr (iMo, [.int (0), .int (0), .ref (sa + 1), .ref (sa + 2), .ref (sa + 3), .ref (sa + 4), .ref (sa + 5), .int (0), .ref (sa + 6), .ref (sa + 7), .ref (sa + 8), .ref (sa + 9), .ref (sa + 10), .ref (sa + 11), .ref (sa + 12), .ref (sa + 13), .ref (sa + 14), .ref (sa + 15), .ref (sa + 16), .ref (sa + 17), .null, .null, .null, .null, .null, .int (0), .int (0)])), (sa + 1, aI (gC G 1) (3) (fun _ => 0)), (sa + 2, aI (gC G 1) (3) (fun _ => 0)), (sa + 3, aI (gC G 1) (2) (fun _ => 0)), (sa + 4, aI (gC G 0) (12) (fun _ => 0)), (sa + 5, aI (gC G 0) (12) (fun _ => 0)), (sa + 6, aI (gC G 0) (8) (fun _ => 0)), (sa + 7, aI (gC G 1) (8) (fun _ => 0)), (sa + 8, aI (gC G 0) (24) (fun _ => 0)), (sa + 9, aI (gC G 0) (24) (fun _ => 0)), (sa + 10, aI (gC G 0) (96) (fun _ => 0)), (sa + 11, aI (gC G 0) (72) (fun _ => 0)), (sa + 12, aI (gC G 0) (72) (fun _ => 0)), (sa + 13, aI (gC G 0) (72) (fun _ => 0)), (sa + 14, aI (gC G 0) (16) (fun _ => 0)), (sa + 15, aI (gC G 1) (16) (fun _ => 0)), (sa + 16, aI (gC G 0) (16) (fun _ => 0)), (sa + 17, aI (gC G 1) (48) (fun _ => 0))] ++ T0) H locs := ⟨h1, h2, h3⟩
  refine lv_aload_n hx hb d_Mo_init_137 rfl (lv_at hl 0 rfl) ?_
  refine lv_sipush (v := 144) hx hb d_Mo_init_138 (by decide) ?_
  refine W_sz (fun hzu => ?_)
  have hzl := (va_P_mem.mp hW.1 _ (List.mem_of_getElem? (i := 17) rfl)).lt
  have hz : Array.size H = sa + 18 := sz_eq hzu hz0 hzl rfl rfl
  refine h_newa (G := G) (atype := .int) (t0 := 0) (N' := 144) (a0 := (144, .inl (fun _ => 0))) hx hb hts kw_532 (List.mem_of_getElem? (i := 0) rfl) hE hW.2.2 (fun _ => by first | rfl | (rw [vp_cell_i]; rfl)) (by decide) (by decide) (by decide) (Nat.le_of_ble_eq_true rfl) (Nat.le_of_ble_eq_true rfl) d_Mo_init_141 (fun H ha9 hz9 hk9 hS9 => ?_)
  rw [hz] at ha9 ⊢
  have hW := WW_push2 hW hbs hz ha9 hk9 hS9
  have hW : WW G zs.heap ([(sa, .inr (iMo, [.int (0), .int (0), .ref (sa + 1), .ref (sa + 2), .ref (sa + 3), .ref (sa + 4), .ref (sa + 5), .int (0), .ref (sa + 6), .ref (sa + 7), .ref (sa + 8), .ref (sa + 9), .ref (sa + 10), .ref (sa + 11), .ref (sa + 12), .ref (sa + 13), .ref (sa + 14), .ref (sa + 15), .ref (sa + 16), .ref (sa + 17), .null, .null, .null, .null, .null, .int (0), .int (0)])), (sa + 1, aI (gC G 1) (3) (fun _ => 0)), (sa + 2, aI (gC G 1) (3) (fun _ => 0)), (sa + 3, aI (gC G 1) (2) (fun _ => 0)), (sa + 4, aI (gC G 0) (12) (fun _ => 0)), (sa + 5, aI (gC G 0) (12) (fun _ => 0)), (sa + 6, aI (gC G 0) (8) (fun _ => 0)), (sa + 7, aI (gC G 1) (8) (fun _ => 0)), (sa + 8, aI (gC G 0) (24) (fun _ => 0)), (sa + 9, aI (gC G 0) (24) (fun _ => 0)), (sa + 10, aI (gC G 0) (96) (fun _ => 0)), (sa + 11, aI (gC G 0) (72) (fun _ => 0)), (sa + 12, aI (gC G 0) (72) (fun _ => 0)), (sa + 13, aI (gC G 0) (72) (fun _ => 0)), (sa + 14, aI (gC G 0) (16) (fun _ => 0)), (sa + 15, aI (gC G 1) (16) (fun _ => 0)), (sa + 16, aI (gC G 0) (16) (fun _ => 0)), (sa + 17, aI (gC G 1) (48) (fun _ => 0)), (sa + 18, aI (gC G 0) (144) (fun _ => 0))] ++ T0) H locs := WW_perm (pm_push [(sa, .inr (iMo, [.int (0), .int (0), .ref (sa + 1), .ref (sa + 2), .ref (sa + 3), .ref (sa + 4), .ref (sa + 5), .int (0), .ref (sa + 6), .ref (sa + 7), .ref (sa + 8), .ref (sa + 9), .ref (sa + 10), .ref (sa + 11), .ref (sa + 12), .ref (sa + 13), .ref (sa + 14), .ref (sa + 15), .ref (sa + 16), .ref (sa + 17), .null, .null, .null, .null, .null, .int (0), .int (0)])), (sa + 1, aI (gC G 1) (3) (fun _ => 0)), (sa + 2, aI (gC G 1) (3) (fun _ => 0)), (sa + 3, aI (gC G 1) (2) (fun _ => 0)), (sa + 4, aI (gC G 0) (12) (fun _ => 0)), (sa + 5, aI (gC G 0) (12) (fun _ => 0)), (sa + 6, aI (gC G 0) (8) (fun _ => 0)), (sa + 7, aI (gC G 1) (8) (fun _ => 0)), (sa + 8, aI (gC G 0) (24) (fun _ => 0)), (sa + 9, aI (gC G 0) (24) (fun _ => 0)), (sa + 10, aI (gC G 0) (96) (fun _ => 0)), (sa + 11, aI (gC G 0) (72) (fun _ => 0)), (sa + 12, aI (gC G 0) (72) (fun _ => 0)), (sa + 13, aI (gC G 0) (72) (fun _ => 0)), (sa + 14, aI (gC G 0) (16) (fun _ => 0)), (sa + 15, aI (gC G 1) (16) (fun _ => 0)), (sa + 16, aI (gC G 0) (16) (fun _ => 0)), (sa + 17, aI (gC G 1) (48) (fun _ => 0))] _ _) hW
  refine va_putF hx hb hts i_Mo t_Mo t_Mo_ok n_Mo hown hK hW.1 hW.2.1 hW.2.2 0 rfl rfl 20 (by decide) (hts _ kw_417) (fun _ h => h) rfl hini rfl (t_Mo_ok 20 (by decide)) rfl rfl (Nat.le_of_ble_eq_true rfl) d_Mo_init_143 (fun H locs h1 h2 h3 => ?_)
  have hW : WW G zs.heap ([(sa, .inr (iMo, [.int (0), .int (0), .ref (sa + 1), .ref (sa + 2), .ref (sa + 3), .ref (sa + 4), .ref (sa + 5), .int (0), .ref (sa + 6), .ref (sa + 7), .ref (sa + 8), .ref (sa + 9), .ref (sa + 10), .ref (sa + 11), .ref (sa + 12), .ref (sa + 13), .ref (sa + 14), .ref (sa + 15), .ref (sa + 16), .ref (sa + 17), .ref (sa + 18), .null, .null, .null, .null, .int (0), .int (0)])), (sa + 1, aI (gC G 1) (3) (fun _ => 0)), (sa + 2, aI (gC G 1) (3) (fun _ => 0)), (sa + 3, aI (gC G 1) (2) (fun _ => 0)), (sa + 4, aI (gC G 0) (12) (fun _ => 0)), (sa + 5, aI (gC G 0) (12) (fun _ => 0)), (sa + 6, aI (gC G 0) (8) (fun _ => 0)), (sa + 7, aI (gC G 1) (8) (fun _ => 0)), (sa + 8, aI (gC G 0) (24) (fun _ => 0)), (sa + 9, aI (gC G 0) (24) (fun _ => 0)), (sa + 10, aI (gC G 0) (96) (fun _ => 0)), (sa + 11, aI (gC G 0) (72) (fun _ => 0)), (sa + 12, aI (gC G 0) (72) (fun _ => 0)), (sa + 13, aI (gC G 0) (72) (fun _ => 0)), (sa + 14, aI (gC G 0) (16) (fun _ => 0)), (sa + 15, aI (gC G 1) (16) (fun _ => 0)), (sa + 16, aI (gC G 0) (16) (fun _ => 0)), (sa + 17, aI (gC G 1) (48) (fun _ => 0)), (sa + 18, aI (gC G 0) (144) (fun _ => 0))] ++ T0) H locs := ⟨h1, h2, h3⟩
  refine lv_aload_n hx hb d_Mo_init_146 rfl (lv_at hl 0 rfl) ?_
  refine lv_sipush (v := 144) hx hb d_Mo_init_147 (by decide) ?_
  refine W_sz (fun hzu => ?_)
  have hzl := (va_P_mem.mp hW.1 _ (List.mem_of_getElem? (i := 18) rfl)).lt
  have hz : Array.size H = sa + 19 := sz_eq hzu hz0 hzl rfl rfl
  refine h_newa (G := G) (atype := .int) (t0 := 0) (N' := 144) (a0 := (144, .inl (fun _ => 0))) hx hb hts kw_532 (List.mem_of_getElem? (i := 0) rfl) hE hW.2.2 (fun _ => by first | rfl | (rw [vp_cell_i]; rfl)) (by decide) (by decide) (by decide) (Nat.le_of_ble_eq_true rfl) (Nat.le_of_ble_eq_true rfl) d_Mo_init_150 (fun H ha9 hz9 hk9 hS9 => ?_)
  rw [hz] at ha9 ⊢
  have hW := WW_push2 hW hbs hz ha9 hk9 hS9
  have hW : WW G zs.heap ([(sa, .inr (iMo, [.int (0), .int (0), .ref (sa + 1), .ref (sa + 2), .ref (sa + 3), .ref (sa + 4), .ref (sa + 5), .int (0), .ref (sa + 6), .ref (sa + 7), .ref (sa + 8), .ref (sa + 9), .ref (sa + 10), .ref (sa + 11), .ref (sa + 12), .ref (sa + 13), .ref (sa + 14), .ref (sa + 15), .ref (sa + 16), .ref (sa + 17), .ref (sa + 18), .null, .null, .null, .null, .int (0), .int (0)])), (sa + 1, aI (gC G 1) (3) (fun _ => 0)), (sa + 2, aI (gC G 1) (3) (fun _ => 0)), (sa + 3, aI (gC G 1) (2) (fun _ => 0)), (sa + 4, aI (gC G 0) (12) (fun _ => 0)), (sa + 5, aI (gC G 0) (12) (fun _ => 0)), (sa + 6, aI (gC G 0) (8) (fun _ => 0)), (sa + 7, aI (gC G 1) (8) (fun _ => 0)), (sa + 8, aI (gC G 0) (24) (fun _ => 0)), (sa + 9, aI (gC G 0) (24) (fun _ => 0)), (sa + 10, aI (gC G 0) (96) (fun _ => 0)), (sa + 11, aI (gC G 0) (72) (fun _ => 0)), (sa + 12, aI (gC G 0) (72) (fun _ => 0)), (sa + 13, aI (gC G 0) (72) (fun _ => 0)), (sa + 14, aI (gC G 0) (16) (fun _ => 0)), (sa + 15, aI (gC G 1) (16) (fun _ => 0)), (sa + 16, aI (gC G 0) (16) (fun _ => 0)), (sa + 17, aI (gC G 1) (48) (fun _ => 0)), (sa + 18, aI (gC G 0) (144) (fun _ => 0)), (sa + 19, aI (gC G 0) (144) (fun _ => 0))] ++ T0) H locs := WW_perm (pm_push [(sa, .inr (iMo, [.int (0), .int (0), .ref (sa + 1), .ref (sa + 2), .ref (sa + 3), .ref (sa + 4), .ref (sa + 5), .int (0), .ref (sa + 6), .ref (sa + 7), .ref (sa + 8), .ref (sa + 9), .ref (sa + 10), .ref (sa + 11), .ref (sa + 12), .ref (sa + 13), .ref (sa + 14), .ref (sa + 15), .ref (sa + 16), .ref (sa + 17), .ref (sa + 18), .null, .null, .null, .null, .int (0), .int (0)])), (sa + 1, aI (gC G 1) (3) (fun _ => 0)), (sa + 2, aI (gC G 1) (3) (fun _ => 0)), (sa + 3, aI (gC G 1) (2) (fun _ => 0)), (sa + 4, aI (gC G 0) (12) (fun _ => 0)), (sa + 5, aI (gC G 0) (12) (fun _ => 0)), (sa + 6, aI (gC G 0) (8) (fun _ => 0)), (sa + 7, aI (gC G 1) (8) (fun _ => 0)), (sa + 8, aI (gC G 0) (24) (fun _ => 0)), (sa + 9, aI (gC G 0) (24) (fun _ => 0)), (sa + 10, aI (gC G 0) (96) (fun _ => 0)), (sa + 11, aI (gC G 0) (72) (fun _ => 0)), (sa + 12, aI (gC G 0) (72) (fun _ => 0)), (sa + 13, aI (gC G 0) (72) (fun _ => 0)), (sa + 14, aI (gC G 0) (16) (fun _ => 0)), (sa + 15, aI (gC G 1) (16) (fun _ => 0)), (sa + 16, aI (gC G 0) (16) (fun _ => 0)), (sa + 17, aI (gC G 1) (48) (fun _ => 0)), (sa + 18, aI (gC G 0) (144) (fun _ => 0))] _ _) hW
  refine va_putF hx hb hts i_Mo t_Mo t_Mo_ok n_Mo hown hK hW.1 hW.2.1 hW.2.2 0 rfl rfl 21 (by decide) (hts _ kw_418) (fun _ h => h) rfl hini rfl (t_Mo_ok 21 (by decide)) rfl rfl (Nat.le_of_ble_eq_true rfl) d_Mo_init_152 (fun H locs h1 h2 h3 => ?_)
  have hW : WW G zs.heap ([(sa, .inr (iMo, [.int (0), .int (0), .ref (sa + 1), .ref (sa + 2), .ref (sa + 3), .ref (sa + 4), .ref (sa + 5), .int (0), .ref (sa + 6), .ref (sa + 7), .ref (sa + 8), .ref (sa + 9), .ref (sa + 10), .ref (sa + 11), .ref (sa + 12), .ref (sa + 13), .ref (sa + 14), .ref (sa + 15), .ref (sa + 16), .ref (sa + 17), .ref (sa + 18), .ref (sa + 19), .null, .null, .null, .int (0), .int (0)])), (sa + 1, aI (gC G 1) (3) (fun _ => 0)), (sa + 2, aI (gC G 1) (3) (fun _ => 0)), (sa + 3, aI (gC G 1) (2) (fun _ => 0)), (sa + 4, aI (gC G 0) (12) (fun _ => 0)), (sa + 5, aI (gC G 0) (12) (fun _ => 0)), (sa + 6, aI (gC G 0) (8) (fun _ => 0)), (sa + 7, aI (gC G 1) (8) (fun _ => 0)), (sa + 8, aI (gC G 0) (24) (fun _ => 0)), (sa + 9, aI (gC G 0) (24) (fun _ => 0)), (sa + 10, aI (gC G 0) (96) (fun _ => 0)), (sa + 11, aI (gC G 0) (72) (fun _ => 0)), (sa + 12, aI (gC G 0) (72) (fun _ => 0)), (sa + 13, aI (gC G 0) (72) (fun _ => 0)), (sa + 14, aI (gC G 0) (16) (fun _ => 0)), (sa + 15, aI (gC G 1) (16) (fun _ => 0)), (sa + 16, aI (gC G 0) (16) (fun _ => 0)), (sa + 17, aI (gC G 1) (48) (fun _ => 0)), (sa + 18, aI (gC G 0) (144) (fun _ => 0)), (sa + 19, aI (gC G 0) (144) (fun _ => 0))] ++ T0) H locs := ⟨h1, h2, h3⟩
  refine lv_aload_n hx hb d_Mo_init_155 rfl (lv_at hl 0 rfl) ?_
  refine lv_sipush (v := 144) hx hb d_Mo_init_156 (by decide) ?_
  refine W_sz (fun hzu => ?_)
  have hzl := (va_P_mem.mp hW.1 _ (List.mem_of_getElem? (i := 19) rfl)).lt
  have hz : Array.size H = sa + 20 := sz_eq hzu hz0 hzl rfl rfl
  refine h_newa (G := G) (atype := .int) (t0 := 0) (N' := 144) (a0 := (144, .inl (fun _ => 0))) hx hb hts kw_532 (List.mem_of_getElem? (i := 0) rfl) hE hW.2.2 (fun _ => by first | rfl | (rw [vp_cell_i]; rfl)) (by decide) (by decide) (by decide) (Nat.le_of_ble_eq_true rfl) (Nat.le_of_ble_eq_true rfl) d_Mo_init_159 (fun H ha9 hz9 hk9 hS9 => ?_)
  rw [hz] at ha9 ⊢
  have hW := WW_push2 hW hbs hz ha9 hk9 hS9
  have hW : WW G zs.heap ([(sa, .inr (iMo, [.int (0), .int (0), .ref (sa + 1), .ref (sa + 2), .ref (sa + 3), .ref (sa + 4), .ref (sa + 5), .int (0), .ref (sa + 6), .ref (sa + 7), .ref (sa + 8), .ref (sa + 9), .ref (sa + 10), .ref (sa + 11), .ref (sa + 12), .ref (sa + 13), .ref (sa + 14), .ref (sa + 15), .ref (sa + 16), .ref (sa + 17), .ref (sa + 18), .ref (sa + 19), .null, .null, .null, .int (0), .int (0)])), (sa + 1, aI (gC G 1) (3) (fun _ => 0)), (sa + 2, aI (gC G 1) (3) (fun _ => 0)), (sa + 3, aI (gC G 1) (2) (fun _ => 0)), (sa + 4, aI (gC G 0) (12) (fun _ => 0)), (sa + 5, aI (gC G 0) (12) (fun _ => 0)), (sa + 6, aI (gC G 0) (8) (fun _ => 0)), (sa + 7, aI (gC G 1) (8) (fun _ => 0)), (sa + 8, aI (gC G 0) (24) (fun _ => 0)), (sa + 9, aI (gC G 0) (24) (fun _ => 0)), (sa + 10, aI (gC G 0) (96) (fun _ => 0)), (sa + 11, aI (gC G 0) (72) (fun _ => 0)), (sa + 12, aI (gC G 0) (72) (fun _ => 0)), (sa + 13, aI (gC G 0) (72) (fun _ => 0)), (sa + 14, aI (gC G 0) (16) (fun _ => 0)), (sa + 15, aI (gC G 1) (16) (fun _ => 0)), (sa + 16, aI (gC G 0) (16) (fun _ => 0)), (sa + 17, aI (gC G 1) (48) (fun _ => 0)), (sa + 18, aI (gC G 0) (144) (fun _ => 0)), (sa + 19, aI (gC G 0) (144) (fun _ => 0)), (sa + 20, aI (gC G 0) (144) (fun _ => 0))] ++ T0) H locs := WW_perm (pm_push [(sa, .inr (iMo, [.int (0), .int (0), .ref (sa + 1), .ref (sa + 2), .ref (sa + 3), .ref (sa + 4), .ref (sa + 5), .int (0), .ref (sa + 6), .ref (sa + 7), .ref (sa + 8), .ref (sa + 9), .ref (sa + 10), .ref (sa + 11), .ref (sa + 12), .ref (sa + 13), .ref (sa + 14), .ref (sa + 15), .ref (sa + 16), .ref (sa + 17), .ref (sa + 18), .ref (sa + 19), .null, .null, .null, .int (0), .int (0)])), (sa + 1, aI (gC G 1) (3) (fun _ => 0)), (sa + 2, aI (gC G 1) (3) (fun _ => 0)), (sa + 3, aI (gC G 1) (2) (fun _ => 0)), (sa + 4, aI (gC G 0) (12) (fun _ => 0)), (sa + 5, aI (gC G 0) (12) (fun _ => 0)), (sa + 6, aI (gC G 0) (8) (fun _ => 0)), (sa + 7, aI (gC G 1) (8) (fun _ => 0)), (sa + 8, aI (gC G 0) (24) (fun _ => 0)), (sa + 9, aI (gC G 0) (24) (fun _ => 0)), (sa + 10, aI (gC G 0) (96) (fun _ => 0)), (sa + 11, aI (gC G 0) (72) (fun _ => 0)), (sa + 12, aI (gC G 0) (72) (fun _ => 0)), (sa + 13, aI (gC G 0) (72) (fun _ => 0)), (sa + 14, aI (gC G 0) (16) (fun _ => 0)), (sa + 15, aI (gC G 1) (16) (fun _ => 0)), (sa + 16, aI (gC G 0) (16) (fun _ => 0)), (sa + 17, aI (gC G 1) (48) (fun _ => 0)), (sa + 18, aI (gC G 0) (144) (fun _ => 0)), (sa + 19, aI (gC G 0) (144) (fun _ => 0))] _ _) hW
  refine va_putF hx hb hts i_Mo t_Mo t_Mo_ok n_Mo hown hK hW.1 hW.2.1 hW.2.2 0 rfl rfl 22 (by decide) (hts _ kw_424) (fun _ h => h) rfl hini rfl (t_Mo_ok 22 (by decide)) rfl rfl (Nat.le_of_ble_eq_true rfl) d_Mo_init_161 (fun H locs h1 h2 h3 => ?_)
  have hW : WW G zs.heap ([(sa, .inr (iMo, [.int (0), .int (0), .ref (sa + 1), .ref (sa + 2), .ref (sa + 3), .ref (sa + 4), .ref (sa + 5), .int (0), .ref (sa + 6), .ref (sa + 7), .ref (sa + 8), .ref (sa + 9), .ref (sa + 10), .ref (sa + 11), .ref (sa + 12), .ref (sa + 13), .ref (sa + 14), .ref (sa + 15), .ref (sa + 16), .ref (sa + 17), .ref (sa + 18), .ref (sa + 19), .ref (sa + 20), .null, .null, .int (0), .int (0)])), (sa + 1, aI (gC G 1) (3) (fun _ => 0)), (sa + 2, aI (gC G 1) (3) (fun _ => 0)), (sa + 3, aI (gC G 1) (2) (fun _ => 0)), (sa + 4, aI (gC G 0) (12) (fun _ => 0)), (sa + 5, aI (gC G 0) (12) (fun _ => 0)), (sa + 6, aI (gC G 0) (8) (fun _ => 0)), (sa + 7, aI (gC G 1) (8) (fun _ => 0)), (sa + 8, aI (gC G 0) (24) (fun _ => 0)), (sa + 9, aI (gC G 0) (24) (fun _ => 0)), (sa + 10, aI (gC G 0) (96) (fun _ => 0)), (sa + 11, aI (gC G 0) (72) (fun _ => 0)), (sa + 12, aI (gC G 0) (72) (fun _ => 0)), (sa + 13, aI (gC G 0) (72) (fun _ => 0)), (sa + 14, aI (gC G 0) (16) (fun _ => 0)), (sa + 15, aI (gC G 1) (16) (fun _ => 0)), (sa + 16, aI (gC G 0) (16) (fun _ => 0)), (sa + 17, aI (gC G 1) (48) (fun _ => 0)), (sa + 18, aI (gC G 0) (144) (fun _ => 0)), (sa + 19, aI (gC G 0) (144) (fun _ => 0)), (sa + 20, aI (gC G 0) (144) (fun _ => 0))] ++ T0) H locs := ⟨h1, h2, h3⟩
  refine lv_aload_n hx hb d_Mo_init_164 rfl (lv_at hl 0 rfl) ?_
  refine lv_sipush (v := 144) hx hb d_Mo_init_165 (by decide) ?_
  refine W_sz (fun hzu => ?_)
  have hzl := (va_P_mem.mp hW.1 _ (List.mem_of_getElem? (i := 20) rfl)).lt
  have hz : Array.size H = sa + 21 := sz_eq hzu hz0 hzl rfl rfl
  refine h_newa (G := G) (atype := .int) (t0 := 0) (N' := 144) (a0 := (144, .inl (fun _ => 0))) hx hb hts kw_532 (List.mem_of_getElem? (i := 0) rfl) hE hW.2.2 (fun _ => by first | rfl | (rw [vp_cell_i]; rfl)) (by decide) (by decide) (by decide) (Nat.le_of_ble_eq_true rfl) (Nat.le_of_ble_eq_true rfl) d_Mo_init_168 (fun H ha9 hz9 hk9 hS9 => ?_)
  rw [hz] at ha9 ⊢
  have hW := WW_push2 hW hbs hz ha9 hk9 hS9
  have hW : WW G zs.heap ([(sa, .inr (iMo, [.int (0), .int (0), .ref (sa + 1), .ref (sa + 2), .ref (sa + 3), .ref (sa + 4), .ref (sa + 5), .int (0), .ref (sa + 6), .ref (sa + 7), .ref (sa + 8), .ref (sa + 9), .ref (sa + 10), .ref (sa + 11), .ref (sa + 12), .ref (sa + 13), .ref (sa + 14), .ref (sa + 15), .ref (sa + 16), .ref (sa + 17), .ref (sa + 18), .ref (sa + 19), .ref (sa + 20), .null, .null, .int (0), .int (0)])), (sa + 1, aI (gC G 1) (3) (fun _ => 0)), (sa + 2, aI (gC G 1) (3) (fun _ => 0)), (sa + 3, aI (gC G 1) (2) (fun _ => 0)), (sa + 4, aI (gC G 0) (12) (fun _ => 0)), (sa + 5, aI (gC G 0) (12) (fun _ => 0)), (sa + 6, aI (gC G 0) (8) (fun _ => 0)), (sa + 7, aI (gC G 1) (8) (fun _ => 0)), (sa + 8, aI (gC G 0) (24) (fun _ => 0)), (sa + 9, aI (gC G 0) (24) (fun _ => 0)), (sa + 10, aI (gC G 0) (96) (fun _ => 0)), (sa + 11, aI (gC G 0) (72) (fun _ => 0)), (sa + 12, aI (gC G 0) (72) (fun _ => 0)), (sa + 13, aI (gC G 0) (72) (fun _ => 0)), (sa + 14, aI (gC G 0) (16) (fun _ => 0)), (sa + 15, aI (gC G 1) (16) (fun _ => 0)), (sa + 16, aI (gC G 0) (16) (fun _ => 0)), (sa + 17, aI (gC G 1) (48) (fun _ => 0)), (sa + 18, aI (gC G 0) (144) (fun _ => 0)), (sa + 19, aI (gC G 0) (144) (fun _ => 0)), (sa + 20, aI (gC G 0) (144) (fun _ => 0)), (sa + 21, aI (gC G 0) (144) (fun _ => 0))] ++ T0) H locs := WW_perm (pm_push [(sa, .inr (iMo, [.int (0), .int (0), .ref (sa + 1), .ref (sa + 2), .ref (sa + 3), .ref (sa + 4), .ref (sa + 5), .int (0), .ref (sa + 6), .ref (sa + 7), .ref (sa + 8), .ref (sa + 9), .ref (sa + 10), .ref (sa + 11), .ref (sa + 12), .ref (sa + 13), .ref (sa + 14), .ref (sa + 15), .ref (sa + 16), .ref (sa + 17), .ref (sa + 18), .ref (sa + 19), .ref (sa + 20), .null, .null, .int (0), .int (0)])), (sa + 1, aI (gC G 1) (3) (fun _ => 0)), (sa + 2, aI (gC G 1) (3) (fun _ => 0)), (sa + 3, aI (gC G 1) (2) (fun _ => 0)), (sa + 4, aI (gC G 0) (12) (fun _ => 0)), (sa + 5, aI (gC G 0) (12) (fun _ => 0)), (sa + 6, aI (gC G 0) (8) (fun _ => 0)), (sa + 7, aI (gC G 1) (8) (fun _ => 0)), (sa + 8, aI (gC G 0) (24) (fun _ => 0)), (sa + 9, aI (gC G 0) (24) (fun _ => 0)), (sa + 10, aI (gC G 0) (96) (fun _ => 0)), (sa + 11, aI (gC G 0) (72) (fun _ => 0)), (sa + 12, aI (gC G 0) (72) (fun _ => 0)), (sa + 13, aI (gC G 0) (72) (fun _ => 0)), (sa + 14, aI (gC G 0) (16) (fun _ => 0)), (sa + 15, aI (gC G 1) (16) (fun _ => 0)), (sa + 16, aI (gC G 0) (16) (fun _ => 0)), (sa + 17, aI (gC G 1) (48) (fun _ => 0)), (sa + 18, aI (gC G 0) (144) (fun _ => 0)), (sa + 19, aI (gC G 0) (144) (fun _ => 0)), (sa + 20, aI (gC G 0) (144) (fun _ => 0))] _ _) hW
  refine va_putF hx hb hts i_Mo t_Mo t_Mo_ok n_Mo hown hK hW.1 hW.2.1 hW.2.2 0 rfl rfl 23 (by decide) (hts _ kw_423) (fun _ h => h) rfl hini rfl (t_Mo_ok 23 (by decide)) rfl rfl (Nat.le_of_ble_eq_true rfl) d_Mo_init_170 (fun H locs h1 h2 h3 => ?_)
  have hW : WW G zs.heap ([(sa, .inr (iMo, [.int (0), .int (0), .ref (sa + 1), .ref (sa + 2), .ref (sa + 3), .ref (sa + 4), .ref (sa + 5), .int (0), .ref (sa + 6), .ref (sa + 7), .ref (sa + 8), .ref (sa + 9), .ref (sa + 10), .ref (sa + 11), .ref (sa + 12), .ref (sa + 13), .ref (sa + 14), .ref (sa + 15), .ref (sa + 16), .ref (sa + 17), .ref (sa + 18), .ref (sa + 19), .ref (sa + 20), .ref (sa + 21), .null, .int (0), .int (0)])), (sa + 1, aI (gC G 1) (3) (fun _ => 0)), (sa + 2, aI (gC G 1) (3) (fun _ => 0)), (sa + 3, aI (gC G 1) (2) (fun _ => 0)), (sa + 4, aI (gC G 0) (12) (fun _ => 0)), (sa + 5, aI (gC G 0) (12) (fun _ => 0)), (sa + 6, aI (gC G 0) (8) (fun _ => 0)), (sa + 7, aI (gC G 1) (8) (fun _ => 0)), (sa + 8, aI (gC G 0) (24) (fun _ => 0)), (sa + 9, aI (gC G 0) (24) (fun _ => 0)), (sa + 10, aI (gC G 0) (96) (fun _ => 0)), (sa + 11, aI (gC G 0) (72) (fun _ => 0)), (sa + 12, aI (gC G 0) (72) (fun _ => 0)), (sa + 13, aI (gC G 0) (72) (fun _ => 0)), (sa + 14, aI (gC G 0) (16) (fun _ => 0)), (sa + 15, aI (gC G 1) (16) (fun _ => 0)), (sa + 16, aI (gC G 0) (16) (fun _ => 0)), (sa + 17, aI (gC G 1) (48) (fun _ => 0)), (sa + 18, aI (gC G 0) (144) (fun _ => 0)), (sa + 19, aI (gC G 0) (144) (fun _ => 0)), (sa + 20, aI (gC G 0) (144) (fun _ => 0)), (sa + 21, aI (gC G 0) (144) (fun _ => 0))] ++ T0) H locs := ⟨h1, h2, h3⟩
  refine lv_aload_n hx hb d_Mo_init_173 rfl (lv_at hl 0 rfl) ?_
  refine lv_sipush (v := 793) hx hb d_Mo_init_174 (by decide) ?_
  refine W_sz (fun hzu => ?_)
  have hzl := (va_P_mem.mp hW.1 _ (List.mem_of_getElem? (i := 21) rfl)).lt
  have hz : Array.size H = sa + 22 := sz_eq hzu hz0 hzl rfl rfl
  refine h_newa (G := G) (atype := .int) (t0 := 0) (N' := 793) (a0 := (793, .inl (fun _ => 0))) hx hb hts kw_532 (List.mem_of_getElem? (i := 0) rfl) hE hW.2.2 (fun _ => by first | rfl | (rw [vp_cell_i]; rfl)) (by decide) (by decide) (by decide) (Nat.le_of_ble_eq_true rfl) (Nat.le_of_ble_eq_true rfl) d_Mo_init_177 (fun H ha9 hz9 hk9 hS9 => ?_)
  rw [hz] at ha9 ⊢
  have hW := WW_push2 hW hbs hz ha9 hk9 hS9
  have hW : WW G zs.heap ([(sa, .inr (iMo, [.int (0), .int (0), .ref (sa + 1), .ref (sa + 2), .ref (sa + 3), .ref (sa + 4), .ref (sa + 5), .int (0), .ref (sa + 6), .ref (sa + 7), .ref (sa + 8), .ref (sa + 9), .ref (sa + 10), .ref (sa + 11), .ref (sa + 12), .ref (sa + 13), .ref (sa + 14), .ref (sa + 15), .ref (sa + 16), .ref (sa + 17), .ref (sa + 18), .ref (sa + 19), .ref (sa + 20), .ref (sa + 21), .null, .int (0), .int (0)])), (sa + 1, aI (gC G 1) (3) (fun _ => 0)), (sa + 2, aI (gC G 1) (3) (fun _ => 0)), (sa + 3, aI (gC G 1) (2) (fun _ => 0)), (sa + 4, aI (gC G 0) (12) (fun _ => 0)), (sa + 5, aI (gC G 0) (12) (fun _ => 0)), (sa + 6, aI (gC G 0) (8) (fun _ => 0)), (sa + 7, aI (gC G 1) (8) (fun _ => 0)), (sa + 8, aI (gC G 0) (24) (fun _ => 0)), (sa + 9, aI (gC G 0) (24) (fun _ => 0)), (sa + 10, aI (gC G 0) (96) (fun _ => 0)), (sa + 11, aI (gC G 0) (72) (fun _ => 0)), (sa + 12, aI (gC G 0) (72) (fun _ => 0)), (sa + 13, aI (gC G 0) (72) (fun _ => 0)), (sa + 14, aI (gC G 0) (16) (fun _ => 0)), (sa + 15, aI (gC G 1) (16) (fun _ => 0)), (sa + 16, aI (gC G 0) (16) (fun _ => 0)), (sa + 17, aI (gC G 1) (48) (fun _ => 0)), (sa + 18, aI (gC G 0) (144) (fun _ => 0)), (sa + 19, aI (gC G 0) (144) (fun _ => 0)), (sa + 20, aI (gC G 0) (144) (fun _ => 0)), (sa + 21, aI (gC G 0) (144) (fun _ => 0)), (sa + 22, aI (gC G 0) (793) (fun _ => 0))] ++ T0) H locs := WW_perm (pm_push [(sa, .inr (iMo, [.int (0), .int (0), .ref (sa + 1), .ref (sa + 2), .ref (sa + 3), .ref (sa + 4), .ref (sa + 5), .int (0), .ref (sa + 6), .ref (sa + 7), .ref (sa + 8), .ref (sa + 9), .ref (sa + 10), .ref (sa + 11), .ref (sa + 12), .ref (sa + 13), .ref (sa + 14), .ref (sa + 15), .ref (sa + 16), .ref (sa + 17), .ref (sa + 18), .ref (sa + 19), .ref (sa + 20), .ref (sa + 21), .null, .int (0), .int (0)])), (sa + 1, aI (gC G 1) (3) (fun _ => 0)), (sa + 2, aI (gC G 1) (3) (fun _ => 0)), (sa + 3, aI (gC G 1) (2) (fun _ => 0)), (sa + 4, aI (gC G 0) (12) (fun _ => 0)), (sa + 5, aI (gC G 0) (12) (fun _ => 0)), (sa + 6, aI (gC G 0) (8) (fun _ => 0)), (sa + 7, aI (gC G 1) (8) (fun _ => 0)), (sa + 8, aI (gC G 0) (24) (fun _ => 0)), (sa + 9, aI (gC G 0) (24) (fun _ => 0)), (sa + 10, aI (gC G 0) (96) (fun _ => 0)), (sa + 11, aI (gC G 0) (72) (fun _ => 0)), (sa + 12, aI (gC G 0) (72) (fun _ => 0)), (sa + 13, aI (gC G 0) (72) (fun _ => 0)), (sa + 14, aI (gC G 0) (16) (fun _ => 0)), (sa + 15, aI (gC G 1) (16) (fun _ => 0)), (sa + 16, aI (gC G 0) (16) (fun _ => 0)), (sa + 17, aI (gC G 1) (48) (fun _ => 0)), (sa + 18, aI (gC G 0) (144) (fun _ => 0)), (sa + 19, aI (gC G 0) (144) (fun _ => 0)), (sa + 20, aI (gC G 0) (144) (fun _ => 0)), (sa + 21, aI (gC G 0) (144) (fun _ => 0))] _ _) hW
  refine va_putF hx hb hts i_Mo t_Mo t_Mo_ok n_Mo hown hK hW.1 hW.2.1 hW.2.2 0 rfl rfl 24 (by decide) (hts _ kw_407) (fun _ h => h) rfl hini rfl (t_Mo_ok 24 (by decide)) rfl rfl (Nat.le_of_ble_eq_true rfl) d_Mo_init_179 (fun H locs h1 h2 h3 => ?_)
  have hW : WW G zs.heap ([(sa, .inr (iMo, [.int (0), .int (0), .ref (sa + 1), .ref (sa + 2), .ref (sa + 3), .ref (sa + 4), .ref (sa + 5), .int (0), .ref (sa + 6), .ref (sa + 7), .ref (sa + 8), .ref (sa + 9), .ref (sa + 10), .ref (sa + 11), .ref (sa + 12), .ref (sa + 13), .ref (sa + 14), .ref (sa + 15), .ref (sa + 16), .ref (sa + 17), .ref (sa + 18), .ref (sa + 19), .ref (sa + 20), .ref (sa + 21), .ref (sa + 22), .int (0), .int (0)])), (sa + 1, aI (gC G 1) (3) (fun _ => 0)), (sa + 2, aI (gC G 1) (3) (fun _ => 0)), (sa + 3, aI (gC G 1) (2) (fun _ => 0)), (sa + 4, aI (gC G 0) (12) (fun _ => 0)), (sa + 5, aI (gC G 0) (12) (fun _ => 0)), (sa + 6, aI (gC G 0) (8) (fun _ => 0)), (sa + 7, aI (gC G 1) (8) (fun _ => 0)), (sa + 8, aI (gC G 0) (24) (fun _ => 0)), (sa + 9, aI (gC G 0) (24) (fun _ => 0)), (sa + 10, aI (gC G 0) (96) (fun _ => 0)), (sa + 11, aI (gC G 0) (72) (fun _ => 0)), (sa + 12, aI (gC G 0) (72) (fun _ => 0)), (sa + 13, aI (gC G 0) (72) (fun _ => 0)), (sa + 14, aI (gC G 0) (16) (fun _ => 0)), (sa + 15, aI (gC G 1) (16) (fun _ => 0)), (sa + 16, aI (gC G 0) (16) (fun _ => 0)), (sa + 17, aI (gC G 1) (48) (fun _ => 0)), (sa + 18, aI (gC G 0) (144) (fun _ => 0)), (sa + 19, aI (gC G 0) (144) (fun _ => 0)), (sa + 20, aI (gC G 0) (144) (fun _ => 0)), (sa + 21, aI (gC G 0) (144) (fun _ => 0)), (sa + 22, aI (gC G 0) (793) (fun _ => 0))] ++ T0) H locs := ⟨h1, h2, h3⟩
  refine lv_aload_n hx hb d_Mo_init_182 rfl (lv_at hl 0 rfl) ?_
  refine lv_iload_n hx hb d_Mo_init_183 rfl (lv_at hl 1 rfl) ?_
  refine lv_if_ne (tgt := 191) hx hb d_Mo_init_184 (by decide) (fun c_1 => ?_) (fun c_1 => ?_)
  · skip
    exact absurd hf c_1
  · skip
    refine lv_iconst (v := 1) hx hb d_Mo_init_187 (by decide) ?_
    refine lv_goto (tgt := 192) hx hb d_Mo_init_188 (by decide) ?_
    refine va_putF hx hb hts i_Mo t_Mo t_Mo_ok n_Mo hown hK hW.1 hW.2.1 hW.2.2 0 rfl rfl 1 (by decide) (hts _ kw_404) (fun _ h => h) rfl hini rfl (t_Mo_ok 1 (by decide)) rfl rfl (Nat.le_of_ble_eq_true rfl) d_Mo_init_192 (fun H locs h1 h2 h3 => ?_)
    have hW : WW G zs.heap ([(sa, .inr (iMo, [.int (0), .int (1), .ref (sa + 1), .ref (sa + 2), .ref (sa + 3), .ref (sa + 4), .ref (sa + 5), .int (0), .ref (sa + 6), .ref (sa + 7), .ref (sa + 8), .ref (sa + 9), .ref (sa + 10), .ref (sa + 11), .ref (sa + 12), .ref (sa + 13), .ref (sa + 14), .ref (sa + 15), .ref (sa + 16), .ref (sa + 17), .ref (sa + 18), .ref (sa + 19), .ref (sa + 20), .ref (sa + 21), .ref (sa + 22), .int (0), .int (0)])), (sa + 1, aI (gC G 1) (3) (fun _ => 0)), (sa + 2, aI (gC G 1) (3) (fun _ => 0)), (sa + 3, aI (gC G 1) (2) (fun _ => 0)), (sa + 4, aI (gC G 0) (12) (fun _ => 0)), (sa + 5, aI (gC G 0) (12) (fun _ => 0)), (sa + 6, aI (gC G 0) (8) (fun _ => 0)), (sa + 7, aI (gC G 1) (8) (fun _ => 0)), (sa + 8, aI (gC G 0) (24) (fun _ => 0)), (sa + 9, aI (gC G 0) (24) (fun _ => 0)), (sa + 10, aI (gC G 0) (96) (fun _ => 0)), (sa + 11, aI (gC G 0) (72) (fun _ => 0)), (sa + 12, aI (gC G 0) (72) (fun _ => 0)), (sa + 13, aI (gC G 0) (72) (fun _ => 0)), (sa + 14, aI (gC G 0) (16) (fun _ => 0)), (sa + 15, aI (gC G 1) (16) (fun _ => 0)), (sa + 16, aI (gC G 0) (16) (fun _ => 0)), (sa + 17, aI (gC G 1) (48) (fun _ => 0)), (sa + 18, aI (gC G 0) (144) (fun _ => 0)), (sa + 19, aI (gC G 0) (144) (fun _ => 0)), (sa + 20, aI (gC G 0) (144) (fun _ => 0)), (sa + 21, aI (gC G 0) (144) (fun _ => 0)), (sa + 22, aI (gC G 0) (793) (fun _ => 0))] ++ T0) H locs := ⟨h1, h2, h3⟩
    have hWo : ∀ q ∈ wMoI1 G (σ + 290), va_at G.1 gcl q H := by rw [← hsa]; exact fun q hq => va_P_mem.mp hW.1 q (List.mem_append_left _ hq)
    have hWt : ∀ q ∈ T0, va_at G.1 gcl q H := fun q hq => va_P_mem.mp hW.1 q (List.mem_append_right _ hq)
    have hW : WD G zs.heap (dI 1) H locs := WD_of hF (by decide) (Or.inl rfl) hW.2.2 (fun c hc h0 => mo_cases1 hF hc h0 (hT H hWt) (fun h6 => moc1 hF hWo hc h6))
    have esa : sa = gad G (600) := hsa.trans ((GF_gad hF _).trans (g1_Mo σ 0)).symm
    rw [esa] at hl
    have hl : lv_has ls 3 [(0, .ref (gad G (600))), (1, .int (f))] := hl
    refine lv_iconst (v := 0) hx hb d_Mo_init_195 (by decide) ?_
    refine lv_istore_n (lv' := [(2, .int (0)), (0, .ref (gad G (600))), (1, .int (f))]) hx hb d_Mo_init_196 rfl hl (by decide) rfl (fun ls hl => ?_)
    have L_197 : ∀ (N k : Nat), k ≤ 12 → 12 + 1 ≤ k + N → ∀ (H : Heap) (locs : List Loc) (ls : Array Slot), WD G zs.heap (lpFill (dI 1) 606 (-1) k) H locs → lv_has ls 3 [(2, .int (nI k)), (0, .ref (gad G (600))), (1, .int (f))] → W p l e { frames := 1, cells := 22, slots := 1873, locals := 30 } zs zm [.ref sa, .int (f)].toArray below meth zc H locs 22 1873 (MQ below (hQv G (fun H9 => va_P G.1 gcl (wl G (D0 1)) H9 ∧ va_D (gAb G) (wl G (D0 1)) ∧ Array.size H9 = sa + 23)) [.ref sa, .int (f)].toArray zs 22 1873 (gAb G)) (F0 zm 197 ls []) := by
      intro N
      induction N with
      | zero => intro k h1 h2; exact absurd h2 (by omega)
      | succ N ih_k =>
        intro k hi_k hN_k H locs ls hW hl
        refine lv_iload_n hx hb d_Mo_init_197 rfl (lv_at hl 0 rfl) ?_
        refine lv_bipush (v := 12) hx hb d_Mo_init_198 (by decide) ?_
        refine lv_icmp_ge (tgt := 216) hx hb d_Mo_init_200 (by decide) (fun c_2 => ?_) (fun c_2 => ?_)
        · skip
          have e_k : 12 = k := (lp_out rfl (by omega) hi_k c_2).symm
          subst e_k
          refine lv_iconst (v := 0) hx hb d_Mo_init_216 (by decide) ?_
          refine lv_istore_n (lv' := [(2, .int (0)), (0, .ref (gad G (600))), (1, .int (f))]) hx hb d_Mo_init_217 rfl hl (by decide) rfl (fun ls hl => ?_)
          have L_218 : ∀ (N k : Nat), k ≤ 72 → 72 + 1 ≤ k + N → ∀ (H : Heap) (locs : List Loc) (ls : Array Slot), WD G zs.heap (lpFill (lpFill (dI 1) 606 (-1) 12) 614 (-1) k) H locs → lv_has ls 3 [(2, .int (nI k)), (0, .ref (gad G (600))), (1, .int (f))] → W p l e { frames := 1, cells := 22, slots := 1873, locals := 30 } zs zm [.ref sa, .int (f)].toArray below meth zc H locs 22 1873 (MQ below (hQv G (fun H9 => va_P G.1 gcl (wl G (D0 1)) H9 ∧ va_D (gAb G) (wl G (D0 1)) ∧ Array.size H9 = sa + 23)) [.ref sa, .int (f)].toArray zs 22 1873 (gAb G)) (F0 zm 218 ls []) := by
            intro N
            induction N with
            | zero => intro k h1 h2; exact absurd h2 (by omega)
            | succ N ih_k =>
              intro k hi_k hN_k H locs ls hW hl
              refine lv_iload_n hx hb d_Mo_init_218 rfl (lv_at hl 0 rfl) ?_
              refine lv_bipush (v := 72) hx hb d_Mo_init_219 (by decide) ?_
              refine lv_icmp_ge (tgt := 237) hx hb d_Mo_init_221 (by decide) (fun c_3 => ?_) (fun c_3 => ?_)
              · skip
                have e_k : 72 = k := (lp_out rfl (by omega) hi_k c_3).symm
                subst e_k
                refine lv_iconst (v := 0) hx hb d_Mo_init_237 (by decide) ?_
                refine lv_istore_n (lv' := [(2, .int (0)), (0, .ref (gad G (600))), (1, .int (f))]) hx hb d_Mo_init_238 rfl hl (by decide) rfl (fun ls hl => ?_)
                refine lv_iload_n hx hb d_Mo_init_239 rfl (lv_at hl 0 rfl) ?_
                refine lv_iconst (v := 2) hx hb d_Mo_init_240 (by decide) ?_
                refine lv_icmp_ge (tgt := 255) hx hb d_Mo_init_241 (by decide) (fun c_4 => ?_) (fun c_4 => ?_)
                · exact absurd c_4 (by decide)
                · skip
                  refine lv_aload_n hx hb d_Mo_init_244 rfl (lv_at hl 1 rfl) ?_
                  refine lv_iload_n hx hb d_Mo_init_245 rfl (lv_at hl 0 rfl) ?_
                  refine e_cv (e_runV hx hb hml hown hts hE hbs hW (F_Mo G hG) rfl (c_M_forget l G hG (lpFill (lpFill (dI 1) 606 (-1) 12) 614 (-1) 72) 0 (by decide)) kw_512 kw_513 kw_514 kw_412 kw_511 rfl rfl hd_Mo_forget ⟨Nat.le_of_ble_eq_true rfl, Nat.le_of_ble_eq_true rfl⟩ (As := [.int (0)]) (rest := []) rfl hl.1 rfl (Nat.le_of_ble_eq_true rfl) d_Mo_init_246 ⟨Nat.le_of_ble_eq_true rfl, Nat.le_of_ble_eq_true rfl⟩) hW (fun d' H locs hp hW => ?_)
                  have hp := hp.symm; subst hp
                  refine lv_iinc (v := 1) (lv' := [(2, .int (1)), (0, .ref (gad G (600))), (1, .int (f))]) hx hb d_Mo_init_249 hl (k := 0) rfl (by decide) (by decide) rfl (fun ls hl => ?_)
                  refine lv_goto (tgt := 239) hx hb d_Mo_init_252 (by decide) ?_
                  refine lv_iload_n hx hb d_Mo_init_239 rfl (lv_at hl 0 rfl) ?_
                  refine lv_iconst (v := 2) hx hb d_Mo_init_240 (by decide) ?_
                  refine lv_icmp_ge (tgt := 255) hx hb d_Mo_init_241 (by decide) (fun c_5 => ?_) (fun c_5 => ?_)
                  · exact absurd c_5 (by decide)
                  · skip
                    refine lv_aload_n hx hb d_Mo_init_244 rfl (lv_at hl 1 rfl) ?_
                    refine lv_iload_n hx hb d_Mo_init_245 rfl (lv_at hl 0 rfl) ?_
                    refine e_cv (e_runV hx hb hml hown hts hE hbs hW (F_Mo G hG) rfl (c_M_forget l G hG (m_fgt (lpFill (lpFill (dI 1) 606 (-1) 12) 614 (-1) 72) 0) 1 (by decide)) kw_512 kw_513 kw_514 kw_412 kw_511 rfl rfl hd_Mo_forget ⟨Nat.le_of_ble_eq_true rfl, Nat.le_of_ble_eq_true rfl⟩ (As := [.int (1)]) (rest := []) rfl hl.1 rfl (Nat.le_of_ble_eq_true rfl) d_Mo_init_246 ⟨Nat.le_of_ble_eq_true rfl, Nat.le_of_ble_eq_true rfl⟩) hW (fun d' H locs hp hW => ?_)
                    have hp := hp.symm; subst hp
                    refine lv_iinc (v := 2) (lv' := [(2, .int (2)), (0, .ref (gad G (600))), (1, .int (f))]) hx hb d_Mo_init_249 hl (k := 0) rfl (by decide) (by decide) rfl (fun ls hl => ?_)
                    refine lv_goto (tgt := 239) hx hb d_Mo_init_252 (by decide) ?_
                    refine lv_iload_n hx hb d_Mo_init_239 rfl (lv_at hl 0 rfl) ?_
                    refine lv_iconst (v := 2) hx hb d_Mo_init_240 (by decide) ?_
                    refine lv_icmp_ge (tgt := 255) hx hb d_Mo_init_241 (by decide) (fun c_6 => ?_) (fun c_6 => ?_)
                    · skip
                      refine W_sz (fun hzu => ?_)
                      have hzl := WD_lt hW (F_Mnet G hG).1
                      rw [show gad G 624 = _ from (GF_gad hF _).trans (g1_Mnet σ 0)] at hzl
                      exact h_vret hx hb hr hlk hW.2.2 ⟨hW.1, hW.2.1, sz_eq hzu hz0 hzl rfl (by rw [hsa])⟩ (Nat.le_of_ble_eq_true rfl) (Nat.le_of_ble_eq_true rfl) d_Mo_init_255
                    · exact absurd c_6 (by decide)
              · skip
                have lt_k : k < 72 := lp_in rfl (by omega) hi_k c_3
                refine lv_aload_n hx hb d_Mo_init_224 rfl (lv_at hl 1 rfl) ?_
                refine e_get (v := .ref (gad G (614))) hx hb hts hown hK hW (F_Mo G hG) i_Mo rfl 14 (by decide) (hts _ kw_442) (fun _ h => h) rfl d_Mo_init_225 ?_
                refine lv_iload_n hx hb d_Mo_init_228 rfl (lv_at hl 0 rfl) ?_
                refine lv_iconst (v := -1) hx hb d_Mo_init_229 (by decide) ?_
                refine e_iast hx hb hK hW (F_MtakenBallot G hG) (j := k) (by omega) rfl d_Mo_init_230 (fun H locs hW => ?_)
                refine lv_iinc (v := nI (k + 1)) (lv' := [(2, .int (nI (k + 1))), (0, .ref (gad G (600))), (1, .int (f))]) hx hb d_Mo_init_231 hl (k := 0) rfl (nI_1 (k)) (by decide) rfl (fun ls hl => ?_)
                refine lv_goto (tgt := 218) hx hb d_Mo_init_234 (by decide) ?_
                exact ih_k (k + 1) (by omega) (by omega) _ _ _ hW (lv_sub hl [0, 1, 2] rfl)
          exact L_218 (72 + 1) 0 (by omega) (by omega) _ _ _ hW (lv_sub hl [0, 1, 2] rfl)
        · skip
          have lt_k : k < 12 := lp_in rfl (by omega) hi_k c_2
          refine lv_aload_n hx hb d_Mo_init_203 rfl (lv_at hl 1 rfl) ?_
          refine e_get (v := .ref (gad G (606))) hx hb hts hown hK hW (F_Mo G hG) i_Mo rfl 6 (by decide) (hts _ kw_409) (fun _ h => h) rfl d_Mo_init_204 ?_
          refine lv_iload_n hx hb d_Mo_init_207 rfl (lv_at hl 0 rfl) ?_
          refine lv_iconst (v := -1) hx hb d_Mo_init_208 (by decide) ?_
          refine e_iast hx hb hK hW (F_Mlock G hG) (j := k) (by omega) rfl d_Mo_init_209 (fun H locs hW => ?_)
          refine lv_iinc (v := nI (k + 1)) (lv' := [(2, .int (nI (k + 1))), (0, .ref (gad G (600))), (1, .int (f))]) hx hb d_Mo_init_210 hl (k := 0) rfl (nI_1 (k)) (by decide) rfl (fun ls hl => ?_)
          refine lv_goto (tgt := 197) hx hb d_Mo_init_213 (by decide) ?_
          exact ih_k (k + 1) (by omega) (by omega) _ _ _ hW (lv_sub hl [0, 1, 2] rfl)
    exact L_197 (12 + 1) 0 (by omega) (by omega) _ _ _ hW (lv_sub hl [0, 1, 2] rfl)
def wMoI3 (G : GT) (sa : Nat) : va_W := [(sa, .inr (iMo, [.int (0), .int (3), .ref (sa + 1), .ref (sa + 2), .ref (sa + 3), .ref (sa + 4), .ref (sa + 5), .int (0), .ref (sa + 6), .ref (sa + 7), .ref (sa + 8), .ref (sa + 9), .ref (sa + 10), .ref (sa + 11), .ref (sa + 12), .ref (sa + 13), .ref (sa + 14), .ref (sa + 15), .ref (sa + 16), .ref (sa + 17), .ref (sa + 18), .ref (sa + 19), .ref (sa + 20), .ref (sa + 21), .ref (sa + 22), .int (0), .int (0)])), (sa + 1, aI (gC G 1) (3) (fun _ => 0)), (sa + 2, aI (gC G 1) (3) (fun _ => 0)), (sa + 3, aI (gC G 1) (2) (fun _ => 0)), (sa + 4, aI (gC G 0) (12) (fun _ => 0)), (sa + 5, aI (gC G 0) (12) (fun _ => 0)), (sa + 6, aI (gC G 0) (8) (fun _ => 0)), (sa + 7, aI (gC G 1) (8) (fun _ => 0)), (sa + 8, aI (gC G 0) (24) (fun _ => 0)), (sa + 9, aI (gC G 0) (24) (fun _ => 0)), (sa + 10, aI (gC G 0) (96) (fun _ => 0)), (sa + 11, aI (gC G 0) (72) (fun _ => 0)), (sa + 12, aI (gC G 0) (72) (fun _ => 0)), (sa + 13, aI (gC G 0) (72) (fun _ => 0)), (sa + 14, aI (gC G 0) (16) (fun _ => 0)), (sa + 15, aI (gC G 1) (16) (fun _ => 0)), (sa + 16, aI (gC G 0) (16) (fun _ => 0)), (sa + 17, aI (gC G 1) (48) (fun _ => 0)), (sa + 18, aI (gC G 0) (144) (fun _ => 0)), (sa + 19, aI (gC G 0) (144) (fun _ => 0)), (sa + 20, aI (gC G 0) (144) (fun _ => 0)), (sa + 21, aI (gC G 0) (144) (fun _ => 0)), (sa + 22, aI (gC G 0) (793) (fun _ => 0))]
theorem moc3_storeDown {G : GT} {σ z : Nat} {H : Heap} (hF : GF 3 σ z G) (hM : ∀ q ∈ wMoI3 G (σ + 392), va_at G.1 gcl q H) : va_at G.1 gcl (gad G 602, en G (dI 3) 602) H := by
  have hG := GF_ok hF (by decide)
  have hm := hM _ (List.mem_of_getElem? (i := 1) rfl)
  rw [en, (F_MstoreDown G hG).2.2, (GF_gad hF _).trans (g3_MstoreDown σ z)]
  exact at_cgI (fun j hj => by rw [dI_MstoreDown j]) hm
theorem moc3_acceptorDown {G : GT} {σ z : Nat} {H : Heap} (hF : GF 3 σ z G) (hM : ∀ q ∈ wMoI3 G (σ + 392), va_at G.1 gcl q H) : va_at G.1 gcl (gad G 603, en G (dI 3) 603) H := by
  have hG := GF_ok hF (by decide)
  have hm := hM _ (List.mem_of_getElem? (i := 2) rfl)
  rw [en, (F_MacceptorDown G hG).2.2, (GF_gad hF _).trans (g3_MacceptorDown σ z)]
  exact at_cgI (fun j hj => by rw [dI_MacceptorDown j]) hm
theorem moc3_leaderDown {G : GT} {σ z : Nat} {H : Heap} (hF : GF 3 σ z G) (hM : ∀ q ∈ wMoI3 G (σ + 392), va_at G.1 gcl q H) : va_at G.1 gcl (gad G 604, en G (dI 3) 604) H := by
  have hG := GF_ok hF (by decide)
  have hm := hM _ (List.mem_of_getElem? (i := 3) rfl)
  rw [en, (F_MleaderDown G hG).2.2, (GF_gad hF _).trans (g3_MleaderDown σ z)]
  exact at_cgI (fun j hj => by rw [dI_MleaderDown j]) hm
theorem moc3_value {G : GT} {σ z : Nat} {H : Heap} (hF : GF 3 σ z G) (hM : ∀ q ∈ wMoI3 G (σ + 392), va_at G.1 gcl q H) : va_at G.1 gcl (gad G 605, en G (dI 3) 605) H := by
  have hG := GF_ok hF (by decide)
  have hm := hM _ (List.mem_of_getElem? (i := 4) rfl)
  rw [en, (F_Mvalue G hG).2.2, (GF_gad hF _).trans (g3_Mvalue σ z)]
  exact at_cgI (fun j hj => by rw [dI_Mvalue j]) hm
theorem moc3_lock {G : GT} {σ z : Nat} {H : Heap} (hF : GF 3 σ z G) (hM : ∀ q ∈ wMoI3 G (σ + 392), va_at G.1 gcl q H) : va_at G.1 gcl (gad G 606, en G (dI 3) 606) H := by
  have hG := GF_ok hF (by decide)
  have hm := hM _ (List.mem_of_getElem? (i := 5) rfl)
  rw [en, (F_Mlock G hG).2.2, (GF_gad hF _).trans (g3_Mlock σ z)]
  exact at_cgI (fun j hj => by rw [dI_Mlock j]) hm
theorem moc3_members {G : GT} {σ z : Nat} {H : Heap} (hF : GF 3 σ z G) (hM : ∀ q ∈ wMoI3 G (σ + 392), va_at G.1 gcl q H) : va_at G.1 gcl (gad G 608, en G (dI 3) 608) H := by
  have hG := GF_ok hF (by decide)
  have hm := hM _ (List.mem_of_getElem? (i := 6) rfl)
  rw [en, (F_Mmembers G hG).2.2, (GF_gad hF _).trans (g3_Mmembers σ z)]
  exact at_cgI (fun j hj => by rw [dI_Mmembers j]) hm
theorem moc3_closed {G : GT} {σ z : Nat} {H : Heap} (hF : GF 3 σ z G) (hM : ∀ q ∈ wMoI3 G (σ + 392), va_at G.1 gcl q H) : va_at G.1 gcl (gad G 609, en G (dI 3) 609) H := by
  have hG := GF_ok hF (by decide)
  have hm := hM _ (List.mem_of_getElem? (i := 7) rfl)
  rw [en, (F_Mclosed G hG).2.2, (GF_gad hF _).trans (g3_Mclosed σ z)]
  exact at_cgI (fun j hj => by rw [dI_Mclosed j]) hm
theorem moc3_state {G : GT} {σ z : Nat} {H : Heap} (hF : GF 3 σ z G) (hM : ∀ q ∈ wMoI3 G (σ + 392), va_at G.1 gcl q H) : va_at G.1 gcl (gad G 610, en G (dI 3) 610) H := by
  have hG := GF_ok hF (by decide)
  have hm := hM _ (List.mem_of_getElem? (i := 8) rfl)
  rw [en, (F_Mstate G hG).2.2, (GF_gad hF _).trans (g3_Mstate σ z)]
  exact at_cgI (fun j hj => by rw [dI_Mstate j]) hm
theorem moc3_writes {G : GT} {σ z : Nat} {H : Heap} (hF : GF 3 σ z G) (hM : ∀ q ∈ wMoI3 G (σ + 392), va_at G.1 gcl q H) : va_at G.1 gcl (gad G 611, en G (dI 3) 611) H := by
  have hG := GF_ok hF (by decide)
  have hm := hM _ (List.mem_of_getElem? (i := 9) rfl)
  rw [en, (F_Mwrites G hG).2.2, (GF_gad hF _).trans (g3_Mwrites σ z)]
  exact at_cgI (fun j hj => by rw [dI_Mwrites j]) hm
theorem moc3_written {G : GT} {σ z : Nat} {H : Heap} (hF : GF 3 σ z G) (hM : ∀ q ∈ wMoI3 G (σ + 392), va_at G.1 gcl q H) : va_at G.1 gcl (gad G 612, en G (dI 3) 612) H := by
  have hG := GF_ok hF (by decide)
  have hm := hM _ (List.mem_of_getElem? (i := 10) rfl)
  rw [en, (F_Mwritten G hG).2.2, (GF_gad hF _).trans (g3_Mwritten σ z)]
  exact at_cgI (fun j hj => by rw [dI_Mwritten j]) hm
theorem moc3_promised {G : GT} {σ z : Nat} {H : Heap} (hF : GF 3 σ z G) (hM : ∀ q ∈ wMoI3 G (σ + 392), va_at G.1 gcl q H) : va_at G.1 gcl (gad G 613, en G (dI 3) 613) H := by
  have hG := GF_ok hF (by decide)
  have hm := hM _ (List.mem_of_getElem? (i := 11) rfl)
  rw [en, (F_Mpromised G hG).2.2, (GF_gad hF _).trans (g3_Mpromised σ z)]
  exact at_cgI (fun j hj => by rw [dI_Mpromised j]) hm
theorem moc3_takenBallot {G : GT} {σ z : Nat} {H : Heap} (hF : GF 3 σ z G) (hM : ∀ q ∈ wMoI3 G (σ + 392), va_at G.1 gcl q H) : va_at G.1 gcl (gad G 614, en G (dI 3) 614) H := by
  have hG := GF_ok hF (by decide)
  have hm := hM _ (List.mem_of_getElem? (i := 12) rfl)
  rw [en, (F_MtakenBallot G hG).2.2, (GF_gad hF _).trans (g3_MtakenBallot σ z)]
  exact at_cgI (fun j hj => by rw [dI_MtakenBallot j]) hm
theorem moc3_takenVote {G : GT} {σ z : Nat} {H : Heap} (hF : GF 3 σ z G) (hM : ∀ q ∈ wMoI3 G (σ + 392), va_at G.1 gcl q H) : va_at G.1 gcl (gad G 615, en G (dI 3) 615) H := by
  have hG := GF_ok hF (by decide)
  have hm := hM _ (List.mem_of_getElem? (i := 13) rfl)
  rw [en, (F_MtakenVote G hG).2.2, (GF_gad hF _).trans (g3_MtakenVote σ z)]
  exact at_cgI (fun j hj => by rw [dI_MtakenVote j]) hm
theorem moc3_ballot {G : GT} {σ z : Nat} {H : Heap} (hF : GF 3 σ z G) (hM : ∀ q ∈ wMoI3 G (σ + 392), va_at G.1 gcl q H) : va_at G.1 gcl (gad G 616, en G (dI 3) 616) H := by
  have hG := GF_ok hF (by decide)
  have hm := hM _ (List.mem_of_getElem? (i := 14) rfl)
  rw [en, (F_Mballot G hG).2.2, (GF_gad hF _).trans (g3_Mballot σ z)]
  exact at_cgI (fun j hj => by rw [dI_Mballot j]) hm
theorem moc3_proposed {G : GT} {σ z : Nat} {H : Heap} (hF : GF 3 σ z G) (hM : ∀ q ∈ wMoI3 G (σ + 392), va_at G.1 gcl q H) : va_at G.1 gcl (gad G 617, en G (dI 3) 617) H := by
  have hG := GF_ok hF (by decide)
  have hm := hM _ (List.mem_of_getElem? (i := 15) rfl)
  rw [en, (F_Mproposed G hG).2.2, (GF_gad hF _).trans (g3_Mproposed σ z)]
  exact at_cgI (fun j hj => by rw [dI_Mproposed j]) hm
theorem moc3_known {G : GT} {σ z : Nat} {H : Heap} (hF : GF 3 σ z G) (hM : ∀ q ∈ wMoI3 G (σ + 392), va_at G.1 gcl q H) : va_at G.1 gcl (gad G 618, en G (dI 3) 618) H := by
  have hG := GF_ok hF (by decide)
  have hm := hM _ (List.mem_of_getElem? (i := 16) rfl)
  rw [en, (F_Mknown G hG).2.2, (GF_gad hF _).trans (g3_Mknown σ z)]
  exact at_cgI (fun j hj => by rw [dI_Mknown j]) hm
theorem moc3_replied {G : GT} {σ z : Nat} {H : Heap} (hF : GF 3 σ z G) (hM : ∀ q ∈ wMoI3 G (σ + 392), va_at G.1 gcl q H) : va_at G.1 gcl (gad G 619, en G (dI 3) 619) H := by
  have hG := GF_ok hF (by decide)
  have hm := hM _ (List.mem_of_getElem? (i := 17) rfl)
  rw [en, (F_Mreplied G hG).2.2, (GF_gad hF _).trans (g3_Mreplied σ z)]
  exact at_cgI (fun j hj => by rw [dI_Mreplied j]) hm
theorem moc3_replyBallot {G : GT} {σ z : Nat} {H : Heap} (hF : GF 3 σ z G) (hM : ∀ q ∈ wMoI3 G (σ + 392), va_at G.1 gcl q H) : va_at G.1 gcl (gad G 620, en G (dI 3) 620) H := by
  have hG := GF_ok hF (by decide)
  have hm := hM _ (List.mem_of_getElem? (i := 18) rfl)
  rw [en, (F_MreplyBallot G hG).2.2, (GF_gad hF _).trans (g3_MreplyBallot σ z)]
  exact at_cgI (fun j hj => by rw [dI_MreplyBallot j]) hm
theorem moc3_replyVote {G : GT} {σ z : Nat} {H : Heap} (hF : GF 3 σ z G) (hM : ∀ q ∈ wMoI3 G (σ + 392), va_at G.1 gcl q H) : va_at G.1 gcl (gad G 621, en G (dI 3) 621) H := by
  have hG := GF_ok hF (by decide)
  have hm := hM _ (List.mem_of_getElem? (i := 19) rfl)
  rw [en, (F_MreplyVote G hG).2.2, (GF_gad hF _).trans (g3_MreplyVote σ z)]
  exact at_cgI (fun j hj => by rw [dI_MreplyVote j]) hm
theorem moc3_latestBallot {G : GT} {σ z : Nat} {H : Heap} (hF : GF 3 σ z G) (hM : ∀ q ∈ wMoI3 G (σ + 392), va_at G.1 gcl q H) : va_at G.1 gcl (gad G 622, en G (dI 3) 622) H := by
  have hG := GF_ok hF (by decide)
  have hm := hM _ (List.mem_of_getElem? (i := 20) rfl)
  rw [en, (F_MlatestBallot G hG).2.2, (GF_gad hF _).trans (g3_MlatestBallot σ z)]
  exact at_cgI (fun j hj => by rw [dI_MlatestBallot j]) hm
theorem moc3_latestVote {G : GT} {σ z : Nat} {H : Heap} (hF : GF 3 σ z G) (hM : ∀ q ∈ wMoI3 G (σ + 392), va_at G.1 gcl q H) : va_at G.1 gcl (gad G 623, en G (dI 3) 623) H := by
  have hG := GF_ok hF (by decide)
  have hm := hM _ (List.mem_of_getElem? (i := 21) rfl)
  rw [en, (F_MlatestVote G hG).2.2, (GF_gad hF _).trans (g3_MlatestVote σ z)]
  exact at_cgI (fun j hj => by rw [dI_MlatestVote j]) hm
theorem moc3_net {G : GT} {σ z : Nat} {H : Heap} (hF : GF 3 σ z G) (hM : ∀ q ∈ wMoI3 G (σ + 392), va_at G.1 gcl q H) : va_at G.1 gcl (gad G 624, en G (dI 3) 624) H := by
  have hG := GF_ok hF (by decide)
  have hm := hM _ (List.mem_of_getElem? (i := 22) rfl)
  rw [en, (F_Mnet G hG).2.2, (GF_gad hF _).trans (g3_Mnet σ z)]
  exact at_cgI (fun j hj => by rw [dI_Mnet j]) hm
theorem moc3_Mo {G : GT} {σ z : Nat} {H : Heap} (hF : GF 3 σ z G) (hM : ∀ q ∈ wMoI3 G (σ + 392), va_at G.1 gcl q H) : va_at G.1 gcl (gad G 600, en G (dI 3) 600) H := by
  have hG := GF_ok hF (by decide)
  have hm := hM _ (List.mem_of_getElem? (i := 0) rfl)
  rw [en, (F_Mo G hG).2, (GF_gad hF _).trans (g3_Mo σ z)]
  unfold fsMo
  rw [show gad G 602 = _ from (GF_gad hF _).trans (g3_MstoreDown σ z), show gad G 603 = _ from (GF_gad hF _).trans (g3_MacceptorDown σ z), show gad G 604 = _ from (GF_gad hF _).trans (g3_MleaderDown σ z), show gad G 605 = _ from (GF_gad hF _).trans (g3_Mvalue σ z), show gad G 606 = _ from (GF_gad hF _).trans (g3_Mlock σ z), show gad G 608 = _ from (GF_gad hF _).trans (g3_Mmembers σ z), show gad G 609 = _ from (GF_gad hF _).trans (g3_Mclosed σ z), show gad G 610 = _ from (GF_gad hF _).trans (g3_Mstate σ z), show gad G 611 = _ from (GF_gad hF _).trans (g3_Mwrites σ z), show gad G 612 = _ from (GF_gad hF _).trans (g3_Mwritten σ z), show gad G 613 = _ from (GF_gad hF _).trans (g3_Mpromised σ z), show gad G 614 = _ from (GF_gad hF _).trans (g3_MtakenBallot σ z), show gad G 615 = _ from (GF_gad hF _).trans (g3_MtakenVote σ z), show gad G 616 = _ from (GF_gad hF _).trans (g3_Mballot σ z), show gad G 617 = _ from (GF_gad hF _).trans (g3_Mproposed σ z), show gad G 618 = _ from (GF_gad hF _).trans (g3_Mknown σ z), show gad G 619 = _ from (GF_gad hF _).trans (g3_Mreplied σ z), show gad G 620 = _ from (GF_gad hF _).trans (g3_MreplyBallot σ z), show gad G 621 = _ from (GF_gad hF _).trans (g3_MreplyVote σ z), show gad G 622 = _ from (GF_gad hF _).trans (g3_MlatestBallot σ z), show gad G 623 = _ from (GF_gad hF _).trans (g3_MlatestVote σ z), show gad G 624 = _ from (GF_gad hF _).trans (g3_Mnet σ z)]
  exact hm
set_option maxRecDepth 100000 in
theorem moc3 {G : GT} {σ z : Nat} {H : Heap} (hF : GF 3 σ z G) (hM : ∀ q ∈ wMoI3 G (σ + 392), va_at G.1 gcl q H) {c : Nat} (hc : okc 3 c) (h6 : 600 ≤ c) : va_at G.1 gcl (gad G c, en G (dI 3) c) H := by
  unfold okc at hc
  have h : c = 600 ∨ c = 602 ∨ c = 603 ∨ c = 604 ∨ c = 605 ∨ c = 606 ∨ c = 608 ∨ c = 609 ∨ c = 610 ∨ c = 611 ∨ c = 612 ∨ c = 613 ∨ c = 614 ∨ c = 615 ∨ c = 616 ∨ c = 617 ∨ c = 618 ∨ c = 619 ∨ c = 620 ∨ c = 621 ∨ c = 622 ∨ c = 623 ∨ c = 624 := by omega
  rcases h with rfl | rfl | rfl | rfl | rfl | rfl | rfl | rfl | rfl | rfl | rfl | rfl | rfl | rfl | rfl | rfl | rfl | rfl | rfl | rfl | rfl | rfl | rfl
  · exact moc3_Mo hF hM
  · exact moc3_storeDown hF hM
  · exact moc3_acceptorDown hF hM
  · exact moc3_leaderDown hF hM
  · exact moc3_value hF hM
  · exact moc3_lock hF hM
  · exact moc3_members hF hM
  · exact moc3_closed hF hM
  · exact moc3_state hF hM
  · exact moc3_writes hF hM
  · exact moc3_written hF hM
  · exact moc3_promised hF hM
  · exact moc3_takenBallot hF hM
  · exact moc3_takenVote hF hM
  · exact moc3_ballot hF hM
  · exact moc3_proposed hF hM
  · exact moc3_known hF hM
  · exact moc3_replied hF hM
  · exact moc3_replyBallot hF hM
  · exact moc3_replyVote hF hM
  · exact moc3_latestBallot hF hM
  · exact moc3_latestVote hF hM
  · exact moc3_net hF hM
theorem mo_cases3 {G : GT} {σ : Nat} (hF : GF 3 σ 0 G) {P : Nat → Prop} {c : Nat} (hc : okc 3 c) (h0 : gad G c ≠ 0) (h1 : ∀ c, okc 3 c → ¬ c = 9 → c < 600 → P c) (h2 : 600 ≤ c → P c) : P c := by
  by_cases h9 : c = 9
  · exact absurd (by rw [GF_gad hF, h9]; rfl) h0
  · rcases Nat.lt_or_ge c 600 with h | h
    · exact h1 c hc h9 h
    · exact h2 h
set_option maxHeartbeats 4000000 in
set_option maxRecDepth 100000 in
theorem h_MoI3 (l : Launch) (G : GT) (Hx : Heap) (sa σ : Nat) (f : Int32) (hf : ¬ f = 0) (hF : GF 3 σ 0 G) (T0 : va_W) (hT : ∀ H1 : Heap, (∀ q ∈ T0, va_at G.1 gcl q H1) → ∀ c, okc 3 c → ¬ c = 9 → c < 600 → va_at G.1 gcl (gad G c, en G (dI 3) c) H1) (hsa : sa = σ + 392) (hz0 : Array.size Hx = sa + 1) (hP : va_P G.1 gcl ([(sa, .inr (iMo, [.int (0), .int (0), .null, .null, .null, .null, .null, .int (0), .null, .null, .null, .null, .null, .null, .null, .null, .null, .null, .null, .null, .null, .null, .null, .null, .null, .int (0), .int (0)]))] ++ T0) Hx) (hD : va_D (gAb G) ([(sa, .inr (iMo, [.int (0), .int (0), .null, .null, .null, .null, .null, .int (0), .null, .null, .null, .null, .null, .null, .null, .null, .null, .null, .null, .null, .null, .null, .null, .null, .null, .int (0), .int (0)]))] ++ T0)) : Met l y_Mo_init (.code y_Mo_init b_Mo_init 3 none :: WS) { frames := 1, cells := 22, slots := 1873, locals := 30 } (hPre G [.ref sa, .int (f)] (fun H9 => H9 = Hx)) (hQv G (fun H9 => va_P G.1 gcl (wl G (D0 3)) H9 ∧ va_D (gAb G) (wl G (D0 3)) ∧ Array.size H9 = sa + 23)) 22 1873 (gAb G) := by
  refine h_startI (own := R_Mo) (by decide +kernel) rfl (Nat.le_of_ble_eq_true rfl) ?_
  intro p e zs zm below meth zc ls hini C hI hl
  subst hI
  obtain ⟨hx, hb, hr, hml, hown, hts, hlk, hE, hbs⟩ := C
  have hK := hE.1
  have hl : lv_has ls 3 [(0, .ref sa), (1, .int (f))] := hl
  obtain ⟨locs, hlocs⟩ : ∃ l9 : List Loc, l9 = [] := ⟨_, rfl⟩
  rw [← hlocs]
  have hW : WW G zs.heap ([(sa, .inr (iMo, [.int (0), .int (0), .null, .null, .null, .null, .null, .int (0), .null, .null, .null, .null, .null, .null, .null, .null, .null, .null, .null, .null, .null, .null, .null, .null, .null, .int (0), .int (0)]))] ++ T0) zs.heap locs := ⟨hP, hD, by rw [hlocs]; exact va_S.rf⟩
  have hG := GF_ok hF (by decide)
  have hn3 := hG.1
  refine lv_aload_n hx hb d_Mo_init_0 rfl (lv_at hl 0 rfl) ?_
  refine h_oinit hx hb hown (hts _ kw_568) (hts _ kw_89) (hts _ kw_90) (by rw [hml]; exact hl.1) d_Mo_init_1 (Nat.le_of_ble_eq_true rfl) (Nat.le_of_ble_eq_true rfl) ?_
  refine lv_aload_n hx hb d_Mo_init_4 rfl (lv_at hl 0 rfl) ?_
  refine lv_iconst (v := 3) hx hb d_Mo_init_5 (by decide) ?_
  refine W_sz (fun hzu => ?_)
  have hzl := (va_P_mem.mp hW.1 _ (List.mem_of_getElem? (i := 0) rfl)).lt
  have hz : Array.size zs.heap = sa + 1 := sz_eq hzu hz0 hzl rfl rfl
  refine h_newa (G := G) (atype := .boolean) (t0 := 1) (N' := 3) (a0 := (3, .inl (fun _ => 0))) hx hb hts kw_540 (List.mem_of_getElem? (i := 1) rfl) hE hW.2.2 (fun _ => by first | rfl | (rw [vp_cell_i]; rfl)) (by decide) (by decide) (by decide) (Nat.le_of_ble_eq_true rfl) (Nat.le_of_ble_eq_true rfl) d_Mo_init_6 (fun H ha9 hz9 hk9 hS9 => ?_)
  rw [hz] at ha9 ⊢
  have hW := WW_push2 hW hbs hz ha9 hk9 hS9
  have hW : WW G zs.heap ([(sa, .inr (iMo, [.int (0), .int (0), .null, .null, .null, .null, .null, .int (0), .null, .null, .null, .null, .null, .null, .null, .null, .null, .null, .null, .null, .null, .null, .null, .null, .null, .int (0), .int (0)])), (sa + 1, aI (gC G 1) (3) (fun _ => 0))] ++ T0) H locs := WW_perm (pm_push [(sa, .inr (iMo, [.int (0), .int (0), .null, .null, .null, .null, .null, .int (0), .null, .null, .null, .null, .null, .null, .null, .null, .null, .null, .null, .null, .null, .null, .null, .null, .null, .int (0), .int (0)]))] _ _) hW
  refine va_putF hx hb hts i_Mo t_Mo t_Mo_ok n_Mo hown hK hW.1 hW.2.1 hW.2.2 0 rfl rfl 2 (by decide) (hts _ kw_458) (fun _ h => h) rfl hini rfl (t_Mo_ok 2 (by decide)) rfl rfl (Nat.le_of_ble_eq_true rfl) d_Mo_init_8 (fun H locs h1 h2 h3 => ?_)
  have hW : WW G zs.heap ([(sa, .inr (iMo, [.int (0), .int (0), .ref (sa + 1), .null, .null, .null, .null, .int (0), .null, .null, .null, .null, .null, .null, .null, .null, .null, .null, .null, .null, .null, .null, .null, .null, .null, .int (0), .int (0)])), (sa + 1, aI (gC G 1) (3) (fun _ => 0))] ++ T0) H locs := ⟨h1, h2, h3⟩
  refine lv_aload_n hx hb d_Mo_init_11 rfl (lv_at hl 0 rfl) ?_
  refine lv_iconst (v := 3) hx hb d_Mo_init_12 (by decide) ?_
  refine W_sz (fun hzu => ?_)
  have hzl := (va_P_mem.mp hW.1 _ (List.mem_of_getElem? (i := 1) rfl)).lt
  have hz : Array.size H = sa + 2 := sz_eq hzu hz0 hzl rfl rfl
  refine h_newa (G := G) (atype := .boolean) (t0 := 1) (N' := 3) (a0 := (3, .inl (fun _ => 0))) hx hb hts kw_540 (List.mem_of_getElem? (i := 1) rfl) hE hW.2.2 (fun _ => by first | rfl | (rw [vp_cell_i]; rfl)) (by decide) (by decide) (by decide) (Nat.le_of_ble_eq_true rfl) (Nat.le_of_ble_eq_true rfl) d_Mo_init_13 (fun H ha9 hz9 hk9 hS9 => ?_)
  rw [hz] at ha9 ⊢
  have hW := WW_push2 hW hbs hz ha9 hk9 hS9
  have hW : WW G zs.heap ([(sa, .inr (iMo, [.int (0), .int (0), .ref (sa + 1), .null, .null, .null, .null, .int (0), .null, .null, .null, .null, .null, .null, .null, .null, .null, .null, .null, .null, .null, .null, .null, .null, .null, .int (0), .int (0)])), (sa + 1, aI (gC G 1) (3) (fun _ => 0)), (sa + 2, aI (gC G 1) (3) (fun _ => 0))] ++ T0) H locs := WW_perm (pm_push [(sa, .inr (iMo, [.int (0), .int (0), .ref (sa + 1), .null, .null, .null, .null, .int (0), .null, .null, .null, .null, .null, .null, .null, .null, .null, .null, .null, .null, .null, .null, .null, .null, .null, .int (0), .int (0)])), (sa + 1, aI (gC G 1) (3) (fun _ => 0))] _ _) hW
  refine va_putF hx hb hts i_Mo t_Mo t_Mo_ok n_Mo hown hK hW.1 hW.2.1 hW.2.2 0 rfl rfl 3 (by decide) (hts _ kw_463) (fun _ h => h) rfl hini rfl (t_Mo_ok 3 (by decide)) rfl rfl (Nat.le_of_ble_eq_true rfl) d_Mo_init_15 (fun H locs h1 h2 h3 => ?_)
  have hW : WW G zs.heap ([(sa, .inr (iMo, [.int (0), .int (0), .ref (sa + 1), .ref (sa + 2), .null, .null, .null, .int (0), .null, .null, .null, .null, .null, .null, .null, .null, .null, .null, .null, .null, .null, .null, .null, .null, .null, .int (0), .int (0)])), (sa + 1, aI (gC G 1) (3) (fun _ => 0)), (sa + 2, aI (gC G 1) (3) (fun _ => 0))] ++ T0) H locs := ⟨h1, h2, h3⟩
  refine lv_aload_n hx hb d_Mo_init_18 rfl (lv_at hl 0 rfl) ?_
  refine lv_iconst (v := 2) hx hb d_Mo_init_19 (by decide) ?_
  refine W_sz (fun hzu => ?_)
  have hzl := (va_P_mem.mp hW.1 _ (List.mem_of_getElem? (i := 2) rfl)).lt
  have hz : Array.size H = sa + 3 := sz_eq hzu hz0 hzl rfl rfl
  refine h_newa (G := G) (atype := .boolean) (t0 := 1) (N' := 2) (a0 := (2, .inl (fun _ => 0))) hx hb hts kw_540 (List.mem_of_getElem? (i := 1) rfl) hE hW.2.2 (fun _ => by first | rfl | (rw [vp_cell_i]; rfl)) (by decide) (by decide) (by decide) (Nat.le_of_ble_eq_true rfl) (Nat.le_of_ble_eq_true rfl) d_Mo_init_20 (fun H ha9 hz9 hk9 hS9 => ?_)
  rw [hz] at ha9 ⊢
  have hW := WW_push2 hW hbs hz ha9 hk9 hS9
  have hW : WW G zs.heap ([(sa, .inr (iMo, [.int (0), .int (0), .ref (sa + 1), .ref (sa + 2), .null, .null, .null, .int (0), .null, .null, .null, .null, .null, .null, .null, .null, .null, .null, .null, .null, .null, .null, .null, .null, .null, .int (0), .int (0)])), (sa + 1, aI (gC G 1) (3) (fun _ => 0)), (sa + 2, aI (gC G 1) (3) (fun _ => 0)), (sa + 3, aI (gC G 1) (2) (fun _ => 0))] ++ T0) H locs := WW_perm (pm_push [(sa, .inr (iMo, [.int (0), .int (0), .ref (sa + 1), .ref (sa + 2), .null, .null, .null, .int (0), .null, .null, .null, .null, .null, .null, .null, .null, .null, .null, .null, .null, .null, .null, .null, .null, .null, .int (0), .int (0)])), (sa + 1, aI (gC G 1) (3) (fun _ => 0)), (sa + 2, aI (gC G 1) (3) (fun _ => 0))] _ _) hW
  refine va_putF hx hb hts i_Mo t_Mo t_Mo_ok n_Mo hown hK hW.1 hW.2.1 hW.2.2 0 rfl rfl 4 (by decide) (hts _ kw_468) (fun _ h => h) rfl hini rfl (t_Mo_ok 4 (by decide)) rfl rfl (Nat.le_of_ble_eq_true rfl) d_Mo_init_22 (fun H locs h1 h2 h3 => ?_)
  have hW : WW G zs.heap ([(sa, .inr (iMo, [.int (0), .int (0), .ref (sa + 1), .ref (sa + 2), .ref (sa + 3), .null, .null, .int (0), .null, .null, .null, .null, .null, .null, .null, .null, .null, .null, .null, .null, .null, .null, .null, .null, .null, .int (0), .int (0)])), (sa + 1, aI (gC G 1) (3) (fun _ => 0)), (sa + 2, aI (gC G 1) (3) (fun _ => 0)), (sa + 3, aI (gC G 1) (2) (fun _ => 0))] ++ T0) H locs := ⟨h1, h2, h3⟩
  refine lv_aload_n hx hb d_Mo_init_25 rfl (lv_at hl 0 rfl) ?_
  refine lv_bipush (v := 12) hx hb d_Mo_init_26 (by decide) ?_
  refine W_sz (fun hzu => ?_)
  have hzl := (va_P_mem.mp hW.1 _ (List.mem_of_getElem? (i := 3) rfl)).lt
  have hz : Array.size H = sa + 4 := sz_eq hzu hz0 hzl rfl rfl
  refine h_newa (G := G) (atype := .int) (t0 := 0) (N' := 12) (a0 := (12, .inl (fun _ => 0))) hx hb hts kw_532 (List.mem_of_getElem? (i := 0) rfl) hE hW.2.2 (fun _ => by first | rfl | (rw [vp_cell_i]; rfl)) (by decide) (by decide) (by decide) (Nat.le_of_ble_eq_true rfl) (Nat.le_of_ble_eq_true rfl) d_Mo_init_28 (fun H ha9 hz9 hk9 hS9 => ?_)
  rw [hz] at ha9 ⊢
  have hW := WW_push2 hW hbs hz ha9 hk9 hS9
  have hW : WW G zs.heap ([(sa, .inr (iMo, [.int (0), .int (0), .ref (sa + 1), .ref (sa + 2), .ref (sa + 3), .null, .null, .int (0), .null, .null, .null, .null, .null, .null, .null, .null, .null, .null, .null, .null, .null, .null, .null, .null, .null, .int (0), .int (0)])), (sa + 1, aI (gC G 1) (3) (fun _ => 0)), (sa + 2, aI (gC G 1) (3) (fun _ => 0)), (sa + 3, aI (gC G 1) (2) (fun _ => 0)), (sa + 4, aI (gC G 0) (12) (fun _ => 0))] ++ T0) H locs := WW_perm (pm_push [(sa, .inr (iMo, [.int (0), .int (0), .ref (sa + 1), .ref (sa + 2), .ref (sa + 3), .null, .null, .int (0), .null, .null, .null, .null, .null, .null, .null, .null, .null, .null, .null, .null, .null, .null, .null, .null, .null, .int (0), .int (0)])), (sa + 1, aI (gC G 1) (3) (fun _ => 0)), (sa + 2, aI (gC G 1) (3) (fun _ => 0)), (sa + 3, aI (gC G 1) (2) (fun _ => 0))] _ _) hW
  refine va_putF hx hb hts i_Mo t_Mo t_Mo_ok n_Mo hown hK hW.1 hW.2.1 hW.2.2 0 rfl rfl 5 (by decide) (hts _ kw_456) (fun _ h => h) rfl hini rfl (t_Mo_ok 5 (by decide)) rfl rfl (Nat.le_of_ble_eq_true rfl) d_Mo_init_30 (fun H locs h1 h2 h3 => ?_)
  have hW : WW G zs.heap ([(sa, .inr (iMo, [.int (0), .int (0), .ref (sa + 1), .ref (sa + 2), .ref (sa + 3), .ref (sa + 4), .null, .int (0), .null, .null, .null, .null, .null, .null, .null, .null, .null, .null, .null, .null, .null, .null, .null, .null, .null, .int (0), .int (0)])), (sa + 1, aI (gC G 1) (3) (fun _ => 0)), (sa + 2, aI (gC G 1) (3) (fun _ => 0)), (sa + 3, aI (gC G 1) (2) (fun _ => 0)), (sa + 4, aI (gC G 0) (12) (fun _ => 0))] ++ T0) H locs := ⟨h1, h2, h3⟩
  refine lv_aload_n hx hb d_Mo_init_33 rfl (lv_at hl 0 rfl) ?_
  refine lv_bipush (v := 12) hx hb d_Mo_init_34 (by decide) ?_
  refine W_sz (fun hzu => ?_)
  have hzl := (va_P_mem.mp hW.1 _ (List.mem_of_getElem? (i := 4) rfl)).lt
  have hz : Array.size H = sa + 5 := sz_eq hzu hz0 hzl rfl rfl
  refine h_newa (G := G) (atype := .int) (t0 := 0) (N' := 12) (a0 := (12, .inl (fun _ => 0))) hx hb hts kw_532 (List.mem_of_getElem? (i := 0) rfl) hE hW.2.2 (fun _ => by first | rfl | (rw [vp_cell_i]; rfl)) (by decide) (by decide) (by decide) (Nat.le_of_ble_eq_true rfl) (Nat.le_of_ble_eq_true rfl) d_Mo_init_36 (fun H ha9 hz9 hk9 hS9 => ?_)
  rw [hz] at ha9 ⊢
  have hW := WW_push2 hW hbs hz ha9 hk9 hS9
  have hW : WW G zs.heap ([(sa, .inr (iMo, [.int (0), .int (0), .ref (sa + 1), .ref (sa + 2), .ref (sa + 3), .ref (sa + 4), .null, .int (0), .null, .null, .null, .null, .null, .null, .null, .null, .null, .null, .null, .null, .null, .null, .null, .null, .null, .int (0), .int (0)])), (sa + 1, aI (gC G 1) (3) (fun _ => 0)), (sa + 2, aI (gC G 1) (3) (fun _ => 0)), (sa + 3, aI (gC G 1) (2) (fun _ => 0)), (sa + 4, aI (gC G 0) (12) (fun _ => 0)), (sa + 5, aI (gC G 0) (12) (fun _ => 0))] ++ T0) H locs := WW_perm (pm_push [(sa, .inr (iMo, [.int (0), .int (0), .ref (sa + 1), .ref (sa + 2), .ref (sa + 3), .ref (sa + 4), .null, .int (0), .null, .null, .null, .null, .null, .null, .null, .null, .null, .null, .null, .null, .null, .null, .null, .null, .null, .int (0), .int (0)])), (sa + 1, aI (gC G 1) (3) (fun _ => 0)), (sa + 2, aI (gC G 1) (3) (fun _ => 0)), (sa + 3, aI (gC G 1) (2) (fun _ => 0)), (sa + 4, aI (gC G 0) (12) (fun _ => 0))] _ _) hW
  refine va_putF hx hb hts i_Mo t_Mo t_Mo_ok n_Mo hown hK hW.1 hW.2.1 hW.2.2 0 rfl rfl 6 (by decide) (hts _ kw_409) (fun _ h => h) rfl hini rfl (t_Mo_ok 6 (by decide)) rfl rfl (Nat.le_of_ble_eq_true rfl) d_Mo_init_38 (fun H locs h1 h2 h3 => ?_)
  have hW : WW G zs.heap ([(sa, .inr (iMo, [.int (0), .int (0), .ref (sa + 1), .ref (sa + 2), .ref (sa + 3), .ref (sa + 4), .ref (sa + 5), .int (0), .null, .null, .null, .null, .null, .null, .null, .null, .null, .null, .null, .null, .null, .null, .null, .null, .null, .int (0), .int (0)])), (sa + 1, aI (gC G 1) (3) (fun _ => 0)), (sa + 2, aI (gC G 1) (3) (fun _ => 0)), (sa + 3, aI (gC G 1) (2) (fun _ => 0)), (sa + 4, aI (gC G 0) (12) (fun _ => 0)), (sa + 5, aI (gC G 0) (12) (fun _ => 0))] ++ T0) H locs := ⟨h1, h2, h3⟩
  refine lv_aload_n hx hb d_Mo_init_41 rfl (lv_at hl 0 rfl) ?_
  refine lv_bipush (v := 8) hx hb d_Mo_init_42 (by decide) ?_
  refine W_sz (fun hzu => ?_)
  have hzl := (va_P_mem.mp hW.1 _ (List.mem_of_getElem? (i := 5) rfl)).lt
  have hz : Array.size H = sa + 6 := sz_eq hzu hz0 hzl rfl rfl
  refine h_newa (G := G) (atype := .int) (t0 := 0) (N' := 8) (a0 := (8, .inl (fun _ => 0))) hx hb hts kw_532 (List.mem_of_getElem? (i := 0) rfl) hE hW.2.2 (fun _ => by first | rfl | (rw [vp_cell_i]; rfl)) (by decide) (by decide) (by decide) (Nat.le_of_ble_eq_true rfl) (Nat.le_of_ble_eq_true rfl) d_Mo_init_44 (fun H ha9 hz9 hk9 hS9 => ?_)
  rw [hz] at ha9 ⊢
  have hW := WW_push2 hW hbs hz ha9 hk9 hS9
  have hW : WW G zs.heap ([(sa, .inr (iMo, [.int (0), .int (0), .ref (sa + 1), .ref (sa + 2), .ref (sa + 3), .ref (sa + 4), .ref (sa + 5), .int (0), .null, .null, .null, .null, .null, .null, .null, .null, .null, .null, .null, .null, .null, .null, .null, .null, .null, .int (0), .int (0)])), (sa + 1, aI (gC G 1) (3) (fun _ => 0)), (sa + 2, aI (gC G 1) (3) (fun _ => 0)), (sa + 3, aI (gC G 1) (2) (fun _ => 0)), (sa + 4, aI (gC G 0) (12) (fun _ => 0)), (sa + 5, aI (gC G 0) (12) (fun _ => 0)), (sa + 6, aI (gC G 0) (8) (fun _ => 0))] ++ T0) H locs := WW_perm (pm_push [(sa, .inr (iMo, [.int (0), .int (0), .ref (sa + 1), .ref (sa + 2), .ref (sa + 3), .ref (sa + 4), .ref (sa + 5), .int (0), .null, .null, .null, .null, .null, .null, .null, .null, .null, .null, .null, .null, .null, .null, .null, .null, .null, .int (0), .int (0)])), (sa + 1, aI (gC G 1) (3) (fun _ => 0)), (sa + 2, aI (gC G 1) (3) (fun _ => 0)), (sa + 3, aI (gC G 1) (2) (fun _ => 0)), (sa + 4, aI (gC G 0) (12) (fun _ => 0)), (sa + 5, aI (gC G 0) (12) (fun _ => 0))] _ _) hW
  refine va_putF hx hb hts i_Mo t_Mo t_Mo_ok n_Mo hown hK hW.1 hW.2.1 hW.2.2 0 rfl rfl 8 (by decide) (hts _ kw_405) (fun _ h => h) rfl hini rfl (t_Mo_ok 8 (by decide)) rfl rfl (Nat.le_of_ble_eq_true rfl) d_Mo_init_46 (fun H locs h1 h2 h3 => ?_)
  have hW : WW G zs.heap ([(sa, .inr (iMo, [.int (0), .int (0), .ref (sa + 1), .ref (sa + 2), .ref (sa + 3), .ref (sa + 4), .ref (sa + 5), .int (0), .ref (sa + 6), .null, .null, .null, .null, .null, .null, .null, .null, .null, .null, .null, .null, .null, .null, .null, .null, .int (0), .int (0)])), (sa + 1, aI (gC G 1) (3) (fun _ => 0)), (sa + 2, aI (gC G 1) (3) (fun _ => 0)), (sa + 3, aI (gC G 1) (2) (fun _ => 0)), (sa + 4, aI (gC G 0) (12) (fun _ => 0)), (sa + 5, aI (gC G 0) (12) (fun _ => 0)), (sa + 6, aI (gC G 0) (8) (fun _ => 0))] ++ T0) H locs := ⟨h1, h2, h3⟩
  refine lv_aload_n hx hb d_Mo_init_49 rfl (lv_at hl 0 rfl) ?_
  refine lv_bipush (v := 8) hx hb d_Mo_init_50 (by decide) ?_
  refine W_sz (fun hzu => ?_)
  have hzl := (va_P_mem.mp hW.1 _ (List.mem_of_getElem? (i := 6) rfl)).lt
  have hz : Array.size H = sa + 7 := sz_eq hzu hz0 hzl rfl rfl
  refine h_newa (G := G) (atype := .boolean) (t0 := 1) (N' := 8) (a0 := (8, .inl (fun _ => 0))) hx hb hts kw_540 (List.mem_of_getElem? (i := 1) rfl) hE hW.2.2 (fun _ => by first | rfl | (rw [vp_cell_i]; rfl)) (by decide) (by decide) (by decide) (Nat.le_of_ble_eq_true rfl) (Nat.le_of_ble_eq_true rfl) d_Mo_init_52 (fun H ha9 hz9 hk9 hS9 => ?_)
  rw [hz] at ha9 ⊢
  have hW := WW_push2 hW hbs hz ha9 hk9 hS9
  have hW : WW G zs.heap ([(sa, .inr (iMo, [.int (0), .int (0), .ref (sa + 1), .ref (sa + 2), .ref (sa + 3), .ref (sa + 4), .ref (sa + 5), .int (0), .ref (sa + 6), .null, .null, .null, .null, .null, .null, .null, .null, .null, .null, .null, .null, .null, .null, .null, .null, .int (0), .int (0)])), (sa + 1, aI (gC G 1) (3) (fun _ => 0)), (sa + 2, aI (gC G 1) (3) (fun _ => 0)), (sa + 3, aI (gC G 1) (2) (fun _ => 0)), (sa + 4, aI (gC G 0) (12) (fun _ => 0)), (sa + 5, aI (gC G 0) (12) (fun _ => 0)), (sa + 6, aI (gC G 0) (8) (fun _ => 0)), (sa + 7, aI (gC G 1) (8) (fun _ => 0))] ++ T0) H locs := WW_perm (pm_push [(sa, .inr (iMo, [.int (0), .int (0), .ref (sa + 1), .ref (sa + 2), .ref (sa + 3), .ref (sa + 4), .ref (sa + 5), .int (0), .ref (sa + 6), .null, .null, .null, .null, .null, .null, .null, .null, .null, .null, .null, .null, .null, .null, .null, .null, .int (0), .int (0)])), (sa + 1, aI (gC G 1) (3) (fun _ => 0)), (sa + 2, aI (gC G 1) (3) (fun _ => 0)), (sa + 3, aI (gC G 1) (2) (fun _ => 0)), (sa + 4, aI (gC G 0) (12) (fun _ => 0)), (sa + 5, aI (gC G 0) (12) (fun _ => 0)), (sa + 6, aI (gC G 0) (8) (fun _ => 0))] _ _) hW
  refine va_putF hx hb hts i_Mo t_Mo t_Mo_ok n_Mo hown hK hW.1 hW.2.1 hW.2.2 0 rfl rfl 9 (by decide) (hts _ kw_494) (fun _ h => h) rfl hini rfl (t_Mo_ok 9 (by decide)) rfl rfl (Nat.le_of_ble_eq_true rfl) d_Mo_init_54 (fun H locs h1 h2 h3 => ?_)
  have hW : WW G zs.heap ([(sa, .inr (iMo, [.int (0), .int (0), .ref (sa + 1), .ref (sa + 2), .ref (sa + 3), .ref (sa + 4), .ref (sa + 5), .int (0), .ref (sa + 6), .ref (sa + 7), .null, .null, .null, .null, .null, .null, .null, .null, .null, .null, .null, .null, .null, .null, .null, .int (0), .int (0)])), (sa + 1, aI (gC G 1) (3) (fun _ => 0)), (sa + 2, aI (gC G 1) (3) (fun _ => 0)), (sa + 3, aI (gC G 1) (2) (fun _ => 0)), (sa + 4, aI (gC G 0) (12) (fun _ => 0)), (sa + 5, aI (gC G 0) (12) (fun _ => 0)), (sa + 6, aI (gC G 0) (8) (fun _ => 0)), (sa + 7, aI (gC G 1) (8) (fun _ => 0))] ++ T0) H locs := ⟨h1, h2, h3⟩
  refine lv_aload_n hx hb d_Mo_init_57 rfl (lv_at hl 0 rfl) ?_
  refine lv_bipush (v := 24) hx hb d_Mo_init_58 (by decide) ?_
  refine W_sz (fun hzu => ?_)
  have hzl := (va_P_mem.mp hW.1 _ (List.mem_of_getElem? (i := 7) rfl)).lt
  have hz : Array.size H = sa + 8 := sz_eq hzu hz0 hzl rfl rfl
  refine h_newa (G := G) (atype := .int) (t0 := 0) (N' := 24) (a0 := (24, .inl (fun _ => 0))) hx hb hts kw_532 (List.mem_of_getElem? (i := 0) rfl) hE hW.2.2 (fun _ => by first | rfl | (rw [vp_cell_i]; rfl)) (by decide) (by decide) (by decide) (Nat.le_of_ble_eq_true rfl) (Nat.le_of_ble_eq_true rfl) d_Mo_init_60 (fun H ha9 hz9 hk9 hS9 => ?_)
  rw [hz] at ha9 ⊢
  have hW := WW_push2 hW hbs hz ha9 hk9 hS9
  have hW : WW G zs.heap ([(sa, .inr (iMo, [.int (0), .int (0), .ref (sa + 1), .ref (sa + 2), .ref (sa + 3), .ref (sa + 4), .ref (sa + 5), .int (0), .ref (sa + 6), .ref (sa + 7), .null, .null, .null, .null, .null, .null, .null, .null, .null, .null, .null, .null, .null, .null, .null, .int (0), .int (0)])), (sa + 1, aI (gC G 1) (3) (fun _ => 0)), (sa + 2, aI (gC G 1) (3) (fun _ => 0)), (sa + 3, aI (gC G 1) (2) (fun _ => 0)), (sa + 4, aI (gC G 0) (12) (fun _ => 0)), (sa + 5, aI (gC G 0) (12) (fun _ => 0)), (sa + 6, aI (gC G 0) (8) (fun _ => 0)), (sa + 7, aI (gC G 1) (8) (fun _ => 0)), (sa + 8, aI (gC G 0) (24) (fun _ => 0))] ++ T0) H locs := WW_perm (pm_push [(sa, .inr (iMo, [.int (0), .int (0), .ref (sa + 1), .ref (sa + 2), .ref (sa + 3), .ref (sa + 4), .ref (sa + 5), .int (0), .ref (sa + 6), .ref (sa + 7), .null, .null, .null, .null, .null, .null, .null, .null, .null, .null, .null, .null, .null, .null, .null, .int (0), .int (0)])), (sa + 1, aI (gC G 1) (3) (fun _ => 0)), (sa + 2, aI (gC G 1) (3) (fun _ => 0)), (sa + 3, aI (gC G 1) (2) (fun _ => 0)), (sa + 4, aI (gC G 0) (12) (fun _ => 0)), (sa + 5, aI (gC G 0) (12) (fun _ => 0)), (sa + 6, aI (gC G 0) (8) (fun _ => 0)), (sa + 7, aI (gC G 1) (8) (fun _ => 0))] _ _) hW
  refine va_putF hx hb hts i_Mo t_Mo t_Mo_ok n_Mo hown hK hW.1 hW.2.1 hW.2.2 0 rfl rfl 10 (by decide) (hts _ kw_410) (fun _ h => h) rfl hini rfl (t_Mo_ok 10 (by decide)) rfl rfl (Nat.le_of_ble_eq_true rfl) d_Mo_init_62 (fun H locs h1 h2 h3 => ?_)
  have hW : WW G zs.heap ([(sa, .inr (iMo, [.int (0), .int (0), .ref (sa + 1), .ref (sa + 2), .ref (sa + 3), .ref (sa + 4), .ref (sa + 5), .int (0), .ref (sa + 6), .ref (sa + 7), .ref (sa + 8), .null, .null, .null, .null, .null, .null, .null, .null, .null, .null, .null, .null, .null, .null, .int (0), .int (0)])), (sa + 1, aI (gC G 1) (3) (fun _ => 0)), (sa + 2, aI (gC G 1) (3) (fun _ => 0)), (sa + 3, aI (gC G 1) (2) (fun _ => 0)), (sa + 4, aI (gC G 0) (12) (fun _ => 0)), (sa + 5, aI (gC G 0) (12) (fun _ => 0)), (sa + 6, aI (gC G 0) (8) (fun _ => 0)), (sa + 7, aI (gC G 1) (8) (fun _ => 0)), (sa + 8, aI (gC G 0) (24) (fun _ => 0))] ++ T0) H locs := ⟨h1, h2, h3⟩
  refine lv_aload_n hx hb d_Mo_init_65 rfl (lv_at hl 0 rfl) ?_
  refine lv_bipush (v := 24) hx hb d_Mo_init_66 (by decide) ?_
  refine W_sz (fun hzu => ?_)
  have hzl := (va_P_mem.mp hW.1 _ (List.mem_of_getElem? (i := 8) rfl)).lt
  have hz : Array.size H = sa + 9 := sz_eq hzu hz0 hzl rfl rfl
  refine h_newa (G := G) (atype := .int) (t0 := 0) (N' := 24) (a0 := (24, .inl (fun _ => 0))) hx hb hts kw_532 (List.mem_of_getElem? (i := 0) rfl) hE hW.2.2 (fun _ => by first | rfl | (rw [vp_cell_i]; rfl)) (by decide) (by decide) (by decide) (Nat.le_of_ble_eq_true rfl) (Nat.le_of_ble_eq_true rfl) d_Mo_init_68 (fun H ha9 hz9 hk9 hS9 => ?_)
  rw [hz] at ha9 ⊢
  have hW := WW_push2 hW hbs hz ha9 hk9 hS9
  have hW : WW G zs.heap ([(sa, .inr (iMo, [.int (0), .int (0), .ref (sa + 1), .ref (sa + 2), .ref (sa + 3), .ref (sa + 4), .ref (sa + 5), .int (0), .ref (sa + 6), .ref (sa + 7), .ref (sa + 8), .null, .null, .null, .null, .null, .null, .null, .null, .null, .null, .null, .null, .null, .null, .int (0), .int (0)])), (sa + 1, aI (gC G 1) (3) (fun _ => 0)), (sa + 2, aI (gC G 1) (3) (fun _ => 0)), (sa + 3, aI (gC G 1) (2) (fun _ => 0)), (sa + 4, aI (gC G 0) (12) (fun _ => 0)), (sa + 5, aI (gC G 0) (12) (fun _ => 0)), (sa + 6, aI (gC G 0) (8) (fun _ => 0)), (sa + 7, aI (gC G 1) (8) (fun _ => 0)), (sa + 8, aI (gC G 0) (24) (fun _ => 0)), (sa + 9, aI (gC G 0) (24) (fun _ => 0))] ++ T0) H locs := WW_perm (pm_push [(sa, .inr (iMo, [.int (0), .int (0), .ref (sa + 1), .ref (sa + 2), .ref (sa + 3), .ref (sa + 4), .ref (sa + 5), .int (0), .ref (sa + 6), .ref (sa + 7), .ref (sa + 8), .null, .null, .null, .null, .null, .null, .null, .null, .null, .null, .null, .null, .null, .null, .int (0), .int (0)])), (sa + 1, aI (gC G 1) (3) (fun _ => 0)), (sa + 2, aI (gC G 1) (3) (fun _ => 0)), (sa + 3, aI (gC G 1) (2) (fun _ => 0)), (sa + 4, aI (gC G 0) (12) (fun _ => 0)), (sa + 5, aI (gC G 0) (12) (fun _ => 0)), (sa + 6, aI (gC G 0) (8) (fun _ => 0)), (sa + 7, aI (gC G 1) (8) (fun _ => 0)), (sa + 8, aI (gC G 0) (24) (fun _ => 0))] _ _) hW
  refine va_putF hx hb hts i_Mo t_Mo t_Mo_ok n_Mo hown hK hW.1 hW.2.1 hW.2.2 0 rfl rfl 11 (by decide) (hts _ kw_455) (fun _ h => h) rfl hini rfl (t_Mo_ok 11 (by decide)) rfl rfl (Nat.le_of_ble_eq_true rfl) d_Mo_init_70 (fun H locs h1 h2 h3 => ?_)
  have hW : WW G zs.heap ([(sa, .inr (iMo, [.int (0), .int (0), .ref (sa + 1), .ref (sa + 2), .ref (sa + 3), .ref (sa + 4), .ref (sa + 5), .int (0), .ref (sa + 6), .ref (sa + 7), .ref (sa + 8), .ref (sa + 9), .null, .null, .null, .null, .null, .null, .null, .null, .null, .null, .null, .null, .null, .int (0), .int (0)])), (sa + 1, aI (gC G 1) (3) (fun _ => 0)), (sa + 2, aI (gC G 1) (3) (fun _ => 0)), (sa + 3, aI (gC G 1) (2) (fun _ => 0)), (sa + 4, aI (gC G 0) (12) (fun _ => 0)), (sa + 5, aI (gC G 0) (12) (fun _ => 0)), (sa + 6, aI (gC G 0) (8) (fun _ => 0)), (sa + 7, aI (gC G 1) (8) (fun _ => 0)), (sa + 8, aI (gC G 0) (24) (fun _ => 0)), (sa + 9, aI (gC G 0) (24) (fun _ => 0))] ++ T0) H locs := ⟨h1, h2, h3⟩
  refine lv_aload_n hx hb d_Mo_init_73 rfl (lv_at hl 0 rfl) ?_
  refine lv_bipush (v := 96) hx hb d_Mo_init_74 (by decide) ?_
  refine W_sz (fun hzu => ?_)
  have hzl := (va_P_mem.mp hW.1 _ (List.mem_of_getElem? (i := 9) rfl)).lt
  have hz : Array.size H = sa + 10 := sz_eq hzu hz0 hzl rfl rfl
  refine h_newa (G := G) (atype := .int) (t0 := 0) (N' := 96) (a0 := (96, .inl (fun _ => 0))) hx hb hts kw_532 (List.mem_of_getElem? (i := 0) rfl) hE hW.2.2 (fun _ => by first | rfl | (rw [vp_cell_i]; rfl)) (by decide) (by decide) (by decide) (Nat.le_of_ble_eq_true rfl) (Nat.le_of_ble_eq_true rfl) d_Mo_init_76 (fun H ha9 hz9 hk9 hS9 => ?_)
  rw [hz] at ha9 ⊢
  have hW := WW_push2 hW hbs hz ha9 hk9 hS9
  have hW : WW G zs.heap ([(sa, .inr (iMo, [.int (0), .int (0), .ref (sa + 1), .ref (sa + 2), .ref (sa + 3), .ref (sa + 4), .ref (sa + 5), .int (0), .ref (sa + 6), .ref (sa + 7), .ref (sa + 8), .ref (sa + 9), .null, .null, .null, .null, .null, .null, .null, .null, .null, .null, .null, .null, .null, .int (0), .int (0)])), (sa + 1, aI (gC G 1) (3) (fun _ => 0)), (sa + 2, aI (gC G 1) (3) (fun _ => 0)), (sa + 3, aI (gC G 1) (2) (fun _ => 0)), (sa + 4, aI (gC G 0) (12) (fun _ => 0)), (sa + 5, aI (gC G 0) (12) (fun _ => 0)), (sa + 6, aI (gC G 0) (8) (fun _ => 0)), (sa + 7, aI (gC G 1) (8) (fun _ => 0)), (sa + 8, aI (gC G 0) (24) (fun _ => 0)), (sa + 9, aI (gC G 0) (24) (fun _ => 0)), (sa + 10, aI (gC G 0) (96) (fun _ => 0))] ++ T0) H locs := WW_perm (pm_push [(sa, .inr (iMo, [.int (0), .int (0), .ref (sa + 1), .ref (sa + 2), .ref (sa + 3), .ref (sa + 4), .ref (sa + 5), .int (0), .ref (sa + 6), .ref (sa + 7), .ref (sa + 8), .ref (sa + 9), .null, .null, .null, .null, .null, .null, .null, .null, .null, .null, .null, .null, .null, .int (0), .int (0)])), (sa + 1, aI (gC G 1) (3) (fun _ => 0)), (sa + 2, aI (gC G 1) (3) (fun _ => 0)), (sa + 3, aI (gC G 1) (2) (fun _ => 0)), (sa + 4, aI (gC G 0) (12) (fun _ => 0)), (sa + 5, aI (gC G 0) (12) (fun _ => 0)), (sa + 6, aI (gC G 0) (8) (fun _ => 0)), (sa + 7, aI (gC G 1) (8) (fun _ => 0)), (sa + 8, aI (gC G 0) (24) (fun _ => 0)), (sa + 9, aI (gC G 0) (24) (fun _ => 0))] _ _) hW
  refine va_putF hx hb hts i_Mo t_Mo t_Mo_ok n_Mo hown hK hW.1 hW.2.1 hW.2.2 0 rfl rfl 12 (by decide) (hts _ kw_457) (fun _ h => h) rfl hini rfl (t_Mo_ok 12 (by decide)) rfl rfl (Nat.le_of_ble_eq_true rfl) d_Mo_init_78 (fun H locs h1 h2 h3 => ?_)
  have hW : WW G zs.heap ([(sa, .inr (iMo, [.int (0), .int (0), .ref (sa + 1), .ref (sa + 2), .ref (sa + 3), .ref (sa + 4), .ref (sa + 5), .int (0), .ref (sa + 6), .ref (sa + 7), .ref (sa + 8), .ref (sa + 9), .ref (sa + 10), .null, .null, .null, .null, .null, .null, .null, .null, .null, .null, .null, .null, .int (0), .int (0)])), (sa + 1, aI (gC G 1) (3) (fun _ => 0)), (sa + 2, aI (gC G 1) (3) (fun _ => 0)), (sa + 3, aI (gC G 1) (2) (fun _ => 0)), (sa + 4, aI (gC G 0) (12) (fun _ => 0)), (sa + 5, aI (gC G 0) (12) (fun _ => 0)), (sa + 6, aI (gC G 0) (8) (fun _ => 0)), (sa + 7, aI (gC G 1) (8) (fun _ => 0)), (sa + 8, aI (gC G 0) (24) (fun _ => 0)), (sa + 9, aI (gC G 0) (24) (fun _ => 0)), (sa + 10, aI (gC G 0) (96) (fun _ => 0))] ++ T0) H locs := ⟨h1, h2, h3⟩
  refine lv_aload_n hx hb d_Mo_init_81 rfl (lv_at hl 0 rfl) ?_
  refine lv_bipush (v := 72) hx hb d_Mo_init_82 (by decide) ?_
  refine W_sz (fun hzu => ?_)
  have hzl := (va_P_mem.mp hW.1 _ (List.mem_of_getElem? (i := 10) rfl)).lt
  have hz : Array.size H = sa + 11 := sz_eq hzu hz0 hzl rfl rfl
  refine h_newa (G := G) (atype := .int) (t0 := 0) (N' := 72) (a0 := (72, .inl (fun _ => 0))) hx hb hts kw_532 (List.mem_of_getElem? (i := 0) rfl) hE hW.2.2 (fun _ => by first | rfl | (rw [vp_cell_i]; rfl)) (by decide) (by decide) (by decide) (Nat.le_of_ble_eq_true rfl) (Nat.le_of_ble_eq_true rfl) d_Mo_init_84 (fun H ha9 hz9 hk9 hS9 => ?_)
  rw [hz] at ha9 ⊢
  have hW := WW_push2 hW hbs hz ha9 hk9 hS9
  have hW : WW G zs.heap ([(sa, .inr (iMo, [.int (0), .int (0), .ref (sa + 1), .ref (sa + 2), .ref (sa + 3), .ref (sa + 4), .ref (sa + 5), .int (0), .ref (sa + 6), .ref (sa + 7), .ref (sa + 8), .ref (sa + 9), .ref (sa + 10), .null, .null, .null, .null, .null, .null, .null, .null, .null, .null, .null, .null, .int (0), .int (0)])), (sa + 1, aI (gC G 1) (3) (fun _ => 0)), (sa + 2, aI (gC G 1) (3) (fun _ => 0)), (sa + 3, aI (gC G 1) (2) (fun _ => 0)), (sa + 4, aI (gC G 0) (12) (fun _ => 0)), (sa + 5, aI (gC G 0) (12) (fun _ => 0)), (sa + 6, aI (gC G 0) (8) (fun _ => 0)), (sa + 7, aI (gC G 1) (8) (fun _ => 0)), (sa + 8, aI (gC G 0) (24) (fun _ => 0)), (sa + 9, aI (gC G 0) (24) (fun _ => 0)), (sa + 10, aI (gC G 0) (96) (fun _ => 0)), (sa + 11, aI (gC G 0) (72) (fun _ => 0))] ++ T0) H locs := WW_perm (pm_push [(sa, .inr (iMo, [.int (0), .int (0), .ref (sa + 1), .ref (sa + 2), .ref (sa + 3), .ref (sa + 4), .ref (sa + 5), .int (0), .ref (sa + 6), .ref (sa + 7), .ref (sa + 8), .ref (sa + 9), .ref (sa + 10), .null, .null, .null, .null, .null, .null, .null, .null, .null, .null, .null, .null, .int (0), .int (0)])), (sa + 1, aI (gC G 1) (3) (fun _ => 0)), (sa + 2, aI (gC G 1) (3) (fun _ => 0)), (sa + 3, aI (gC G 1) (2) (fun _ => 0)), (sa + 4, aI (gC G 0) (12) (fun _ => 0)), (sa + 5, aI (gC G 0) (12) (fun _ => 0)), (sa + 6, aI (gC G 0) (8) (fun _ => 0)), (sa + 7, aI (gC G 1) (8) (fun _ => 0)), (sa + 8, aI (gC G 0) (24) (fun _ => 0)), (sa + 9, aI (gC G 0) (24) (fun _ => 0)), (sa + 10, aI (gC G 0) (96) (fun _ => 0))] _ _) hW
  refine va_putF hx hb hts i_Mo t_Mo t_Mo_ok n_Mo hown hK hW.1 hW.2.1 hW.2.2 0 rfl rfl 13 (by decide) (hts _ kw_443) (fun _ h => h) rfl hini rfl (t_Mo_ok 13 (by decide)) rfl rfl (Nat.le_of_ble_eq_true rfl) d_Mo_init_86 (fun H locs h1 h2 h3 => ?_)
  have hW : WW G zs.heap ([(sa, .inr (iMo, [.int (0), .int (0), .ref (sa + 1), .ref (sa + 2), .ref (sa + 3), .ref (sa + 4), .ref (sa + 5), .int (0), .ref (sa + 6), .ref (sa + 7), .ref (sa + 8), .ref (sa + 9), .ref (sa + 10), .ref (sa + 11), .null, .null, .null, .null, .null, .null, .null, .null, .null, .null, .null, .int (0), .int (0)])), (sa + 1, aI (gC G 1) (3) (fun _ => 0)), (sa + 2, aI (gC G 1) (3) (fun _ => 0)), (sa + 3, aI (gC G 1) (2) (fun _ => 0)), (sa + 4, aI (gC G 0) (12) (fun _ => 0)), (sa + 5, aI (gC G 0) (12) (fun _ => 0)), (sa + 6, aI (gC G 0) (8) (fun _ => 0)), (sa + 7, aI (gC G 1) (8) (fun _ => 0)), (sa + 8, aI (gC G 0) (24) (fun _ => 0)), (sa + 9, aI (gC G 0) (24) (fun _ => 0)), (sa + 10, aI (gC G 0) (96) (fun _ => 0)), (sa + 11, aI (gC G 0) (72) (fun _ => 0))] ++ T0) H locs := ⟨h1, h2, h3⟩
  refine lv_aload_n hx hb d_Mo_init_89 rfl (lv_at hl 0 rfl) ?_
  refine lv_bipush (v := 72) hx hb d_Mo_init_90 (by decide) ?_
  refine W_sz (fun hzu => ?_)
  have hzl := (va_P_mem.mp hW.1 _ (List.mem_of_getElem? (i := 11) rfl)).lt
  have hz : Array.size H = sa + 12 := sz_eq hzu hz0 hzl rfl rfl
  refine h_newa (G := G) (atype := .int) (t0 := 0) (N' := 72) (a0 := (72, .inl (fun _ => 0))) hx hb hts kw_532 (List.mem_of_getElem? (i := 0) rfl) hE hW.2.2 (fun _ => by first | rfl | (rw [vp_cell_i]; rfl)) (by decide) (by decide) (by decide) (Nat.le_of_ble_eq_true rfl) (Nat.le_of_ble_eq_true rfl) d_Mo_init_92 (fun H ha9 hz9 hk9 hS9 => ?_)
  rw [hz] at ha9 ⊢
  have hW := WW_push2 hW hbs hz ha9 hk9 hS9
  have hW : WW G zs.heap ([(sa, .inr (iMo, [.int (0), .int (0), .ref (sa + 1), .ref (sa + 2), .ref (sa + 3), .ref (sa + 4), .ref (sa + 5), .int (0), .ref (sa + 6), .ref (sa + 7), .ref (sa + 8), .ref (sa + 9), .ref (sa + 10), .ref (sa + 11), .null, .null, .null, .null, .null, .null, .null, .null, .null, .null, .null, .int (0), .int (0)])), (sa + 1, aI (gC G 1) (3) (fun _ => 0)), (sa + 2, aI (gC G 1) (3) (fun _ => 0)), (sa + 3, aI (gC G 1) (2) (fun _ => 0)), (sa + 4, aI (gC G 0) (12) (fun _ => 0)), (sa + 5, aI (gC G 0) (12) (fun _ => 0)), (sa + 6, aI (gC G 0) (8) (fun _ => 0)), (sa + 7, aI (gC G 1) (8) (fun _ => 0)), (sa + 8, aI (gC G 0) (24) (fun _ => 0)), (sa + 9, aI (gC G 0) (24) (fun _ => 0)), (sa + 10, aI (gC G 0) (96) (fun _ => 0)), (sa + 11, aI (gC G 0) (72) (fun _ => 0)), (sa + 12, aI (gC G 0) (72) (fun _ => 0))] ++ T0) H locs := WW_perm (pm_push [(sa, .inr (iMo, [.int (0), .int (0), .ref (sa + 1), .ref (sa + 2), .ref (sa + 3), .ref (sa + 4), .ref (sa + 5), .int (0), .ref (sa + 6), .ref (sa + 7), .ref (sa + 8), .ref (sa + 9), .ref (sa + 10), .ref (sa + 11), .null, .null, .null, .null, .null, .null, .null, .null, .null, .null, .null, .int (0), .int (0)])), (sa + 1, aI (gC G 1) (3) (fun _ => 0)), (sa + 2, aI (gC G 1) (3) (fun _ => 0)), (sa + 3, aI (gC G 1) (2) (fun _ => 0)), (sa + 4, aI (gC G 0) (12) (fun _ => 0)), (sa + 5, aI (gC G 0) (12) (fun _ => 0)), (sa + 6, aI (gC G 0) (8) (fun _ => 0)), (sa + 7, aI (gC G 1) (8) (fun _ => 0)), (sa + 8, aI (gC G 0) (24) (fun _ => 0)), (sa + 9, aI (gC G 0) (24) (fun _ => 0)), (sa + 10, aI (gC G 0) (96) (fun _ => 0)), (sa + 11, aI (gC G 0) (72) (fun _ => 0))] _ _) hW
  refine va_putF hx hb hts i_Mo t_Mo t_Mo_ok n_Mo hown hK hW.1 hW.2.1 hW.2.2 0 rfl rfl 14 (by decide) (hts _ kw_442) (fun _ h => h) rfl hini rfl (t_Mo_ok 14 (by decide)) rfl rfl (Nat.le_of_ble_eq_true rfl) d_Mo_init_94 (fun H locs h1 h2 h3 => ?_)
  have hW : WW G zs.heap ([(sa, .inr (iMo, [.int (0), .int (0), .ref (sa + 1), .ref (sa + 2), .ref (sa + 3), .ref (sa + 4), .ref (sa + 5), .int (0), .ref (sa + 6), .ref (sa + 7), .ref (sa + 8), .ref (sa + 9), .ref (sa + 10), .ref (sa + 11), .ref (sa + 12), .null, .null, .null, .null, .null, .null, .null, .null, .null, .null, .int (0), .int (0)])), (sa + 1, aI (gC G 1) (3) (fun _ => 0)), (sa + 2, aI (gC G 1) (3) (fun _ => 0)), (sa + 3, aI (gC G 1) (2) (fun _ => 0)), (sa + 4, aI (gC G 0) (12) (fun _ => 0)), (sa + 5, aI (gC G 0) (12) (fun _ => 0)), (sa + 6, aI (gC G 0) (8) (fun _ => 0)), (sa + 7, aI (gC G 1) (8) (fun _ => 0)), (sa + 8, aI (gC G 0) (24) (fun _ => 0)), (sa + 9, aI (gC G 0) (24) (fun _ => 0)), (sa + 10, aI (gC G 0) (96) (fun _ => 0)), (sa + 11, aI (gC G 0) (72) (fun _ => 0)), (sa + 12, aI (gC G 0) (72) (fun _ => 0))] ++ T0) H locs := ⟨h1, h2, h3⟩
  refine lv_aload_n hx hb d_Mo_init_97 rfl (lv_at hl 0 rfl) ?_
  refine lv_bipush (v := 72) hx hb d_Mo_init_98 (by decide) ?_
  refine W_sz (fun hzu => ?_)
  have hzl := (va_P_mem.mp hW.1 _ (List.mem_of_getElem? (i := 12) rfl)).lt
  have hz : Array.size H = sa + 13 := sz_eq hzu hz0 hzl rfl rfl
  refine h_newa (G := G) (atype := .int) (t0 := 0) (N' := 72) (a0 := (72, .inl (fun _ => 0))) hx hb hts kw_532 (List.mem_of_getElem? (i := 0) rfl) hE hW.2.2 (fun _ => by first | rfl | (rw [vp_cell_i]; rfl)) (by decide) (by decide) (by decide) (Nat.le_of_ble_eq_true rfl) (Nat.le_of_ble_eq_true rfl) d_Mo_init_100 (fun H ha9 hz9 hk9 hS9 => ?_)
  rw [hz] at ha9 ⊢
  have hW := WW_push2 hW hbs hz ha9 hk9 hS9
  have hW : WW G zs.heap ([(sa, .inr (iMo, [.int (0), .int (0), .ref (sa + 1), .ref (sa + 2), .ref (sa + 3), .ref (sa + 4), .ref (sa + 5), .int (0), .ref (sa + 6), .ref (sa + 7), .ref (sa + 8), .ref (sa + 9), .ref (sa + 10), .ref (sa + 11), .ref (sa + 12), .null, .null, .null, .null, .null, .null, .null, .null, .null, .null, .int (0), .int (0)])), (sa + 1, aI (gC G 1) (3) (fun _ => 0)), (sa + 2, aI (gC G 1) (3) (fun _ => 0)), (sa + 3, aI (gC G 1) (2) (fun _ => 0)), (sa + 4, aI (gC G 0) (12) (fun _ => 0)), (sa + 5, aI (gC G 0) (12) (fun _ => 0)), (sa + 6, aI (gC G 0) (8) (fun _ => 0)), (sa + 7, aI (gC G 1) (8) (fun _ => 0)), (sa + 8, aI (gC G 0) (24) (fun _ => 0)), (sa + 9, aI (gC G 0) (24) (fun _ => 0)), (sa + 10, aI (gC G 0) (96) (fun _ => 0)), (sa + 11, aI (gC G 0) (72) (fun _ => 0)), (sa + 12, aI (gC G 0) (72) (fun _ => 0)), (sa + 13, aI (gC G 0) (72) (fun _ => 0))] ++ T0) H locs := WW_perm (pm_push [(sa, .inr (iMo, [.int (0), .int (0), .ref (sa + 1), .ref (sa + 2), .ref (sa + 3), .ref (sa + 4), .ref (sa + 5), .int (0), .ref (sa + 6), .ref (sa + 7), .ref (sa + 8), .ref (sa + 9), .ref (sa + 10), .ref (sa + 11), .ref (sa + 12), .null, .null, .null, .null, .null, .null, .null, .null, .null, .null, .int (0), .int (0)])), (sa + 1, aI (gC G 1) (3) (fun _ => 0)), (sa + 2, aI (gC G 1) (3) (fun _ => 0)), (sa + 3, aI (gC G 1) (2) (fun _ => 0)), (sa + 4, aI (gC G 0) (12) (fun _ => 0)), (sa + 5, aI (gC G 0) (12) (fun _ => 0)), (sa + 6, aI (gC G 0) (8) (fun _ => 0)), (sa + 7, aI (gC G 1) (8) (fun _ => 0)), (sa + 8, aI (gC G 0) (24) (fun _ => 0)), (sa + 9, aI (gC G 0) (24) (fun _ => 0)), (sa + 10, aI (gC G 0) (96) (fun _ => 0)), (sa + 11, aI (gC G 0) (72) (fun _ => 0)), (sa + 12, aI (gC G 0) (72) (fun _ => 0))] _ _) hW
  refine va_putF hx hb hts i_Mo t_Mo t_Mo_ok n_Mo hown hK hW.1 hW.2.1 hW.2.2 0 rfl rfl 15 (by decide) (hts _ kw_441) (fun _ h => h) rfl hini rfl (t_Mo_ok 15 (by decide)) rfl rfl (Nat.le_of_ble_eq_true rfl) d_Mo_init_102 (fun H locs h1 h2 h3 => ?_)
  have hW : WW G zs.heap ([(sa, .inr (iMo, [.int (0), .int (0), .ref (sa + 1), .ref (sa + 2), .ref (sa + 3), .ref (sa + 4), .ref (sa + 5), .int (0), .ref (sa + 6), .ref (sa + 7), .ref (sa + 8), .ref (sa + 9), .ref (sa + 10), .ref (sa + 11), .ref (sa + 12), .ref (sa + 13), .null, .null, .null, .null, .null, .null, .null, .null, .null, .int (0), .int (0)])), (sa + 1, aI (gC G 1) (3) (fun _ => 0)), (sa + 2, aI (gC G 1) (3) (fun _ => 0)), (sa + 3, aI (gC G 1) (2) (fun _ => 0)), (sa + 4, aI (gC G 0) (12) (fun _ => 0)), (sa + 5, aI (gC G 0) (12) (fun _ => 0)), (sa + 6, aI (gC G 0) (8) (fun _ => 0)), (sa + 7, aI (gC G 1) (8) (fun _ => 0)), (sa + 8, aI (gC G 0) (24) (fun _ => 0)), (sa + 9, aI (gC G 0) (24) (fun _ => 0)), (sa + 10, aI (gC G 0) (96) (fun _ => 0)), (sa + 11, aI (gC G 0) (72) (fun _ => 0)), (sa + 12, aI (gC G 0) (72) (fun _ => 0)), (sa + 13, aI (gC G 0) (72) (fun _ => 0))] ++ T0) H locs := ⟨h1, h2, h3⟩
  refine lv_aload_n hx hb d_Mo_init_105 rfl (lv_at hl 0 rfl) ?_
  refine lv_bipush (v := 16) hx hb d_Mo_init_106 (by decide) ?_
  refine W_sz (fun hzu => ?_)
  have hzl := (va_P_mem.mp hW.1 _ (List.mem_of_getElem? (i := 13) rfl)).lt
  have hz : Array.size H = sa + 14 := sz_eq hzu hz0 hzl rfl rfl
  refine h_newa (G := G) (atype := .int) (t0 := 0) (N' := 16) (a0 := (16, .inl (fun _ => 0))) hx hb hts kw_532 (List.mem_of_getElem? (i := 0) rfl) hE hW.2.2 (fun _ => by first | rfl | (rw [vp_cell_i]; rfl)) (by decide) (by decide) (by decide) (Nat.le_of_ble_eq_true rfl) (Nat.le_of_ble_eq_true rfl) d_Mo_init_108 (fun H ha9 hz9 hk9 hS9 => ?_)
  rw [hz] at ha9 ⊢
  have hW := WW_push2 hW hbs hz ha9 hk9 hS9
  have hW : WW G zs.heap ([(sa, .inr (iMo, [.int (0), .int (0), .ref (sa + 1), .ref (sa + 2), .ref (sa + 3), .ref (sa + 4), .ref (sa + 5), .int (0), .ref (sa + 6), .ref (sa + 7), .ref (sa + 8), .ref (sa + 9), .ref (sa + 10), .ref (sa + 11), .ref (sa + 12), .ref (sa + 13), .null, .null, .null, .null, .null, .null, .null, .null, .null, .int (0), .int (0)])), (sa + 1, aI (gC G 1) (3) (fun _ => 0)), (sa + 2, aI (gC G 1) (3) (fun _ => 0)), (sa + 3, aI (gC G 1) (2) (fun _ => 0)), (sa + 4, aI (gC G 0) (12) (fun _ => 0)), (sa + 5, aI (gC G 0) (12) (fun _ => 0)), (sa + 6, aI (gC G 0) (8) (fun _ => 0)), (sa + 7, aI (gC G 1) (8) (fun _ => 0)), (sa + 8, aI (gC G 0) (24) (fun _ => 0)), (sa + 9, aI (gC G 0) (24) (fun _ => 0)), (sa + 10, aI (gC G 0) (96) (fun _ => 0)), (sa + 11, aI (gC G 0) (72) (fun _ => 0)), (sa + 12, aI (gC G 0) (72) (fun _ => 0)), (sa + 13, aI (gC G 0) (72) (fun _ => 0)), (sa + 14, aI (gC G 0) (16) (fun _ => 0))] ++ T0) H locs := WW_perm (pm_push [(sa, .inr (iMo, [.int (0), .int (0), .ref (sa + 1), .ref (sa + 2), .ref (sa + 3), .ref (sa + 4), .ref (sa + 5), .int (0), .ref (sa + 6), .ref (sa + 7), .ref (sa + 8), .ref (sa + 9), .ref (sa + 10), .ref (sa + 11), .ref (sa + 12), .ref (sa + 13), .null, .null, .null, .null, .null, .null, .null, .null, .null, .int (0), .int (0)])), (sa + 1, aI (gC G 1) (3) (fun _ => 0)), (sa + 2, aI (gC G 1) (3) (fun _ => 0)), (sa + 3, aI (gC G 1) (2) (fun _ => 0)), (sa + 4, aI (gC G 0) (12) (fun _ => 0)), (sa + 5, aI (gC G 0) (12) (fun _ => 0)), (sa + 6, aI (gC G 0) (8) (fun _ => 0)), (sa + 7, aI (gC G 1) (8) (fun _ => 0)), (sa + 8, aI (gC G 0) (24) (fun _ => 0)), (sa + 9, aI (gC G 0) (24) (fun _ => 0)), (sa + 10, aI (gC G 0) (96) (fun _ => 0)), (sa + 11, aI (gC G 0) (72) (fun _ => 0)), (sa + 12, aI (gC G 0) (72) (fun _ => 0)), (sa + 13, aI (gC G 0) (72) (fun _ => 0))] _ _) hW
  refine va_putF hx hb hts i_Mo t_Mo t_Mo_ok n_Mo hown hK hW.1 hW.2.1 hW.2.2 0 rfl rfl 16 (by decide) (hts _ kw_444) (fun _ h => h) rfl hini rfl (t_Mo_ok 16 (by decide)) rfl rfl (Nat.le_of_ble_eq_true rfl) d_Mo_init_110 (fun H locs h1 h2 h3 => ?_)
  have hW : WW G zs.heap ([(sa, .inr (iMo, [.int (0), .int (0), .ref (sa + 1), .ref (sa + 2), .ref (sa + 3), .ref (sa + 4), .ref (sa + 5), .int (0), .ref (sa + 6), .ref (sa + 7), .ref (sa + 8), .ref (sa + 9), .ref (sa + 10), .ref (sa + 11), .ref (sa + 12), .ref (sa + 13), .ref (sa + 14), .null, .null, .null, .null, .null, .null, .null, .null, .int (0), .int (0)])), (sa + 1, aI (gC G 1) (3) (fun _ => 0)), (sa + 2, aI (gC G 1) (3) (fun _ => 0)), (sa + 3, aI (gC G 1) (2) (fun _ => 0)), (sa + 4, aI (gC G 0) (12) (fun _ => 0)), (sa + 5, aI (gC G 0) (12) (fun _ => 0)), (sa + 6, aI (gC G 0) (8) (fun _ => 0)), (sa + 7, aI (gC G 1) (8) (fun _ => 0)), (sa + 8, aI (gC G 0) (24) (fun _ => 0)), (sa + 9, aI (gC G 0) (24) (fun _ => 0)), (sa + 10, aI (gC G 0) (96) (fun _ => 0)), (sa + 11, aI (gC G 0) (72) (fun _ => 0)), (sa + 12, aI (gC G 0) (72) (fun _ => 0)), (sa + 13, aI (gC G 0) (72) (fun _ => 0)), (sa + 14, aI (gC G 0) (16) (fun _ => 0))] ++ T0) H locs := ⟨h1, h2, h3⟩
  refine lv_aload_n hx hb d_Mo_init_113 rfl (lv_at hl 0 rfl) ?_
  refine lv_bipush (v := 16) hx hb d_Mo_init_114 (by decide) ?_
  refine W_sz (fun hzu => ?_)
  have hzl := (va_P_mem.mp hW.1 _ (List.mem_of_getElem? (i := 14) rfl)).lt
  have hz : Array.size H = sa + 15 := sz_eq hzu hz0 hzl rfl rfl
  refine h_newa (G := G) (atype := .boolean) (t0 := 1) (N' := 16) (a0 := (16, .inl (fun _ => 0))) hx hb hts kw_540 (List.mem_of_getElem? (i := 1) rfl) hE hW.2.2 (fun _ => by first | rfl | (rw [vp_cell_i]; rfl)) (by decide) (by decide) (by decide) (Nat.le_of_ble_eq_true rfl) (Nat.le_of_ble_eq_true rfl) d_Mo_init_116 (fun H ha9 hz9 hk9 hS9 => ?_)
  rw [hz] at ha9 ⊢
  have hW := WW_push2 hW hbs hz ha9 hk9 hS9
  have hW : WW G zs.heap ([(sa, .inr (iMo, [.int (0), .int (0), .ref (sa + 1), .ref (sa + 2), .ref (sa + 3), .ref (sa + 4), .ref (sa + 5), .int (0), .ref (sa + 6), .ref (sa + 7), .ref (sa + 8), .ref (sa + 9), .ref (sa + 10), .ref (sa + 11), .ref (sa + 12), .ref (sa + 13), .ref (sa + 14), .null, .null, .null, .null, .null, .null, .null, .null, .int (0), .int (0)])), (sa + 1, aI (gC G 1) (3) (fun _ => 0)), (sa + 2, aI (gC G 1) (3) (fun _ => 0)), (sa + 3, aI (gC G 1) (2) (fun _ => 0)), (sa + 4, aI (gC G 0) (12) (fun _ => 0)), (sa + 5, aI (gC G 0) (12) (fun _ => 0)), (sa + 6, aI (gC G 0) (8) (fun _ => 0)), (sa + 7, aI (gC G 1) (8) (fun _ => 0)), (sa + 8, aI (gC G 0) (24) (fun _ => 0)), (sa + 9, aI (gC G 0) (24) (fun _ => 0)), (sa + 10, aI (gC G 0) (96) (fun _ => 0)), (sa + 11, aI (gC G 0) (72) (fun _ => 0)), (sa + 12, aI (gC G 0) (72) (fun _ => 0)), (sa + 13, aI (gC G 0) (72) (fun _ => 0)), (sa + 14, aI (gC G 0) (16) (fun _ => 0)), (sa + 15, aI (gC G 1) (16) (fun _ => 0))] ++ T0) H locs := WW_perm (pm_push [(sa, .inr (iMo, [.int (0), .int (0), .ref (sa + 1), .ref (sa + 2), .ref (sa + 3), .ref (sa + 4), .ref (sa + 5), .int (0), .ref (sa + 6), .ref (sa + 7), .ref (sa + 8), .ref (sa + 9), .ref (sa + 10), .ref (sa + 11), .ref (sa + 12), .ref (sa + 13), .ref (sa + 14), .null, .null, .null, .null, .null, .null, .null, .null, .int (0), .int (0)])), (sa + 1, aI (gC G 1) (3) (fun _ => 0)), (sa + 2, aI (gC G 1) (3) (fun _ => 0)), (sa + 3, aI (gC G 1) (2) (fun _ => 0)), (sa + 4, aI (gC G 0) (12) (fun _ => 0)), (sa + 5, aI (gC G 0) (12) (fun _ => 0)), (sa + 6, aI (gC G 0) (8) (fun _ => 0)), (sa + 7, aI (gC G 1) (8) (fun _ => 0)), (sa + 8, aI (gC G 0) (24) (fun _ => 0)), (sa + 9, aI (gC G 0) (24) (fun _ => 0)), (sa + 10, aI (gC G 0) (96) (fun _ => 0)), (sa + 11, aI (gC G 0) (72) (fun _ => 0)), (sa + 12, aI (gC G 0) (72) (fun _ => 0)), (sa + 13, aI (gC G 0) (72) (fun _ => 0)), (sa + 14, aI (gC G 0) (16) (fun _ => 0))] _ _) hW
  refine va_putF hx hb hts i_Mo t_Mo t_Mo_ok n_Mo hown hK hW.1 hW.2.1 hW.2.2 0 rfl rfl 17 (by decide) (hts _ kw_445) (fun _ h => h) rfl hini rfl (t_Mo_ok 17 (by decide)) rfl rfl (Nat.le_of_ble_eq_true rfl) d_Mo_init_118 (fun H locs h1 h2 h3 => ?_)
  have hW : WW G zs.heap ([(sa, .inr (iMo, [.int (0), .int (0), .ref (sa + 1), .ref (sa + 2), .ref (sa + 3), .ref (sa + 4), .ref (sa + 5), .int (0), .ref (sa + 6), .ref (sa + 7), .ref (sa + 8), .ref (sa + 9), .ref (sa + 10), .ref (sa + 11), .ref (sa + 12), .ref (sa + 13), .ref (sa + 14), .ref (sa + 15), .null, .null, .null, .null, .null, .null, .null, .int (0), .int (0)])), (sa + 1, aI (gC G 1) (3) (fun _ => 0)), (sa + 2, aI (gC G 1) (3) (fun _ => 0)), (sa + 3, aI (gC G 1) (2) (fun _ => 0)), (sa + 4, aI (gC G 0) (12) (fun _ => 0)), (sa + 5, aI (gC G 0) (12) (fun _ => 0)), (sa + 6, aI (gC G 0) (8) (fun _ => 0)), (sa + 7, aI (gC G 1) (8) (fun _ => 0)), (sa + 8, aI (gC G 0) (24) (fun _ => 0)), (sa + 9, aI (gC G 0) (24) (fun _ => 0)), (sa + 10, aI (gC G 0) (96) (fun _ => 0)), (sa + 11, aI (gC G 0) (72) (fun _ => 0)), (sa + 12, aI (gC G 0) (72) (fun _ => 0)), (sa + 13, aI (gC G 0) (72) (fun _ => 0)), (sa + 14, aI (gC G 0) (16) (fun _ => 0)), (sa + 15, aI (gC G 1) (16) (fun _ => 0))] ++ T0) H locs := ⟨h1, h2, h3⟩
  refine lv_aload_n hx hb d_Mo_init_121 rfl (lv_at hl 0 rfl) ?_
  refine lv_bipush (v := 16) hx hb d_Mo_init_122 (by decide) ?_
  refine W_sz (fun hzu => ?_)
  have hzl := (va_P_mem.mp hW.1 _ (List.mem_of_getElem? (i := 15) rfl)).lt
  have hz : Array.size H = sa + 16 := sz_eq hzu hz0 hzl rfl rfl
  refine h_newa (G := G) (atype := .int) (t0 := 0) (N' := 16) (a0 := (16, .inl (fun _ => 0))) hx hb hts kw_532 (List.mem_of_getElem? (i := 0) rfl) hE hW.2.2 (fun _ => by first | rfl | (rw [vp_cell_i]; rfl)) (by decide) (by decide) (by decide) (Nat.le_of_ble_eq_true rfl) (Nat.le_of_ble_eq_true rfl) d_Mo_init_124 (fun H ha9 hz9 hk9 hS9 => ?_)
  rw [hz] at ha9 ⊢
  have hW := WW_push2 hW hbs hz ha9 hk9 hS9
  have hW : WW G zs.heap ([(sa, .inr (iMo, [.int (0), .int (0), .ref (sa + 1), .ref (sa + 2), .ref (sa + 3), .ref (sa + 4), .ref (sa + 5), .int (0), .ref (sa + 6), .ref (sa + 7), .ref (sa + 8), .ref (sa + 9), .ref (sa + 10), .ref (sa + 11), .ref (sa + 12), .ref (sa + 13), .ref (sa + 14), .ref (sa + 15), .null, .null, .null, .null, .null, .null, .null, .int (0), .int (0)])), (sa + 1, aI (gC G 1) (3) (fun _ => 0)), (sa + 2, aI (gC G 1) (3) (fun _ => 0)), (sa + 3, aI (gC G 1) (2) (fun _ => 0)), (sa + 4, aI (gC G 0) (12) (fun _ => 0)), (sa + 5, aI (gC G 0) (12) (fun _ => 0)), (sa + 6, aI (gC G 0) (8) (fun _ => 0)), (sa + 7, aI (gC G 1) (8) (fun _ => 0)), (sa + 8, aI (gC G 0) (24) (fun _ => 0)), (sa + 9, aI (gC G 0) (24) (fun _ => 0)), (sa + 10, aI (gC G 0) (96) (fun _ => 0)), (sa + 11, aI (gC G 0) (72) (fun _ => 0)), (sa + 12, aI (gC G 0) (72) (fun _ => 0)), (sa + 13, aI (gC G 0) (72) (fun _ => 0)), (sa + 14, aI (gC G 0) (16) (fun _ => 0)), (sa + 15, aI (gC G 1) (16) (fun _ => 0)), (sa + 16, aI (gC G 0) (16) (fun _ => 0))] ++ T0) H locs := WW_perm (pm_push [(sa, .inr (iMo, [.int (0), .int (0), .ref (sa + 1), .ref (sa + 2), .ref (sa + 3), .ref (sa + 4), .ref (sa + 5), .int (0), .ref (sa + 6), .ref (sa + 7), .ref (sa + 8), .ref (sa + 9), .ref (sa + 10), .ref (sa + 11), .ref (sa + 12), .ref (sa + 13), .ref (sa + 14), .ref (sa + 15), .null, .null, .null, .null, .null, .null, .null, .int (0), .int (0)])), (sa + 1, aI (gC G 1) (3) (fun _ => 0)), (sa + 2, aI (gC G 1) (3) (fun _ => 0)), (sa + 3, aI (gC G 1) (2) (fun _ => 0)), (sa + 4, aI (gC G 0) (12) (fun _ => 0)), (sa + 5, aI (gC G 0) (12) (fun _ => 0)), (sa + 6, aI (gC G 0) (8) (fun _ => 0)), (sa + 7, aI (gC G 1) (8) (fun _ => 0)), (sa + 8, aI (gC G 0) (24) (fun _ => 0)), (sa + 9, aI (gC G 0) (24) (fun _ => 0)), (sa + 10, aI (gC G 0) (96) (fun _ => 0)), (sa + 11, aI (gC G 0) (72) (fun _ => 0)), (sa + 12, aI (gC G 0) (72) (fun _ => 0)), (sa + 13, aI (gC G 0) (72) (fun _ => 0)), (sa + 14, aI (gC G 0) (16) (fun _ => 0)), (sa + 15, aI (gC G 1) (16) (fun _ => 0))] _ _) hW
  refine va_putF hx hb hts i_Mo t_Mo t_Mo_ok n_Mo hown hK hW.1 hW.2.1 hW.2.2 0 rfl rfl 18 (by decide) (hts _ kw_450) (fun _ h => h) rfl hini rfl (t_Mo_ok 18 (by decide)) rfl rfl (Nat.le_of_ble_eq_true rfl) d_Mo_init_126 (fun H locs h1 h2 h3 => ?_)
  have hW : WW G zs.heap ([(sa, .inr (iMo, [.int (0), .int (0), .ref (sa + 1), .ref (sa + 2), .ref (sa + 3), .ref (sa + 4), .ref (sa + 5), .int (0), .ref (sa + 6), .ref (sa + 7), .ref (sa + 8), .ref (sa + 9), .ref (sa + 10), .ref (sa + 11), .ref (sa + 12), .ref (sa + 13), .ref (sa + 14), .ref (sa + 15), .ref (sa + 16), .null, .null, .null, .null, .null, .null, .int (0), .int (0)])), (sa + 1, aI (gC G 1) (3) (fun _ => 0)), (sa + 2, aI (gC G 1) (3) (fun _ => 0)), (sa + 3, aI (gC G 1) (2) (fun _ => 0)), (sa + 4, aI (gC G 0) (12) (fun _ => 0)), (sa + 5, aI (gC G 0) (12) (fun _ => 0)), (sa + 6, aI (gC G 0) (8) (fun _ => 0)), (sa + 7, aI (gC G 1) (8) (fun _ => 0)), (sa + 8, aI (gC G 0) (24) (fun _ => 0)), (sa + 9, aI (gC G 0) (24) (fun _ => 0)), (sa + 10, aI (gC G 0) (96) (fun _ => 0)), (sa + 11, aI (gC G 0) (72) (fun _ => 0)), (sa + 12, aI (gC G 0) (72) (fun _ => 0)), (sa + 13, aI (gC G 0) (72) (fun _ => 0)), (sa + 14, aI (gC G 0) (16) (fun _ => 0)), (sa + 15, aI (gC G 1) (16) (fun _ => 0)), (sa + 16, aI (gC G 0) (16) (fun _ => 0))] ++ T0) H locs := ⟨h1, h2, h3⟩
  refine lv_aload_n hx hb d_Mo_init_129 rfl (lv_at hl 0 rfl) ?_
  refine lv_bipush (v := 48) hx hb d_Mo_init_130 (by decide) ?_
  refine W_sz (fun hzu => ?_)
  have hzl := (va_P_mem.mp hW.1 _ (List.mem_of_getElem? (i := 16) rfl)).lt
  have hz : Array.size H = sa + 17 := sz_eq hzu hz0 hzl rfl rfl
  refine h_newa (G := G) (atype := .boolean) (t0 := 1) (N' := 48) (a0 := (48, .inl (fun _ => 0))) hx hb hts kw_540 (List.mem_of_getElem? (i := 1) rfl) hE hW.2.2 (fun _ => by first | rfl | (rw [vp_cell_i]; rfl)) (by decide) (by decide) (by decide) (Nat.le_of_ble_eq_true rfl) (Nat.le_of_ble_eq_true rfl) d_Mo_init_132 (fun H ha9 hz9 hk9 hS9 => ?_)
  rw [hz] at ha9 ⊢
  have hW := WW_push2 hW hbs hz ha9 hk9 hS9
  have hW : WW G zs.heap ([(sa, .inr (iMo, [.int (0), .int (0), .ref (sa + 1), .ref (sa + 2), .ref (sa + 3), .ref (sa + 4), .ref (sa + 5), .int (0), .ref (sa + 6), .ref (sa + 7), .ref (sa + 8), .ref (sa + 9), .ref (sa + 10), .ref (sa + 11), .ref (sa + 12), .ref (sa + 13), .ref (sa + 14), .ref (sa + 15), .ref (sa + 16), .null, .null, .null, .null, .null, .null, .int (0), .int (0)])), (sa + 1, aI (gC G 1) (3) (fun _ => 0)), (sa + 2, aI (gC G 1) (3) (fun _ => 0)), (sa + 3, aI (gC G 1) (2) (fun _ => 0)), (sa + 4, aI (gC G 0) (12) (fun _ => 0)), (sa + 5, aI (gC G 0) (12) (fun _ => 0)), (sa + 6, aI (gC G 0) (8) (fun _ => 0)), (sa + 7, aI (gC G 1) (8) (fun _ => 0)), (sa + 8, aI (gC G 0) (24) (fun _ => 0)), (sa + 9, aI (gC G 0) (24) (fun _ => 0)), (sa + 10, aI (gC G 0) (96) (fun _ => 0)), (sa + 11, aI (gC G 0) (72) (fun _ => 0)), (sa + 12, aI (gC G 0) (72) (fun _ => 0)), (sa + 13, aI (gC G 0) (72) (fun _ => 0)), (sa + 14, aI (gC G 0) (16) (fun _ => 0)), (sa + 15, aI (gC G 1) (16) (fun _ => 0)), (sa + 16, aI (gC G 0) (16) (fun _ => 0)), (sa + 17, aI (gC G 1) (48) (fun _ => 0))] ++ T0) H locs := WW_perm (pm_push [(sa, .inr (iMo, [.int (0), .int (0), .ref (sa + 1), .ref (sa + 2), .ref (sa + 3), .ref (sa + 4), .ref (sa + 5), .int (0), .ref (sa + 6), .ref (sa + 7), .ref (sa + 8), .ref (sa + 9), .ref (sa + 10), .ref (sa + 11), .ref (sa + 12), .ref (sa + 13), .ref (sa + 14), .ref (sa + 15), .ref (sa + 16), .null, .null, .null, .null, .null, .null, .int (0), .int (0)])), (sa + 1, aI (gC G 1) (3) (fun _ => 0)), (sa + 2, aI (gC G 1) (3) (fun _ => 0)), (sa + 3, aI (gC G 1) (2) (fun _ => 0)), (sa + 4, aI (gC G 0) (12) (fun _ => 0)), (sa + 5, aI (gC G 0) (12) (fun _ => 0)), (sa + 6, aI (gC G 0) (8) (fun _ => 0)), (sa + 7, aI (gC G 1) (8) (fun _ => 0)), (sa + 8, aI (gC G 0) (24) (fun _ => 0)), (sa + 9, aI (gC G 0) (24) (fun _ => 0)), (sa + 10, aI (gC G 0) (96) (fun _ => 0)), (sa + 11, aI (gC G 0) (72) (fun _ => 0)), (sa + 12, aI (gC G 0) (72) (fun _ => 0)), (sa + 13, aI (gC G 0) (72) (fun _ => 0)), (sa + 14, aI (gC G 0) (16) (fun _ => 0)), (sa + 15, aI (gC G 1) (16) (fun _ => 0)), (sa + 16, aI (gC G 0) (16) (fun _ => 0))] _ _) hW
  refine va_putF hx hb hts i_Mo t_Mo t_Mo_ok n_Mo hown hK hW.1 hW.2.1 hW.2.2 0 rfl rfl 19 (by decide) (hts _ kw_416) (fun _ h => h) rfl hini rfl (t_Mo_ok 19 (by decide)) rfl rfl (Nat.le_of_ble_eq_true rfl) d_Mo_init_134 (fun H locs h1 h2 h3 => ?_)
  have hW : WW G zs.heap ([(sa, .inr (iMo, [.int (0), .int (0), .ref (sa + 1), .ref (sa + 2), .ref (sa + 3), .ref (sa + 4), .ref (sa + 5), .int (0), .ref (sa + 6), .ref (sa + 7), .ref (sa + 8), .ref (sa + 9), .ref (sa + 10), .ref (sa + 11), .ref (sa + 12), .ref (sa + 13), .ref (sa + 14), .ref (sa + 15), .ref (sa + 16), .ref (sa + 17), .null, .null, .null, .null, .null, .int (0), .int (0)])), (sa + 1, aI (gC G 1) (3) (fun _ => 0)), (sa + 2, aI (gC G 1) (3) (fun _ => 0)), (sa + 3, aI (gC G 1) (2) (fun _ => 0)), (sa + 4, aI (gC G 0) (12) (fun _ => 0)), (sa + 5, aI (gC G 0) (12) (fun _ => 0)), (sa + 6, aI (gC G 0) (8) (fun _ => 0)), (sa + 7, aI (gC G 1) (8) (fun _ => 0)), (sa + 8, aI (gC G 0) (24) (fun _ => 0)), (sa + 9, aI (gC G 0) (24) (fun _ => 0)), (sa + 10, aI (gC G 0) (96) (fun _ => 0)), (sa + 11, aI (gC G 0) (72) (fun _ => 0)), (sa + 12, aI (gC G 0) (72) (fun _ => 0)), (sa + 13, aI (gC G 0) (72) (fun _ => 0)), (sa + 14, aI (gC G 0) (16) (fun _ => 0)), (sa + 15, aI (gC G 1) (16) (fun _ => 0)), (sa + 16, aI (gC G 0) (16) (fun _ => 0)), (sa + 17, aI (gC G 1) (48) (fun _ => 0))] ++ T0) H locs := ⟨h1, h2, h3⟩
  refine lv_aload_n hx hb d_Mo_init_137 rfl (lv_at hl 0 rfl) ?_
  refine lv_sipush (v := 144) hx hb d_Mo_init_138 (by decide) ?_
  refine W_sz (fun hzu => ?_)
  have hzl := (va_P_mem.mp hW.1 _ (List.mem_of_getElem? (i := 17) rfl)).lt
  have hz : Array.size H = sa + 18 := sz_eq hzu hz0 hzl rfl rfl
  refine h_newa (G := G) (atype := .int) (t0 := 0) (N' := 144) (a0 := (144, .inl (fun _ => 0))) hx hb hts kw_532 (List.mem_of_getElem? (i := 0) rfl) hE hW.2.2 (fun _ => by first | rfl | (rw [vp_cell_i]; rfl)) (by decide) (by decide) (by decide) (Nat.le_of_ble_eq_true rfl) (Nat.le_of_ble_eq_true rfl) d_Mo_init_141 (fun H ha9 hz9 hk9 hS9 => ?_)
  rw [hz] at ha9 ⊢
  have hW := WW_push2 hW hbs hz ha9 hk9 hS9
  have hW : WW G zs.heap ([(sa, .inr (iMo, [.int (0), .int (0), .ref (sa + 1), .ref (sa + 2), .ref (sa + 3), .ref (sa + 4), .ref (sa + 5), .int (0), .ref (sa + 6), .ref (sa + 7), .ref (sa + 8), .ref (sa + 9), .ref (sa + 10), .ref (sa + 11), .ref (sa + 12), .ref (sa + 13), .ref (sa + 14), .ref (sa + 15), .ref (sa + 16), .ref (sa + 17), .null, .null, .null, .null, .null, .int (0), .int (0)])), (sa + 1, aI (gC G 1) (3) (fun _ => 0)), (sa + 2, aI (gC G 1) (3) (fun _ => 0)), (sa + 3, aI (gC G 1) (2) (fun _ => 0)), (sa + 4, aI (gC G 0) (12) (fun _ => 0)), (sa + 5, aI (gC G 0) (12) (fun _ => 0)), (sa + 6, aI (gC G 0) (8) (fun _ => 0)), (sa + 7, aI (gC G 1) (8) (fun _ => 0)), (sa + 8, aI (gC G 0) (24) (fun _ => 0)), (sa + 9, aI (gC G 0) (24) (fun _ => 0)), (sa + 10, aI (gC G 0) (96) (fun _ => 0)), (sa + 11, aI (gC G 0) (72) (fun _ => 0)), (sa + 12, aI (gC G 0) (72) (fun _ => 0)), (sa + 13, aI (gC G 0) (72) (fun _ => 0)), (sa + 14, aI (gC G 0) (16) (fun _ => 0)), (sa + 15, aI (gC G 1) (16) (fun _ => 0)), (sa + 16, aI (gC G 0) (16) (fun _ => 0)), (sa + 17, aI (gC G 1) (48) (fun _ => 0)), (sa + 18, aI (gC G 0) (144) (fun _ => 0))] ++ T0) H locs := WW_perm (pm_push [(sa, .inr (iMo, [.int (0), .int (0), .ref (sa + 1), .ref (sa + 2), .ref (sa + 3), .ref (sa + 4), .ref (sa + 5), .int (0), .ref (sa + 6), .ref (sa + 7), .ref (sa + 8), .ref (sa + 9), .ref (sa + 10), .ref (sa + 11), .ref (sa + 12), .ref (sa + 13), .ref (sa + 14), .ref (sa + 15), .ref (sa + 16), .ref (sa + 17), .null, .null, .null, .null, .null, .int (0), .int (0)])), (sa + 1, aI (gC G 1) (3) (fun _ => 0)), (sa + 2, aI (gC G 1) (3) (fun _ => 0)), (sa + 3, aI (gC G 1) (2) (fun _ => 0)), (sa + 4, aI (gC G 0) (12) (fun _ => 0)), (sa + 5, aI (gC G 0) (12) (fun _ => 0)), (sa + 6, aI (gC G 0) (8) (fun _ => 0)), (sa + 7, aI (gC G 1) (8) (fun _ => 0)), (sa + 8, aI (gC G 0) (24) (fun _ => 0)), (sa + 9, aI (gC G 0) (24) (fun _ => 0)), (sa + 10, aI (gC G 0) (96) (fun _ => 0)), (sa + 11, aI (gC G 0) (72) (fun _ => 0)), (sa + 12, aI (gC G 0) (72) (fun _ => 0)), (sa + 13, aI (gC G 0) (72) (fun _ => 0)), (sa + 14, aI (gC G 0) (16) (fun _ => 0)), (sa + 15, aI (gC G 1) (16) (fun _ => 0)), (sa + 16, aI (gC G 0) (16) (fun _ => 0)), (sa + 17, aI (gC G 1) (48) (fun _ => 0))] _ _) hW
  refine va_putF hx hb hts i_Mo t_Mo t_Mo_ok n_Mo hown hK hW.1 hW.2.1 hW.2.2 0 rfl rfl 20 (by decide) (hts _ kw_417) (fun _ h => h) rfl hini rfl (t_Mo_ok 20 (by decide)) rfl rfl (Nat.le_of_ble_eq_true rfl) d_Mo_init_143 (fun H locs h1 h2 h3 => ?_)
  have hW : WW G zs.heap ([(sa, .inr (iMo, [.int (0), .int (0), .ref (sa + 1), .ref (sa + 2), .ref (sa + 3), .ref (sa + 4), .ref (sa + 5), .int (0), .ref (sa + 6), .ref (sa + 7), .ref (sa + 8), .ref (sa + 9), .ref (sa + 10), .ref (sa + 11), .ref (sa + 12), .ref (sa + 13), .ref (sa + 14), .ref (sa + 15), .ref (sa + 16), .ref (sa + 17), .ref (sa + 18), .null, .null, .null, .null, .int (0), .int (0)])), (sa + 1, aI (gC G 1) (3) (fun _ => 0)), (sa + 2, aI (gC G 1) (3) (fun _ => 0)), (sa + 3, aI (gC G 1) (2) (fun _ => 0)), (sa + 4, aI (gC G 0) (12) (fun _ => 0)), (sa + 5, aI (gC G 0) (12) (fun _ => 0)), (sa + 6, aI (gC G 0) (8) (fun _ => 0)), (sa + 7, aI (gC G 1) (8) (fun _ => 0)), (sa + 8, aI (gC G 0) (24) (fun _ => 0)), (sa + 9, aI (gC G 0) (24) (fun _ => 0)), (sa + 10, aI (gC G 0) (96) (fun _ => 0)), (sa + 11, aI (gC G 0) (72) (fun _ => 0)), (sa + 12, aI (gC G 0) (72) (fun _ => 0)), (sa + 13, aI (gC G 0) (72) (fun _ => 0)), (sa + 14, aI (gC G 0) (16) (fun _ => 0)), (sa + 15, aI (gC G 1) (16) (fun _ => 0)), (sa + 16, aI (gC G 0) (16) (fun _ => 0)), (sa + 17, aI (gC G 1) (48) (fun _ => 0)), (sa + 18, aI (gC G 0) (144) (fun _ => 0))] ++ T0) H locs := ⟨h1, h2, h3⟩
  refine lv_aload_n hx hb d_Mo_init_146 rfl (lv_at hl 0 rfl) ?_
  refine lv_sipush (v := 144) hx hb d_Mo_init_147 (by decide) ?_
  refine W_sz (fun hzu => ?_)
  have hzl := (va_P_mem.mp hW.1 _ (List.mem_of_getElem? (i := 18) rfl)).lt
  have hz : Array.size H = sa + 19 := sz_eq hzu hz0 hzl rfl rfl
  refine h_newa (G := G) (atype := .int) (t0 := 0) (N' := 144) (a0 := (144, .inl (fun _ => 0))) hx hb hts kw_532 (List.mem_of_getElem? (i := 0) rfl) hE hW.2.2 (fun _ => by first | rfl | (rw [vp_cell_i]; rfl)) (by decide) (by decide) (by decide) (Nat.le_of_ble_eq_true rfl) (Nat.le_of_ble_eq_true rfl) d_Mo_init_150 (fun H ha9 hz9 hk9 hS9 => ?_)
  rw [hz] at ha9 ⊢
  have hW := WW_push2 hW hbs hz ha9 hk9 hS9
  have hW : WW G zs.heap ([(sa, .inr (iMo, [.int (0), .int (0), .ref (sa + 1), .ref (sa + 2), .ref (sa + 3), .ref (sa + 4), .ref (sa + 5), .int (0), .ref (sa + 6), .ref (sa + 7), .ref (sa + 8), .ref (sa + 9), .ref (sa + 10), .ref (sa + 11), .ref (sa + 12), .ref (sa + 13), .ref (sa + 14), .ref (sa + 15), .ref (sa + 16), .ref (sa + 17), .ref (sa + 18), .null, .null, .null, .null, .int (0), .int (0)])), (sa + 1, aI (gC G 1) (3) (fun _ => 0)), (sa + 2, aI (gC G 1) (3) (fun _ => 0)), (sa + 3, aI (gC G 1) (2) (fun _ => 0)), (sa + 4, aI (gC G 0) (12) (fun _ => 0)), (sa + 5, aI (gC G 0) (12) (fun _ => 0)), (sa + 6, aI (gC G 0) (8) (fun _ => 0)), (sa + 7, aI (gC G 1) (8) (fun _ => 0)), (sa + 8, aI (gC G 0) (24) (fun _ => 0)), (sa + 9, aI (gC G 0) (24) (fun _ => 0)), (sa + 10, aI (gC G 0) (96) (fun _ => 0)), (sa + 11, aI (gC G 0) (72) (fun _ => 0)), (sa + 12, aI (gC G 0) (72) (fun _ => 0)), (sa + 13, aI (gC G 0) (72) (fun _ => 0)), (sa + 14, aI (gC G 0) (16) (fun _ => 0)), (sa + 15, aI (gC G 1) (16) (fun _ => 0)), (sa + 16, aI (gC G 0) (16) (fun _ => 0)), (sa + 17, aI (gC G 1) (48) (fun _ => 0)), (sa + 18, aI (gC G 0) (144) (fun _ => 0)), (sa + 19, aI (gC G 0) (144) (fun _ => 0))] ++ T0) H locs := WW_perm (pm_push [(sa, .inr (iMo, [.int (0), .int (0), .ref (sa + 1), .ref (sa + 2), .ref (sa + 3), .ref (sa + 4), .ref (sa + 5), .int (0), .ref (sa + 6), .ref (sa + 7), .ref (sa + 8), .ref (sa + 9), .ref (sa + 10), .ref (sa + 11), .ref (sa + 12), .ref (sa + 13), .ref (sa + 14), .ref (sa + 15), .ref (sa + 16), .ref (sa + 17), .ref (sa + 18), .null, .null, .null, .null, .int (0), .int (0)])), (sa + 1, aI (gC G 1) (3) (fun _ => 0)), (sa + 2, aI (gC G 1) (3) (fun _ => 0)), (sa + 3, aI (gC G 1) (2) (fun _ => 0)), (sa + 4, aI (gC G 0) (12) (fun _ => 0)), (sa + 5, aI (gC G 0) (12) (fun _ => 0)), (sa + 6, aI (gC G 0) (8) (fun _ => 0)), (sa + 7, aI (gC G 1) (8) (fun _ => 0)), (sa + 8, aI (gC G 0) (24) (fun _ => 0)), (sa + 9, aI (gC G 0) (24) (fun _ => 0)), (sa + 10, aI (gC G 0) (96) (fun _ => 0)), (sa + 11, aI (gC G 0) (72) (fun _ => 0)), (sa + 12, aI (gC G 0) (72) (fun _ => 0)), (sa + 13, aI (gC G 0) (72) (fun _ => 0)), (sa + 14, aI (gC G 0) (16) (fun _ => 0)), (sa + 15, aI (gC G 1) (16) (fun _ => 0)), (sa + 16, aI (gC G 0) (16) (fun _ => 0)), (sa + 17, aI (gC G 1) (48) (fun _ => 0)), (sa + 18, aI (gC G 0) (144) (fun _ => 0))] _ _) hW
  refine va_putF hx hb hts i_Mo t_Mo t_Mo_ok n_Mo hown hK hW.1 hW.2.1 hW.2.2 0 rfl rfl 21 (by decide) (hts _ kw_418) (fun _ h => h) rfl hini rfl (t_Mo_ok 21 (by decide)) rfl rfl (Nat.le_of_ble_eq_true rfl) d_Mo_init_152 (fun H locs h1 h2 h3 => ?_)
  have hW : WW G zs.heap ([(sa, .inr (iMo, [.int (0), .int (0), .ref (sa + 1), .ref (sa + 2), .ref (sa + 3), .ref (sa + 4), .ref (sa + 5), .int (0), .ref (sa + 6), .ref (sa + 7), .ref (sa + 8), .ref (sa + 9), .ref (sa + 10), .ref (sa + 11), .ref (sa + 12), .ref (sa + 13), .ref (sa + 14), .ref (sa + 15), .ref (sa + 16), .ref (sa + 17), .ref (sa + 18), .ref (sa + 19), .null, .null, .null, .int (0), .int (0)])), (sa + 1, aI (gC G 1) (3) (fun _ => 0)), (sa + 2, aI (gC G 1) (3) (fun _ => 0)), (sa + 3, aI (gC G 1) (2) (fun _ => 0)), (sa + 4, aI (gC G 0) (12) (fun _ => 0)), (sa + 5, aI (gC G 0) (12) (fun _ => 0)), (sa + 6, aI (gC G 0) (8) (fun _ => 0)), (sa + 7, aI (gC G 1) (8) (fun _ => 0)), (sa + 8, aI (gC G 0) (24) (fun _ => 0)), (sa + 9, aI (gC G 0) (24) (fun _ => 0)), (sa + 10, aI (gC G 0) (96) (fun _ => 0)), (sa + 11, aI (gC G 0) (72) (fun _ => 0)), (sa + 12, aI (gC G 0) (72) (fun _ => 0)), (sa + 13, aI (gC G 0) (72) (fun _ => 0)), (sa + 14, aI (gC G 0) (16) (fun _ => 0)), (sa + 15, aI (gC G 1) (16) (fun _ => 0)), (sa + 16, aI (gC G 0) (16) (fun _ => 0)), (sa + 17, aI (gC G 1) (48) (fun _ => 0)), (sa + 18, aI (gC G 0) (144) (fun _ => 0)), (sa + 19, aI (gC G 0) (144) (fun _ => 0))] ++ T0) H locs := ⟨h1, h2, h3⟩
  refine lv_aload_n hx hb d_Mo_init_155 rfl (lv_at hl 0 rfl) ?_
  refine lv_sipush (v := 144) hx hb d_Mo_init_156 (by decide) ?_
  refine W_sz (fun hzu => ?_)
  have hzl := (va_P_mem.mp hW.1 _ (List.mem_of_getElem? (i := 19) rfl)).lt
  have hz : Array.size H = sa + 20 := sz_eq hzu hz0 hzl rfl rfl
  refine h_newa (G := G) (atype := .int) (t0 := 0) (N' := 144) (a0 := (144, .inl (fun _ => 0))) hx hb hts kw_532 (List.mem_of_getElem? (i := 0) rfl) hE hW.2.2 (fun _ => by first | rfl | (rw [vp_cell_i]; rfl)) (by decide) (by decide) (by decide) (Nat.le_of_ble_eq_true rfl) (Nat.le_of_ble_eq_true rfl) d_Mo_init_159 (fun H ha9 hz9 hk9 hS9 => ?_)
  rw [hz] at ha9 ⊢
  have hW := WW_push2 hW hbs hz ha9 hk9 hS9
  have hW : WW G zs.heap ([(sa, .inr (iMo, [.int (0), .int (0), .ref (sa + 1), .ref (sa + 2), .ref (sa + 3), .ref (sa + 4), .ref (sa + 5), .int (0), .ref (sa + 6), .ref (sa + 7), .ref (sa + 8), .ref (sa + 9), .ref (sa + 10), .ref (sa + 11), .ref (sa + 12), .ref (sa + 13), .ref (sa + 14), .ref (sa + 15), .ref (sa + 16), .ref (sa + 17), .ref (sa + 18), .ref (sa + 19), .null, .null, .null, .int (0), .int (0)])), (sa + 1, aI (gC G 1) (3) (fun _ => 0)), (sa + 2, aI (gC G 1) (3) (fun _ => 0)), (sa + 3, aI (gC G 1) (2) (fun _ => 0)), (sa + 4, aI (gC G 0) (12) (fun _ => 0)), (sa + 5, aI (gC G 0) (12) (fun _ => 0)), (sa + 6, aI (gC G 0) (8) (fun _ => 0)), (sa + 7, aI (gC G 1) (8) (fun _ => 0)), (sa + 8, aI (gC G 0) (24) (fun _ => 0)), (sa + 9, aI (gC G 0) (24) (fun _ => 0)), (sa + 10, aI (gC G 0) (96) (fun _ => 0)), (sa + 11, aI (gC G 0) (72) (fun _ => 0)), (sa + 12, aI (gC G 0) (72) (fun _ => 0)), (sa + 13, aI (gC G 0) (72) (fun _ => 0)), (sa + 14, aI (gC G 0) (16) (fun _ => 0)), (sa + 15, aI (gC G 1) (16) (fun _ => 0)), (sa + 16, aI (gC G 0) (16) (fun _ => 0)), (sa + 17, aI (gC G 1) (48) (fun _ => 0)), (sa + 18, aI (gC G 0) (144) (fun _ => 0)), (sa + 19, aI (gC G 0) (144) (fun _ => 0)), (sa + 20, aI (gC G 0) (144) (fun _ => 0))] ++ T0) H locs := WW_perm (pm_push [(sa, .inr (iMo, [.int (0), .int (0), .ref (sa + 1), .ref (sa + 2), .ref (sa + 3), .ref (sa + 4), .ref (sa + 5), .int (0), .ref (sa + 6), .ref (sa + 7), .ref (sa + 8), .ref (sa + 9), .ref (sa + 10), .ref (sa + 11), .ref (sa + 12), .ref (sa + 13), .ref (sa + 14), .ref (sa + 15), .ref (sa + 16), .ref (sa + 17), .ref (sa + 18), .ref (sa + 19), .null, .null, .null, .int (0), .int (0)])), (sa + 1, aI (gC G 1) (3) (fun _ => 0)), (sa + 2, aI (gC G 1) (3) (fun _ => 0)), (sa + 3, aI (gC G 1) (2) (fun _ => 0)), (sa + 4, aI (gC G 0) (12) (fun _ => 0)), (sa + 5, aI (gC G 0) (12) (fun _ => 0)), (sa + 6, aI (gC G 0) (8) (fun _ => 0)), (sa + 7, aI (gC G 1) (8) (fun _ => 0)), (sa + 8, aI (gC G 0) (24) (fun _ => 0)), (sa + 9, aI (gC G 0) (24) (fun _ => 0)), (sa + 10, aI (gC G 0) (96) (fun _ => 0)), (sa + 11, aI (gC G 0) (72) (fun _ => 0)), (sa + 12, aI (gC G 0) (72) (fun _ => 0)), (sa + 13, aI (gC G 0) (72) (fun _ => 0)), (sa + 14, aI (gC G 0) (16) (fun _ => 0)), (sa + 15, aI (gC G 1) (16) (fun _ => 0)), (sa + 16, aI (gC G 0) (16) (fun _ => 0)), (sa + 17, aI (gC G 1) (48) (fun _ => 0)), (sa + 18, aI (gC G 0) (144) (fun _ => 0)), (sa + 19, aI (gC G 0) (144) (fun _ => 0))] _ _) hW
  refine va_putF hx hb hts i_Mo t_Mo t_Mo_ok n_Mo hown hK hW.1 hW.2.1 hW.2.2 0 rfl rfl 22 (by decide) (hts _ kw_424) (fun _ h => h) rfl hini rfl (t_Mo_ok 22 (by decide)) rfl rfl (Nat.le_of_ble_eq_true rfl) d_Mo_init_161 (fun H locs h1 h2 h3 => ?_)
  have hW : WW G zs.heap ([(sa, .inr (iMo, [.int (0), .int (0), .ref (sa + 1), .ref (sa + 2), .ref (sa + 3), .ref (sa + 4), .ref (sa + 5), .int (0), .ref (sa + 6), .ref (sa + 7), .ref (sa + 8), .ref (sa + 9), .ref (sa + 10), .ref (sa + 11), .ref (sa + 12), .ref (sa + 13), .ref (sa + 14), .ref (sa + 15), .ref (sa + 16), .ref (sa + 17), .ref (sa + 18), .ref (sa + 19), .ref (sa + 20), .null, .null, .int (0), .int (0)])), (sa + 1, aI (gC G 1) (3) (fun _ => 0)), (sa + 2, aI (gC G 1) (3) (fun _ => 0)), (sa + 3, aI (gC G 1) (2) (fun _ => 0)), (sa + 4, aI (gC G 0) (12) (fun _ => 0)), (sa + 5, aI (gC G 0) (12) (fun _ => 0)), (sa + 6, aI (gC G 0) (8) (fun _ => 0)), (sa + 7, aI (gC G 1) (8) (fun _ => 0)), (sa + 8, aI (gC G 0) (24) (fun _ => 0)), (sa + 9, aI (gC G 0) (24) (fun _ => 0)), (sa + 10, aI (gC G 0) (96) (fun _ => 0)), (sa + 11, aI (gC G 0) (72) (fun _ => 0)), (sa + 12, aI (gC G 0) (72) (fun _ => 0)), (sa + 13, aI (gC G 0) (72) (fun _ => 0)), (sa + 14, aI (gC G 0) (16) (fun _ => 0)), (sa + 15, aI (gC G 1) (16) (fun _ => 0)), (sa + 16, aI (gC G 0) (16) (fun _ => 0)), (sa + 17, aI (gC G 1) (48) (fun _ => 0)), (sa + 18, aI (gC G 0) (144) (fun _ => 0)), (sa + 19, aI (gC G 0) (144) (fun _ => 0)), (sa + 20, aI (gC G 0) (144) (fun _ => 0))] ++ T0) H locs := ⟨h1, h2, h3⟩
  refine lv_aload_n hx hb d_Mo_init_164 rfl (lv_at hl 0 rfl) ?_
  refine lv_sipush (v := 144) hx hb d_Mo_init_165 (by decide) ?_
  refine W_sz (fun hzu => ?_)
  have hzl := (va_P_mem.mp hW.1 _ (List.mem_of_getElem? (i := 20) rfl)).lt
  have hz : Array.size H = sa + 21 := sz_eq hzu hz0 hzl rfl rfl
  refine h_newa (G := G) (atype := .int) (t0 := 0) (N' := 144) (a0 := (144, .inl (fun _ => 0))) hx hb hts kw_532 (List.mem_of_getElem? (i := 0) rfl) hE hW.2.2 (fun _ => by first | rfl | (rw [vp_cell_i]; rfl)) (by decide) (by decide) (by decide) (Nat.le_of_ble_eq_true rfl) (Nat.le_of_ble_eq_true rfl) d_Mo_init_168 (fun H ha9 hz9 hk9 hS9 => ?_)
  rw [hz] at ha9 ⊢
  have hW := WW_push2 hW hbs hz ha9 hk9 hS9
  have hW : WW G zs.heap ([(sa, .inr (iMo, [.int (0), .int (0), .ref (sa + 1), .ref (sa + 2), .ref (sa + 3), .ref (sa + 4), .ref (sa + 5), .int (0), .ref (sa + 6), .ref (sa + 7), .ref (sa + 8), .ref (sa + 9), .ref (sa + 10), .ref (sa + 11), .ref (sa + 12), .ref (sa + 13), .ref (sa + 14), .ref (sa + 15), .ref (sa + 16), .ref (sa + 17), .ref (sa + 18), .ref (sa + 19), .ref (sa + 20), .null, .null, .int (0), .int (0)])), (sa + 1, aI (gC G 1) (3) (fun _ => 0)), (sa + 2, aI (gC G 1) (3) (fun _ => 0)), (sa + 3, aI (gC G 1) (2) (fun _ => 0)), (sa + 4, aI (gC G 0) (12) (fun _ => 0)), (sa + 5, aI (gC G 0) (12) (fun _ => 0)), (sa + 6, aI (gC G 0) (8) (fun _ => 0)), (sa + 7, aI (gC G 1) (8) (fun _ => 0)), (sa + 8, aI (gC G 0) (24) (fun _ => 0)), (sa + 9, aI (gC G 0) (24) (fun _ => 0)), (sa + 10, aI (gC G 0) (96) (fun _ => 0)), (sa + 11, aI (gC G 0) (72) (fun _ => 0)), (sa + 12, aI (gC G 0) (72) (fun _ => 0)), (sa + 13, aI (gC G 0) (72) (fun _ => 0)), (sa + 14, aI (gC G 0) (16) (fun _ => 0)), (sa + 15, aI (gC G 1) (16) (fun _ => 0)), (sa + 16, aI (gC G 0) (16) (fun _ => 0)), (sa + 17, aI (gC G 1) (48) (fun _ => 0)), (sa + 18, aI (gC G 0) (144) (fun _ => 0)), (sa + 19, aI (gC G 0) (144) (fun _ => 0)), (sa + 20, aI (gC G 0) (144) (fun _ => 0)), (sa + 21, aI (gC G 0) (144) (fun _ => 0))] ++ T0) H locs := WW_perm (pm_push [(sa, .inr (iMo, [.int (0), .int (0), .ref (sa + 1), .ref (sa + 2), .ref (sa + 3), .ref (sa + 4), .ref (sa + 5), .int (0), .ref (sa + 6), .ref (sa + 7), .ref (sa + 8), .ref (sa + 9), .ref (sa + 10), .ref (sa + 11), .ref (sa + 12), .ref (sa + 13), .ref (sa + 14), .ref (sa + 15), .ref (sa + 16), .ref (sa + 17), .ref (sa + 18), .ref (sa + 19), .ref (sa + 20), .null, .null, .int (0), .int (0)])), (sa + 1, aI (gC G 1) (3) (fun _ => 0)), (sa + 2, aI (gC G 1) (3) (fun _ => 0)), (sa + 3, aI (gC G 1) (2) (fun _ => 0)), (sa + 4, aI (gC G 0) (12) (fun _ => 0)), (sa + 5, aI (gC G 0) (12) (fun _ => 0)), (sa + 6, aI (gC G 0) (8) (fun _ => 0)), (sa + 7, aI (gC G 1) (8) (fun _ => 0)), (sa + 8, aI (gC G 0) (24) (fun _ => 0)), (sa + 9, aI (gC G 0) (24) (fun _ => 0)), (sa + 10, aI (gC G 0) (96) (fun _ => 0)), (sa + 11, aI (gC G 0) (72) (fun _ => 0)), (sa + 12, aI (gC G 0) (72) (fun _ => 0)), (sa + 13, aI (gC G 0) (72) (fun _ => 0)), (sa + 14, aI (gC G 0) (16) (fun _ => 0)), (sa + 15, aI (gC G 1) (16) (fun _ => 0)), (sa + 16, aI (gC G 0) (16) (fun _ => 0)), (sa + 17, aI (gC G 1) (48) (fun _ => 0)), (sa + 18, aI (gC G 0) (144) (fun _ => 0)), (sa + 19, aI (gC G 0) (144) (fun _ => 0)), (sa + 20, aI (gC G 0) (144) (fun _ => 0))] _ _) hW
  refine va_putF hx hb hts i_Mo t_Mo t_Mo_ok n_Mo hown hK hW.1 hW.2.1 hW.2.2 0 rfl rfl 23 (by decide) (hts _ kw_423) (fun _ h => h) rfl hini rfl (t_Mo_ok 23 (by decide)) rfl rfl (Nat.le_of_ble_eq_true rfl) d_Mo_init_170 (fun H locs h1 h2 h3 => ?_)
  have hW : WW G zs.heap ([(sa, .inr (iMo, [.int (0), .int (0), .ref (sa + 1), .ref (sa + 2), .ref (sa + 3), .ref (sa + 4), .ref (sa + 5), .int (0), .ref (sa + 6), .ref (sa + 7), .ref (sa + 8), .ref (sa + 9), .ref (sa + 10), .ref (sa + 11), .ref (sa + 12), .ref (sa + 13), .ref (sa + 14), .ref (sa + 15), .ref (sa + 16), .ref (sa + 17), .ref (sa + 18), .ref (sa + 19), .ref (sa + 20), .ref (sa + 21), .null, .int (0), .int (0)])), (sa + 1, aI (gC G 1) (3) (fun _ => 0)), (sa + 2, aI (gC G 1) (3) (fun _ => 0)), (sa + 3, aI (gC G 1) (2) (fun _ => 0)), (sa + 4, aI (gC G 0) (12) (fun _ => 0)), (sa + 5, aI (gC G 0) (12) (fun _ => 0)), (sa + 6, aI (gC G 0) (8) (fun _ => 0)), (sa + 7, aI (gC G 1) (8) (fun _ => 0)), (sa + 8, aI (gC G 0) (24) (fun _ => 0)), (sa + 9, aI (gC G 0) (24) (fun _ => 0)), (sa + 10, aI (gC G 0) (96) (fun _ => 0)), (sa + 11, aI (gC G 0) (72) (fun _ => 0)), (sa + 12, aI (gC G 0) (72) (fun _ => 0)), (sa + 13, aI (gC G 0) (72) (fun _ => 0)), (sa + 14, aI (gC G 0) (16) (fun _ => 0)), (sa + 15, aI (gC G 1) (16) (fun _ => 0)), (sa + 16, aI (gC G 0) (16) (fun _ => 0)), (sa + 17, aI (gC G 1) (48) (fun _ => 0)), (sa + 18, aI (gC G 0) (144) (fun _ => 0)), (sa + 19, aI (gC G 0) (144) (fun _ => 0)), (sa + 20, aI (gC G 0) (144) (fun _ => 0)), (sa + 21, aI (gC G 0) (144) (fun _ => 0))] ++ T0) H locs := ⟨h1, h2, h3⟩
  refine lv_aload_n hx hb d_Mo_init_173 rfl (lv_at hl 0 rfl) ?_
  refine lv_sipush (v := 793) hx hb d_Mo_init_174 (by decide) ?_
  refine W_sz (fun hzu => ?_)
  have hzl := (va_P_mem.mp hW.1 _ (List.mem_of_getElem? (i := 21) rfl)).lt
  have hz : Array.size H = sa + 22 := sz_eq hzu hz0 hzl rfl rfl
  refine h_newa (G := G) (atype := .int) (t0 := 0) (N' := 793) (a0 := (793, .inl (fun _ => 0))) hx hb hts kw_532 (List.mem_of_getElem? (i := 0) rfl) hE hW.2.2 (fun _ => by first | rfl | (rw [vp_cell_i]; rfl)) (by decide) (by decide) (by decide) (Nat.le_of_ble_eq_true rfl) (Nat.le_of_ble_eq_true rfl) d_Mo_init_177 (fun H ha9 hz9 hk9 hS9 => ?_)
  rw [hz] at ha9 ⊢
  have hW := WW_push2 hW hbs hz ha9 hk9 hS9
  have hW : WW G zs.heap ([(sa, .inr (iMo, [.int (0), .int (0), .ref (sa + 1), .ref (sa + 2), .ref (sa + 3), .ref (sa + 4), .ref (sa + 5), .int (0), .ref (sa + 6), .ref (sa + 7), .ref (sa + 8), .ref (sa + 9), .ref (sa + 10), .ref (sa + 11), .ref (sa + 12), .ref (sa + 13), .ref (sa + 14), .ref (sa + 15), .ref (sa + 16), .ref (sa + 17), .ref (sa + 18), .ref (sa + 19), .ref (sa + 20), .ref (sa + 21), .null, .int (0), .int (0)])), (sa + 1, aI (gC G 1) (3) (fun _ => 0)), (sa + 2, aI (gC G 1) (3) (fun _ => 0)), (sa + 3, aI (gC G 1) (2) (fun _ => 0)), (sa + 4, aI (gC G 0) (12) (fun _ => 0)), (sa + 5, aI (gC G 0) (12) (fun _ => 0)), (sa + 6, aI (gC G 0) (8) (fun _ => 0)), (sa + 7, aI (gC G 1) (8) (fun _ => 0)), (sa + 8, aI (gC G 0) (24) (fun _ => 0)), (sa + 9, aI (gC G 0) (24) (fun _ => 0)), (sa + 10, aI (gC G 0) (96) (fun _ => 0)), (sa + 11, aI (gC G 0) (72) (fun _ => 0)), (sa + 12, aI (gC G 0) (72) (fun _ => 0)), (sa + 13, aI (gC G 0) (72) (fun _ => 0)), (sa + 14, aI (gC G 0) (16) (fun _ => 0)), (sa + 15, aI (gC G 1) (16) (fun _ => 0)), (sa + 16, aI (gC G 0) (16) (fun _ => 0)), (sa + 17, aI (gC G 1) (48) (fun _ => 0)), (sa + 18, aI (gC G 0) (144) (fun _ => 0)), (sa + 19, aI (gC G 0) (144) (fun _ => 0)), (sa + 20, aI (gC G 0) (144) (fun _ => 0)), (sa + 21, aI (gC G 0) (144) (fun _ => 0)), (sa + 22, aI (gC G 0) (793) (fun _ => 0))] ++ T0) H locs := WW_perm (pm_push [(sa, .inr (iMo, [.int (0), .int (0), .ref (sa + 1), .ref (sa + 2), .ref (sa + 3), .ref (sa + 4), .ref (sa + 5), .int (0), .ref (sa + 6), .ref (sa + 7), .ref (sa + 8), .ref (sa + 9), .ref (sa + 10), .ref (sa + 11), .ref (sa + 12), .ref (sa + 13), .ref (sa + 14), .ref (sa + 15), .ref (sa + 16), .ref (sa + 17), .ref (sa + 18), .ref (sa + 19), .ref (sa + 20), .ref (sa + 21), .null, .int (0), .int (0)])), (sa + 1, aI (gC G 1) (3) (fun _ => 0)), (sa + 2, aI (gC G 1) (3) (fun _ => 0)), (sa + 3, aI (gC G 1) (2) (fun _ => 0)), (sa + 4, aI (gC G 0) (12) (fun _ => 0)), (sa + 5, aI (gC G 0) (12) (fun _ => 0)), (sa + 6, aI (gC G 0) (8) (fun _ => 0)), (sa + 7, aI (gC G 1) (8) (fun _ => 0)), (sa + 8, aI (gC G 0) (24) (fun _ => 0)), (sa + 9, aI (gC G 0) (24) (fun _ => 0)), (sa + 10, aI (gC G 0) (96) (fun _ => 0)), (sa + 11, aI (gC G 0) (72) (fun _ => 0)), (sa + 12, aI (gC G 0) (72) (fun _ => 0)), (sa + 13, aI (gC G 0) (72) (fun _ => 0)), (sa + 14, aI (gC G 0) (16) (fun _ => 0)), (sa + 15, aI (gC G 1) (16) (fun _ => 0)), (sa + 16, aI (gC G 0) (16) (fun _ => 0)), (sa + 17, aI (gC G 1) (48) (fun _ => 0)), (sa + 18, aI (gC G 0) (144) (fun _ => 0)), (sa + 19, aI (gC G 0) (144) (fun _ => 0)), (sa + 20, aI (gC G 0) (144) (fun _ => 0)), (sa + 21, aI (gC G 0) (144) (fun _ => 0))] _ _) hW
  refine va_putF hx hb hts i_Mo t_Mo t_Mo_ok n_Mo hown hK hW.1 hW.2.1 hW.2.2 0 rfl rfl 24 (by decide) (hts _ kw_407) (fun _ h => h) rfl hini rfl (t_Mo_ok 24 (by decide)) rfl rfl (Nat.le_of_ble_eq_true rfl) d_Mo_init_179 (fun H locs h1 h2 h3 => ?_)
  have hW : WW G zs.heap ([(sa, .inr (iMo, [.int (0), .int (0), .ref (sa + 1), .ref (sa + 2), .ref (sa + 3), .ref (sa + 4), .ref (sa + 5), .int (0), .ref (sa + 6), .ref (sa + 7), .ref (sa + 8), .ref (sa + 9), .ref (sa + 10), .ref (sa + 11), .ref (sa + 12), .ref (sa + 13), .ref (sa + 14), .ref (sa + 15), .ref (sa + 16), .ref (sa + 17), .ref (sa + 18), .ref (sa + 19), .ref (sa + 20), .ref (sa + 21), .ref (sa + 22), .int (0), .int (0)])), (sa + 1, aI (gC G 1) (3) (fun _ => 0)), (sa + 2, aI (gC G 1) (3) (fun _ => 0)), (sa + 3, aI (gC G 1) (2) (fun _ => 0)), (sa + 4, aI (gC G 0) (12) (fun _ => 0)), (sa + 5, aI (gC G 0) (12) (fun _ => 0)), (sa + 6, aI (gC G 0) (8) (fun _ => 0)), (sa + 7, aI (gC G 1) (8) (fun _ => 0)), (sa + 8, aI (gC G 0) (24) (fun _ => 0)), (sa + 9, aI (gC G 0) (24) (fun _ => 0)), (sa + 10, aI (gC G 0) (96) (fun _ => 0)), (sa + 11, aI (gC G 0) (72) (fun _ => 0)), (sa + 12, aI (gC G 0) (72) (fun _ => 0)), (sa + 13, aI (gC G 0) (72) (fun _ => 0)), (sa + 14, aI (gC G 0) (16) (fun _ => 0)), (sa + 15, aI (gC G 1) (16) (fun _ => 0)), (sa + 16, aI (gC G 0) (16) (fun _ => 0)), (sa + 17, aI (gC G 1) (48) (fun _ => 0)), (sa + 18, aI (gC G 0) (144) (fun _ => 0)), (sa + 19, aI (gC G 0) (144) (fun _ => 0)), (sa + 20, aI (gC G 0) (144) (fun _ => 0)), (sa + 21, aI (gC G 0) (144) (fun _ => 0)), (sa + 22, aI (gC G 0) (793) (fun _ => 0))] ++ T0) H locs := ⟨h1, h2, h3⟩
  refine lv_aload_n hx hb d_Mo_init_182 rfl (lv_at hl 0 rfl) ?_
  refine lv_iload_n hx hb d_Mo_init_183 rfl (lv_at hl 1 rfl) ?_
  refine lv_if_ne (tgt := 191) hx hb d_Mo_init_184 (by decide) (fun c_1 => ?_) (fun c_1 => ?_)
  · skip
    refine lv_iconst (v := 3) hx hb d_Mo_init_191 (by decide) ?_
    refine va_putF hx hb hts i_Mo t_Mo t_Mo_ok n_Mo hown hK hW.1 hW.2.1 hW.2.2 0 rfl rfl 1 (by decide) (hts _ kw_404) (fun _ h => h) rfl hini rfl (t_Mo_ok 1 (by decide)) rfl rfl (Nat.le_of_ble_eq_true rfl) d_Mo_init_192 (fun H locs h1 h2 h3 => ?_)
    have hW : WW G zs.heap ([(sa, .inr (iMo, [.int (0), .int (3), .ref (sa + 1), .ref (sa + 2), .ref (sa + 3), .ref (sa + 4), .ref (sa + 5), .int (0), .ref (sa + 6), .ref (sa + 7), .ref (sa + 8), .ref (sa + 9), .ref (sa + 10), .ref (sa + 11), .ref (sa + 12), .ref (sa + 13), .ref (sa + 14), .ref (sa + 15), .ref (sa + 16), .ref (sa + 17), .ref (sa + 18), .ref (sa + 19), .ref (sa + 20), .ref (sa + 21), .ref (sa + 22), .int (0), .int (0)])), (sa + 1, aI (gC G 1) (3) (fun _ => 0)), (sa + 2, aI (gC G 1) (3) (fun _ => 0)), (sa + 3, aI (gC G 1) (2) (fun _ => 0)), (sa + 4, aI (gC G 0) (12) (fun _ => 0)), (sa + 5, aI (gC G 0) (12) (fun _ => 0)), (sa + 6, aI (gC G 0) (8) (fun _ => 0)), (sa + 7, aI (gC G 1) (8) (fun _ => 0)), (sa + 8, aI (gC G 0) (24) (fun _ => 0)), (sa + 9, aI (gC G 0) (24) (fun _ => 0)), (sa + 10, aI (gC G 0) (96) (fun _ => 0)), (sa + 11, aI (gC G 0) (72) (fun _ => 0)), (sa + 12, aI (gC G 0) (72) (fun _ => 0)), (sa + 13, aI (gC G 0) (72) (fun _ => 0)), (sa + 14, aI (gC G 0) (16) (fun _ => 0)), (sa + 15, aI (gC G 1) (16) (fun _ => 0)), (sa + 16, aI (gC G 0) (16) (fun _ => 0)), (sa + 17, aI (gC G 1) (48) (fun _ => 0)), (sa + 18, aI (gC G 0) (144) (fun _ => 0)), (sa + 19, aI (gC G 0) (144) (fun _ => 0)), (sa + 20, aI (gC G 0) (144) (fun _ => 0)), (sa + 21, aI (gC G 0) (144) (fun _ => 0)), (sa + 22, aI (gC G 0) (793) (fun _ => 0))] ++ T0) H locs := ⟨h1, h2, h3⟩
    have hWo : ∀ q ∈ wMoI3 G (σ + 392), va_at G.1 gcl q H := by rw [← hsa]; exact fun q hq => va_P_mem.mp hW.1 q (List.mem_append_left _ hq)
    have hWt : ∀ q ∈ T0, va_at G.1 gcl q H := fun q hq => va_P_mem.mp hW.1 q (List.mem_append_right _ hq)
    have hW : WD G zs.heap (dI 3) H locs := WD_of hF (by decide) (Or.inl rfl) hW.2.2 (fun c hc h0 => mo_cases3 hF hc h0 (hT H hWt) (fun h6 => moc3 hF hWo hc h6))
    have esa : sa = gad G (600) := hsa.trans ((GF_gad hF _).trans (g3_Mo σ 0)).symm
    rw [esa] at hl
    have hl : lv_has ls 3 [(0, .ref (gad G (600))), (1, .int (f))] := hl
    refine lv_iconst (v := 0) hx hb d_Mo_init_195 (by decide) ?_
    refine lv_istore_n (lv' := [(2, .int (0)), (0, .ref (gad G (600))), (1, .int (f))]) hx hb d_Mo_init_196 rfl hl (by decide) rfl (fun ls hl => ?_)
    have L_197 : ∀ (N k : Nat), k ≤ 12 → 12 + 1 ≤ k + N → ∀ (H : Heap) (locs : List Loc) (ls : Array Slot), WD G zs.heap (lpFill (dI 3) 606 (-1) k) H locs → lv_has ls 3 [(2, .int (nI k)), (0, .ref (gad G (600))), (1, .int (f))] → W p l e { frames := 1, cells := 22, slots := 1873, locals := 30 } zs zm [.ref sa, .int (f)].toArray below meth zc H locs 22 1873 (MQ below (hQv G (fun H9 => va_P G.1 gcl (wl G (D0 3)) H9 ∧ va_D (gAb G) (wl G (D0 3)) ∧ Array.size H9 = sa + 23)) [.ref sa, .int (f)].toArray zs 22 1873 (gAb G)) (F0 zm 197 ls []) := by
      intro N
      induction N with
      | zero => intro k h1 h2; exact absurd h2 (by omega)
      | succ N ih_k =>
        intro k hi_k hN_k H locs ls hW hl
        refine lv_iload_n hx hb d_Mo_init_197 rfl (lv_at hl 0 rfl) ?_
        refine lv_bipush (v := 12) hx hb d_Mo_init_198 (by decide) ?_
        refine lv_icmp_ge (tgt := 216) hx hb d_Mo_init_200 (by decide) (fun c_2 => ?_) (fun c_2 => ?_)
        · skip
          have e_k : 12 = k := (lp_out rfl (by omega) hi_k c_2).symm
          subst e_k
          refine lv_iconst (v := 0) hx hb d_Mo_init_216 (by decide) ?_
          refine lv_istore_n (lv' := [(2, .int (0)), (0, .ref (gad G (600))), (1, .int (f))]) hx hb d_Mo_init_217 rfl hl (by decide) rfl (fun ls hl => ?_)
          have L_218 : ∀ (N k : Nat), k ≤ 72 → 72 + 1 ≤ k + N → ∀ (H : Heap) (locs : List Loc) (ls : Array Slot), WD G zs.heap (lpFill (lpFill (dI 3) 606 (-1) 12) 614 (-1) k) H locs → lv_has ls 3 [(2, .int (nI k)), (0, .ref (gad G (600))), (1, .int (f))] → W p l e { frames := 1, cells := 22, slots := 1873, locals := 30 } zs zm [.ref sa, .int (f)].toArray below meth zc H locs 22 1873 (MQ below (hQv G (fun H9 => va_P G.1 gcl (wl G (D0 3)) H9 ∧ va_D (gAb G) (wl G (D0 3)) ∧ Array.size H9 = sa + 23)) [.ref sa, .int (f)].toArray zs 22 1873 (gAb G)) (F0 zm 218 ls []) := by
            intro N
            induction N with
            | zero => intro k h1 h2; exact absurd h2 (by omega)
            | succ N ih_k =>
              intro k hi_k hN_k H locs ls hW hl
              refine lv_iload_n hx hb d_Mo_init_218 rfl (lv_at hl 0 rfl) ?_
              refine lv_bipush (v := 72) hx hb d_Mo_init_219 (by decide) ?_
              refine lv_icmp_ge (tgt := 237) hx hb d_Mo_init_221 (by decide) (fun c_3 => ?_) (fun c_3 => ?_)
              · skip
                have e_k : 72 = k := (lp_out rfl (by omega) hi_k c_3).symm
                subst e_k
                refine lv_iconst (v := 0) hx hb d_Mo_init_237 (by decide) ?_
                refine lv_istore_n (lv' := [(2, .int (0)), (0, .ref (gad G (600))), (1, .int (f))]) hx hb d_Mo_init_238 rfl hl (by decide) rfl (fun ls hl => ?_)
                refine lv_iload_n hx hb d_Mo_init_239 rfl (lv_at hl 0 rfl) ?_
                refine lv_iconst (v := 2) hx hb d_Mo_init_240 (by decide) ?_
                refine lv_icmp_ge (tgt := 255) hx hb d_Mo_init_241 (by decide) (fun c_4 => ?_) (fun c_4 => ?_)
                · exact absurd c_4 (by decide)
                · skip
                  refine lv_aload_n hx hb d_Mo_init_244 rfl (lv_at hl 1 rfl) ?_
                  refine lv_iload_n hx hb d_Mo_init_245 rfl (lv_at hl 0 rfl) ?_
                  refine e_cv (e_runV hx hb hml hown hts hE hbs hW (F_Mo G hG) rfl (c_M_forget l G hG (lpFill (lpFill (dI 3) 606 (-1) 12) 614 (-1) 72) 0 (by decide)) kw_512 kw_513 kw_514 kw_412 kw_511 rfl rfl hd_Mo_forget ⟨Nat.le_of_ble_eq_true rfl, Nat.le_of_ble_eq_true rfl⟩ (As := [.int (0)]) (rest := []) rfl hl.1 rfl (Nat.le_of_ble_eq_true rfl) d_Mo_init_246 ⟨Nat.le_of_ble_eq_true rfl, Nat.le_of_ble_eq_true rfl⟩) hW (fun d' H locs hp hW => ?_)
                  have hp := hp.symm; subst hp
                  refine lv_iinc (v := 1) (lv' := [(2, .int (1)), (0, .ref (gad G (600))), (1, .int (f))]) hx hb d_Mo_init_249 hl (k := 0) rfl (by decide) (by decide) rfl (fun ls hl => ?_)
                  refine lv_goto (tgt := 239) hx hb d_Mo_init_252 (by decide) ?_
                  refine lv_iload_n hx hb d_Mo_init_239 rfl (lv_at hl 0 rfl) ?_
                  refine lv_iconst (v := 2) hx hb d_Mo_init_240 (by decide) ?_
                  refine lv_icmp_ge (tgt := 255) hx hb d_Mo_init_241 (by decide) (fun c_5 => ?_) (fun c_5 => ?_)
                  · exact absurd c_5 (by decide)
                  · skip
                    refine lv_aload_n hx hb d_Mo_init_244 rfl (lv_at hl 1 rfl) ?_
                    refine lv_iload_n hx hb d_Mo_init_245 rfl (lv_at hl 0 rfl) ?_
                    refine e_cv (e_runV hx hb hml hown hts hE hbs hW (F_Mo G hG) rfl (c_M_forget l G hG (m_fgt (lpFill (lpFill (dI 3) 606 (-1) 12) 614 (-1) 72) 0) 1 (by decide)) kw_512 kw_513 kw_514 kw_412 kw_511 rfl rfl hd_Mo_forget ⟨Nat.le_of_ble_eq_true rfl, Nat.le_of_ble_eq_true rfl⟩ (As := [.int (1)]) (rest := []) rfl hl.1 rfl (Nat.le_of_ble_eq_true rfl) d_Mo_init_246 ⟨Nat.le_of_ble_eq_true rfl, Nat.le_of_ble_eq_true rfl⟩) hW (fun d' H locs hp hW => ?_)
                    have hp := hp.symm; subst hp
                    refine lv_iinc (v := 2) (lv' := [(2, .int (2)), (0, .ref (gad G (600))), (1, .int (f))]) hx hb d_Mo_init_249 hl (k := 0) rfl (by decide) (by decide) rfl (fun ls hl => ?_)
                    refine lv_goto (tgt := 239) hx hb d_Mo_init_252 (by decide) ?_
                    refine lv_iload_n hx hb d_Mo_init_239 rfl (lv_at hl 0 rfl) ?_
                    refine lv_iconst (v := 2) hx hb d_Mo_init_240 (by decide) ?_
                    refine lv_icmp_ge (tgt := 255) hx hb d_Mo_init_241 (by decide) (fun c_6 => ?_) (fun c_6 => ?_)
                    · skip
                      refine W_sz (fun hzu => ?_)
                      have hzl := WD_lt hW (F_Mnet G hG).1
                      rw [show gad G 624 = _ from (GF_gad hF _).trans (g3_Mnet σ 0)] at hzl
                      exact h_vret hx hb hr hlk hW.2.2 ⟨hW.1, hW.2.1, sz_eq hzu hz0 hzl rfl (by rw [hsa])⟩ (Nat.le_of_ble_eq_true rfl) (Nat.le_of_ble_eq_true rfl) d_Mo_init_255
                    · exact absurd c_6 (by decide)
              · skip
                have lt_k : k < 72 := lp_in rfl (by omega) hi_k c_3
                refine lv_aload_n hx hb d_Mo_init_224 rfl (lv_at hl 1 rfl) ?_
                refine e_get (v := .ref (gad G (614))) hx hb hts hown hK hW (F_Mo G hG) i_Mo rfl 14 (by decide) (hts _ kw_442) (fun _ h => h) rfl d_Mo_init_225 ?_
                refine lv_iload_n hx hb d_Mo_init_228 rfl (lv_at hl 0 rfl) ?_
                refine lv_iconst (v := -1) hx hb d_Mo_init_229 (by decide) ?_
                refine e_iast hx hb hK hW (F_MtakenBallot G hG) (j := k) (by omega) rfl d_Mo_init_230 (fun H locs hW => ?_)
                refine lv_iinc (v := nI (k + 1)) (lv' := [(2, .int (nI (k + 1))), (0, .ref (gad G (600))), (1, .int (f))]) hx hb d_Mo_init_231 hl (k := 0) rfl (nI_1 (k)) (by decide) rfl (fun ls hl => ?_)
                refine lv_goto (tgt := 218) hx hb d_Mo_init_234 (by decide) ?_
                exact ih_k (k + 1) (by omega) (by omega) _ _ _ hW (lv_sub hl [0, 1, 2] rfl)
          exact L_218 (72 + 1) 0 (by omega) (by omega) _ _ _ hW (lv_sub hl [0, 1, 2] rfl)
        · skip
          have lt_k : k < 12 := lp_in rfl (by omega) hi_k c_2
          refine lv_aload_n hx hb d_Mo_init_203 rfl (lv_at hl 1 rfl) ?_
          refine e_get (v := .ref (gad G (606))) hx hb hts hown hK hW (F_Mo G hG) i_Mo rfl 6 (by decide) (hts _ kw_409) (fun _ h => h) rfl d_Mo_init_204 ?_
          refine lv_iload_n hx hb d_Mo_init_207 rfl (lv_at hl 0 rfl) ?_
          refine lv_iconst (v := -1) hx hb d_Mo_init_208 (by decide) ?_
          refine e_iast hx hb hK hW (F_Mlock G hG) (j := k) (by omega) rfl d_Mo_init_209 (fun H locs hW => ?_)
          refine lv_iinc (v := nI (k + 1)) (lv' := [(2, .int (nI (k + 1))), (0, .ref (gad G (600))), (1, .int (f))]) hx hb d_Mo_init_210 hl (k := 0) rfl (nI_1 (k)) (by decide) rfl (fun ls hl => ?_)
          refine lv_goto (tgt := 197) hx hb d_Mo_init_213 (by decide) ?_
          exact ih_k (k + 1) (by omega) (by omega) _ _ _ hW (lv_sub hl [0, 1, 2] rfl)
    exact L_197 (12 + 1) 0 (by omega) (by omega) _ _ _ hW (lv_sub hl [0, 1, 2] rfl)
  · skip
    exact absurd c_1 hf
