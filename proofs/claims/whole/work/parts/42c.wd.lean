theorem Cs_ok {G : GT} {c : Nat} (hc : c ∈ Cs G) : okc (gn G) c ∧ gad G c ≠ 0 := @of_decide_eq_true _ (Classical.propDecidable _) (List.mem_filter.mp hc).2
theorem gad_inj {n σ z : Nat} {G : GT} (hF : GF n σ z G) (hn : n = 1 ∨ n = 3) (hz : z = 0 ∨ σ + (262 + 51 * n) ≤ z) {c c' : Nat} (hc : c ∈ Cs G) (hc' : c' ∈ Cs G) (e : gad G c = gad G c') : c = c' := by
  have key : ∀ x, x ∈ Cs G → okc n x ∧ gad G x ≠ 0 := fun x hx => by
    have := Cs_ok hx
    rw [hF.2.1] at this
    exact this
  have k700 : ∀ x, okc n x → x < 700 := fun x h => by unfold okc at h; omega
  obtain ⟨o1, p1⟩ := key c hc
  obtain ⟨o2, p2⟩ := key c' hc'
  have l : ∀ x, okc n x → x ≠ 9 → (if n = 1 then tb1 else tb3).getD (offN n x) 999 = x ∧ offN n x < 262 + 51 * n := fun x h h9 => by
    rcases hn with rfl | rfl
    · have := iv1 x (k700 x h) (okb_of h) h9
      exact ⟨this.1, by omega⟩
    · have := iv3 x (k700 x h) (okb_of h) h9
      exact ⟨this.1, by omega⟩
  rw [GF_gad hF, GF_gad hF] at e
  rw [GF_gad hF] at p1 p2
  unfold gadF at e p1 p2
  by_cases a : c = 9
  · by_cases b : c' = 9
    · rw [a, b]
    · rw [if_pos a, if_neg b] at e
      rw [if_pos a] at p1
      have := (l c' o2 b).2
      omega
  · by_cases b : c' = 9
    · rw [if_neg a, if_pos b] at e
      rw [if_pos b] at p2
      have := (l c o1 a).2
      omega
    · rw [if_neg a, if_neg b] at e
      have e' : offN n c = offN n c' := by omega
      have h1 := (l c o1 a).1
      rw [e', (l c' o2 b).1] at h1
      exact h1.symm
theorem gad_ge {n σ z : Nat} {G : GT} (hF : GF n σ z G) (hz : z = 0 ∨ σ + (262 + 51 * n) ≤ z) {c : Nat} (hc : c ∈ Cs G) : gbase G ≤ gad G c := by
  have hp := (Cs_ok hc).2
  rw [hF.2.2.1]
  rw [GF_gad hF] at hp ⊢
  unfold gadF at hp ⊢
  split at hp
  · rename_i h; rw [if_pos h]; omega
  · rename_i h; rw [if_neg h]; omega
/-- the world out of what lies in its cells -/
theorem WD_of {n σ z : Nat} {G : GT} (hF : GF n σ z G) (hn : n = 1 ∨ n = 3) (hz : z = 0 ∨ σ + (262 + 51 * n) ≤ z) {H0 H : Heap} {d : DD} {locs : List Loc} (hS : va_S (gAb G) H0 H locs) (h : ∀ c, okc n c → gad G c ≠ 0 → va_at G.1 gcl (gad G c, en G d c) H) : WD G H0 d H locs := by
  refine ⟨va_P_mem.mpr (fun q hq => ?_), va_D_nd.mpr ⟨?_, fun q hq => ?_⟩, hS⟩
  · obtain ⟨c, hc, rfl⟩ := List.mem_map.mp hq
    have := Cs_ok hc
    rw [hF.2.1] at this
    exact h c this.1 this.2
  · rw [wl, List.map_map, List.nodup_iff_pairwise_ne, List.pairwise_map]
    have hnd : (Cs G).Nodup := List.Nodup.sublist List.filter_sublist List.nodup_range
    rw [List.nodup_iff_pairwise_ne] at hnd
    exact List.Pairwise.imp_of_mem (fun {a b} ha hb hne e => hne (gad_inj hF hn hz ha hb e)) hnd
  · obtain ⟨c, hc, rfl⟩ := List.mem_map.mp hq
    exact gad_ge hF hz hc
theorem WD_at {G : GT} {H0 H : Heap} {d : DD} {locs : List Loc} (hW : WD G H0 d H locs) {c : Nat} (hc : okc (gn G) c) (h9 : c < 900) (hg : gad G c ≠ 0) : va_at G.1 gcl (gad G c, en G d c) H := by
  obtain ⟨k, hk⟩ := wl_get (G := G) (d := d) (mem_Cs h9 hc hg)
  exact hW.1 k _ hk
/-- what stands in a cell asks nothing of the law's own row -/
theorem ec_cg {G1 G0 : GT} (h1 : G1.2.1 = G0.2.1) (h2 : gn G1 = gn G0) (hg : ∀ x, x ≠ 9 → gad G1 x = gad G0 x) (c : Nat) (r : Nat → Int32) : ec G1 c r = ec G0 c r := by
  have hk : ∀ k, 10 ≤ k → ∀ x, gad G1 (x + k) = gad G0 (x + k) := fun k hk x => hg _ (by omega)
  have hC : ∀ k, gC G1 k = gC G0 k := fun k => congrFun h1 k
  have a10 := hk 10 (by decide); have a20 := hk 20 (by decide); have a30 := hk 30 (by decide); have a40 := hk 40 (by decide); have a50 := hk 50 (by decide); have a60 := hk 60 (by decide); have a70 := hk 70 (by decide); have a100 := hk 100 (by decide); have a130 := hk 130 (by decide); have a160 := hk 160 (by decide); have a200 := hk 200 (by decide); have a280 := hk 280 (by decide); have a350 := hk 350 (by decide); have a420 := hk 420 (by decide)
  unfold ec fsPC fsNet fsMo
  simp only [hC, h2, a10, a20, a30, a40, a50, a60, a70, a100, a130, a160, a200, a280, a350, a420, hg 1 (by decide), hg 2 (by decide), hg 3 (by decide), hg 4 (by decide), hg 5 (by decide), hg 6 (by decide), hg 7 (by decide), hg 8 (by decide), hg 480 (by decide), hg 481 (by decide), hg 602 (by decide), hg 603 (by decide), hg 604 (by decide), hg 605 (by decide), hg 606 (by decide), hg 608 (by decide), hg 609 (by decide), hg 610 (by decide), hg 611 (by decide), hg 612 (by decide), hg 613 (by decide), hg 614 (by decide), hg 615 (by decide), hg 616 (by decide), hg 617 (by decide), hg 618 (by decide), hg 619 (by decide), hg 620 (by decide), hg 621 (by decide), hg 622 (by decide), hg 623 (by decide), hg 624 (by decide)]
theorem en_cg {G1 G0 : GT} (h1 : G1.2.1 = G0.2.1) (h2 : gn G1 = gn G0) (hg : ∀ x, x ≠ 9 → gad G1 x = gad G0 x) (d : DD) (c : Nat) : en G1 d c = en G0 d c := ec_cg h1 h2 hg c (d c)
