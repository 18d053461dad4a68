/-! The texts beside each other. -/
theorem neg256 : ∀ c, c < 256 → ¬ 0 ≤ -(nI c) - 1 ∧ -(-(nI c) - 1) - 1 = nI c := by decide +kernel
theorem psL_neg {l : Int32} (h : ¬ 0 ≤ l) : ∀ L, psL l L = l
  | [] => rfl
  | c :: L => by
    show psL (psI l (nI c)) L = l
    rw [show psI l (nI c) = l from if_neg h]
    exact psL_neg h L
theorem psL_app : ∀ (A B : List Nat) (l : Int32), psL l (A ++ B) = psL (psL l A) B
  | [], B, l => rfl
  | c :: A, B, l => psL_app A B (psI l (nI c))
theorem psL_key : ∀ (L : List Nat) (k : Nat), (∀ c ∈ L, c < 256) → k < 2 ^ 31 → psL (nI k) L = if k < L.length then -(nI (L.getD k 0)) - 1 else nI (k - L.length)
  | [], k, _, _ => rfl
  | c :: L, 0, hL, _ => by
    show psL (psI (nI 0) (nI c)) L = _
    have hc := neg256 c (hL c List.mem_cons_self)
    have e : psI (nI 0) (nI c) = -(nI c) - 1 := by unfold psI; rw [if_pos (by decide), if_pos (by decide)]
    rw [e, psL_neg hc.1, if_pos (by simp)]
    rfl
  | c :: L, k + 1, hL, hk => by
    show psL (psI (nI (k + 1)) (nI c)) L = _
    have e : psI (nI (k + 1)) (nI c) = nI k := by
      unfold psI
      rw [if_pos (nI_pos' hk), if_neg (nI_ne0 (by omega) hk)]
      exact nI_pred k
    rw [e, psL_key L k (fun x hx => hL x (List.mem_cons_of_mem _ hx)) (by omega)]
    by_cases h : k < L.length
    · rw [if_pos h, if_pos (by simp; omega)]
      rfl
    · rw [if_neg h, if_neg (by simp; omega)]
      exact congrArg nI (by simp)
theorem peI_rd {L : List Nat} {k : Nat} (hL : ∀ c ∈ L, c < 256) (hk : k < 2 ^ 31) : peI (psL (nI k) L) = rdI L (nI k) := by
  rw [psL_key L k hL hk]
  unfold peI
  by_cases h : k < L.length
  · rw [rd_in hk h, if_pos h]
    have hc : L.getD k 0 < 256 := by
      have e : L.getD k 0 = L[k] := by simp [List.getD, h]
      rw [e]
      exact hL _ (List.getElem_mem h)
    rw [if_neg (neg256 _ hc).1]
    exact (neg256 _ hc).2
  · rw [rd_out hk h, if_neg h, if_pos (nI_pos' (by omega))]
theorem dgl_mem {v : Nat} (hv : v < 10000) : ∀ c ∈ dgl v, c < 256 := by
  intro c hc
  unfold dgl at hc
  split at hc
  · simp at hc; omega
  · split at hc
    · simp at hc; omega
    · split at hc
      · simp at hc; omega
      · simp at hc; omega
theorem prt_mem {w : Nat} {x : Int32} (hw : w < 256) (h : nmB 10000 x) : ∀ c ∈ prt w x, c < 256 := by
  intro c hc
  unfold prt at hc
  split at hc
  · simp at hc
  · rcases h with h | ⟨v, hv, rfl⟩
    · contradiction
    · rw [nI_clamp (by omega)] at hc
      rcases List.mem_cons.mp hc with rfl | hc
      · exact hw
      · exact dgl_mem hv c hc
theorem vtl_mem {x : Int32} : ∀ c ∈ vtl x, c < 256 := by
  intro c hc
  unfold vtl at hc
  split at hc <;> simp at hc <;> omega
theorem rpl_mem {x : Int32} (h : nmB 20000 x) : ∀ c ∈ rpl x, c < 256 := by
  intro c hc
  unfold rpl at hc
  split at hc
  · simp at hc; omega
  · rcases h with h | ⟨v, hv, rfl⟩
    · contradiction
    · rw [balN (by omega), nI_clamp (by omega)] at hc
      rcases List.mem_append.mp hc with hc | hc
      · exact dgl_mem (by omega) c hc
      · exact vtl_mem c hc
theorem LTR_lt : ∀ k, k < 6 → LTR.getD k 0 < 256 := by decide +kernel
theorem txt_mem {d : DD} {q : Nat} (h : MsgTx d q) : ∀ c ∈ txt (d (q + 420)) (d (q + 490)), c < 256 := by
  obtain ⟨⟨k0, hk0, e0⟩, h1, h2, h3, h4, h5, h6⟩ := h
  intro c hc
  unfold txt at hc
  rcases List.mem_append.mp hc with hc | hc
  · rcases List.mem_append.mp hc with hc | hc
    · rcases List.mem_append.mp hc with hc | hc
      · rcases List.mem_append.mp hc with hc | hc
        · rcases List.mem_append.mp hc with hc | hc
          · rcases List.mem_append.mp hc with hc | hc
            · rcases List.mem_append.mp hc with hc | hc
              · rw [e0, nI_clamp (by omega), List.nil_append] at hc
                rw [List.mem_singleton.mp hc]
                exact LTR_lt k0 hk0
              · exact prt_mem (by decide) (nmB_mono h1 (by decide)) c hc
            · exact prt_mem (by decide) (nmB_mono h2 (by decide)) c hc
          · exact prt_mem (by decide) (nmB_mono h3 (by decide)) c hc
        · exact prt_mem (by decide) (nmB_mono h4 (by decide)) c hc
      · exact prt_mem (by decide) h5 c hc
    · split at hc
      · simp at hc
      · exact vtl_mem c hc
  · split at hc
    · rename_i e
      rcases List.mem_append.mp hc with hc | hc
      · rcases List.mem_append.mp hc with hc | hc
        · exact rpl_mem (h6 e 0 (by decide)) c hc
        · exact rpl_mem (h6 e 1 (by decide)) c hc
      · exact rpl_mem (h6 e 2 (by decide)) c hc
    · simp at hc
theorem ps_prt {l : Int32} {w : Nat} {x : Int32} (h : nmB 10000 x) : psL l (prt w x) = ppI l (nI w) x := by
  unfold prt ppI
  rcases h with rfl | ⟨v, hv, rfl⟩
  · rw [if_pos rfl, if_neg (by decide)]; rfl
  · rw [if_neg (nm_neg (by omega)), if_pos (nI_pos' (by omega))]; rfl
theorem ps_vtl {l v : Int32} (h : ∃ q : Nat, q ≤ 1 ∧ v = nI q) : psL l (vtl v) = pvI l v := by
  obtain ⟨q, hq, rfl⟩ := h
  unfold pvI vtl
  rw [if_pos (nI_pos' (by omega))]
  split <;> rfl
theorem ps_vt {l v : Int32} (h : v = -1 ∨ ∃ q : Nat, q ≤ 1 ∧ v = nI q) : psL l (if v = -1 then [] else vtl v) = pvI l v := by
  rcases h with rfl | h
  · rw [if_pos rfl]; rfl
  · rw [if_neg (by obtain ⟨q, hq, rfl⟩ := h; exact nm_neg (by omega))]
    exact ps_vtl h
theorem ps_rpl {B : Nat} (hB : B < 10000) {l x b v : Int32} (h : PK B x b v) : psL l (rpl x) = if 0 ≤ b then pvI (psL l (dgl b.toNatClampNeg)) v else psI l 45 := by
  rcases id h with ⟨rfl, rfl⟩ | ⟨bb, vv, h1, h2, rfl, rfl, rfl⟩
  · rfl
  · have hx : ¬ nI (2 * bb + vv) = -1 := nm_neg (by omega)
    rw [if_pos (nI_pos' (by omega))]
    unfold rpl
    rw [if_neg hx, PK_bal (by omega) h, PK_vot (by omega) h hx, psL_app]
    exact ps_vtl ⟨vv, h2, rfl⟩
theorem nmB_of {w n : Nat} {x : Int32} (h : ∃ q : Nat, q < n ∧ x = nI q) (hn : n ≤ w) : nmB w x := Or.inr (by obtain ⟨q, h1, h2⟩ := h; exact ⟨q, by omega, h2⟩)
theorem nmB_le {w n : Nat} {x : Int32} (h : ∃ q : Nat, q ≤ n ∧ x = nI q) (hn : n < w) : nmB w x := Or.inr (by obtain ⟨q, h1, h2⟩ := h; exact ⟨q, by omega, h2⟩)
theorem nmB_le1 {w n : Nat} {x : Int32} (h : ∃ q : Nat, 1 ≤ q ∧ q ≤ n ∧ x = nI q) (hn : n < w) : nmB w x := Or.inr (by obtain ⟨q, -, h1, h2⟩ := h; exact ⟨q, by omega, h2⟩)
theorem MSH_tx {n B : Nat} (hn : n ≤ 3) (hB : B < 10000) {kd t s a ld b v : Int32} (h : MSH n B kd t s a ld b v) : (∃ k0, k0 < 6 ∧ kd = nI k0 ∧ nI (LTR.getD k0 0) = kc kd) ∧ nmB 10 t ∧ nmB 10 s ∧ nmB 10 a ∧ nmB 10 ld ∧ nmB 10000 b ∧ (v = -1 ∨ ∃ q : Nat, q ≤ 1 ∧ v = nI q) := by
  rcases h with ⟨rfl, h1, h2, h3, h4, h5, h6⟩ | ⟨rfl, h1, h2, h3, h4, h5, h6⟩ | ⟨rfl, h1, h2, h3, h4, h5, h6⟩ | ⟨rfl, h1, h2, h3, h4, h5, h6⟩ | ⟨rfl, h1, h2, h3, h4, h5, h6⟩ | ⟨rfl, h1, h2, h3, h4, h5, h6⟩
  · exact ⟨⟨0, by decide, rfl, by decide⟩, nmB_of h1 (by decide), nmB_of h2 (by decide), Or.inl h3, Or.inl h4, Or.inl h5, Or.inl h6⟩
  · exact ⟨⟨1, by decide, rfl, by decide⟩, nmB_of h1 (by decide), Or.inl h2, nmB_of h3 (by omega), Or.inl h4, nmB_le1 h5 hB, Or.inl h6⟩
  · exact ⟨⟨2, by decide, rfl, by decide⟩, nmB_of h1 (by decide), Or.inl h2, nmB_of h3 (by omega), nmB_of h4 (by decide), nmB_le1 h5 hB, Or.inl h6⟩
  · exact ⟨⟨3, by decide, rfl, by decide⟩, nmB_of h1 (by decide), nmB_of h2 (by decide), nmB_of h3 (by omega), Or.inl h4, nmB_le h5 hB, Or.inr h6⟩
  · exact ⟨⟨4, by decide, rfl, by decide⟩, nmB_of h1 (by decide), nmB_of h2 (by decide), nmB_of h3 (by omega), nmB_of h4 (by decide), nmB_le h5 hB, Or.inr h6⟩
  · exact ⟨⟨5, by decide, rfl, by decide⟩, nmB_of h1 (by decide), nmB_of h2 (by decide), Or.inl h3, Or.inl h4, Or.inl h5, Or.inr h6⟩
theorem kc82 {kd : Int32} : kc kd = 82 ↔ kd = 2 := by
  unfold kc
  constructor
  · intro h
    split at h
    · exact absurd h (by decide)
    · split at h
      · exact absurd h (by decide)
      · split at h
        · assumption
        · split at h
          · exact absurd h (by decide)
          · split at h <;> exact absurd h (by decide)
  · rintro rfl; decide
theorem PK_20 {B : Nat} (hB : B < 9999) {x b v : Int32} (h : PK B x b v) : nmB 20000 x ∧ nmB 10000 b := by
  rcases h with ⟨rfl, rfl⟩ | ⟨bb, vv, h1, h2, rfl, rfl, rfl⟩
  · exact ⟨Or.inl rfl, Or.inl rfl⟩
  · exact ⟨Or.inr ⟨_, by omega, rfl⟩, Or.inr ⟨_, by omega, rfl⟩⟩
theorem MRR_tx {n B : Nat} (hn : n ≤ 3) (hB : B < 9999) {d : DD} {q : Nat} {μ : Nat → Int32} {b : Nat} (h : MRR n B (d (q + 420)) (d (q + 490)) μ b) : MsgTx d q := by
  obtain ⟨h1, h2, h3, h4⟩ := h
  obtain ⟨⟨k0, a1, a2, -⟩, b1, b2, b3, b4, b5, -⟩ := MSH_tx hn (by omega) h1
  exact ⟨⟨k0, a1, a2⟩, b1, b2, b3, b4, b5, fun e j hj => (PK_20 hB (h4 e j hj)).1⟩
theorem CR_tx {n B : Nat} {d m : DD} (hB : B < 9999) (h : CR n B d m) : ∀ i z, z ≤ 60 → d 5 1 = nI z → i < z → ∀ q, q < 60 → d 8 i = nI q → MsgTx d q := by
  have hn := CR_n h
  obtain ⟨-, -, z', hz', fz', -, hm⟩ := h.2
  intro i z hz fz hiz q hq fq
  obtain rfl : z' = z := (nI_eq (by omega) (by omega)).mp (fz'.symm.trans fz)
  exact MRR_tx (by omega) hB (hm i q hiz hq fq)
theorem CR_mtx {n B : Nat} {d m : DD} (hB : B < 9999) (h : CR n B d m) : ∀ i, i < cl (m 600 25) → MmTx m i := by
  have hn := CR_n h
  obtain ⟨hN, -, z, hz, fz, gz, hm⟩ := h.2
  intro i hi
  rw [gz, cl_nI (by omega)] at hi
  obtain ⟨q, hq, fq⟩ := hN.2.1 i (by omega)
  obtain ⟨h1, h2, h3, h4⟩ := hm i q hi hq fq
  obtain ⟨-, b1, b2, b3, b4, b5, -⟩ := MSH_tx (by omega) (by omega) h1
  refine ⟨fun k k1 k2 => ?_, fun e s hs => ?_⟩
  · rw [h3 k k1 (by omega)]
    rcases (show k = 1 ∨ k = 2 ∨ k = 3 ∨ k = 4 ∨ k = 5 by omega) with rfl | rfl | rfl | rfl | rfl
    · exact nmB_mono b1 (by decide)
    · exact nmB_mono b2 (by decide)
    · exact nmB_mono b3 (by decide)
    · exact nmB_mono b4 (by decide)
    · exact b5
  · have e2 : d (q + 420) 0 = 2 := kc82.mp (h2.symm.trans e)
    have := (PK_20 hB (h4 e2 s hs)).2
    rw [show 13 * i + (7 + s) = 13 * i + 7 + s by omega] at this
    exact this
theorem MRR_text {n B : Nat} (hn : n ≤ 3) (hB : B < 9999) {d m : DD} {q j k : Nat} (h : MRR n B (d (q + 420)) (d (q + 490)) (m 624) (13 * j)) (hk : k < 2 ^ 31) : mR_text m j (nI k) = rdI (txt (d (q + 420)) (d (q + 490))) (nI k) := by
  rw [← peI_rd (txt_mem (MRR_tx hn hB h)) hk]
  obtain ⟨h1, h2, h3, h4⟩ := h
  obtain ⟨⟨k0, a1, a2, a3⟩, b1, b2, b3, b4, b5, b6⟩ := MSH_tx hn (by omega) h1
  unfold mR_text
  refine congrArg peI ?_
  have hx : pxI m j (nI k) = psL (nI k) ([] ++ [LTR.getD (d (q + 420) 0).toNatClampNeg 0] ++ prt 116 (d (q + 420) 1) ++ prt 115 (d (q + 420) 2) ++ prt 97 (d (q + 420) 3) ++ prt 108 (d (q + 420) 4) ++ prt 98 (d (q + 420) 5) ++ (if d (q + 420) 6 = -1 then [] else vtl (d (q + 420) 6))) := by
    rw [psL_app, psL_app, psL_app, psL_app, psL_app, psL_app, ps_vt b6, ps_prt b5, ps_prt (nmB_mono b4 (by decide)), ps_prt (nmB_mono b3 (by decide)), ps_prt (nmB_mono b2 (by decide)), ps_prt (nmB_mono b1 (by decide))]
    unfold pxI
    rw [h3 1 (by decide) (by decide), h3 2 (by decide) (by decide), h3 3 (by decide) (by decide), h3 4 (by decide) (by decide), h3 5 (by decide) (by decide), h3 6 (by decide) (by decide), show m 624 (13 * j) = kc (d (q + 420) 0) from h2, ← a3, a2, nI_clamp (by omega)]
    rfl
  unfold pyI txt
  obtain ⟨T, hT⟩ : ∃ T : List Nat, T = ([] ++ [LTR.getD (d (q + 420) 0).toNatClampNeg 0] ++ prt 116 (d (q + 420) 1) ++ prt 115 (d (q + 420) 2) ++ prt 97 (d (q + 420) 3) ++ prt 108 (d (q + 420) 4) ++ prt 98 (d (q + 420) 5) ++ (if d (q + 420) 6 = -1 then [] else vtl (d (q + 420) 6))) := ⟨_, rfl⟩
  rw [← hT] at hx ⊢
  rw [show m 624 (13 * j) = kc (d (q + 420) 0) from h2, hx, psL_app]
  by_cases e : d (q + 420) 0 = 2
  · rw [if_pos (kc82.mpr e), if_pos e, psL_app, psL_app, ps_rpl (by omega) (h4 e 0 (by decide)), ps_rpl (by omega) (h4 e 1 (by decide)), ps_rpl (by omega) (h4 e 2 (by decide))]
    rfl
  · rw [if_neg (fun z => e (kc82.mp z)), if_neg e]
    rfl
def xcT : Option String → Int32
  | none => 0
  | some e => if e = IAE then 1 else 2
theorem A_text {n B : Nat} {d m : DD} (hB : B < 9999) (h : CR n B d m) (i k : Int32) : xcT (txX d i k) = mC_text m i k ∧ (txX d i k = none → rdI (txt (d (cl (d 8 (cl i)) + 420)) (d (cl (d 8 (cl i)) + 490))) k = mR_text m (cl i) k) := by
  have hn := CR_n h
  unfold txX mC_text
  by_cases c : 0 ≤ k
  · rw [if_pos c, if_pos c]
    rcases CR_msx h i with ⟨j, z, hz, hj, rfl, fz, gz, r, o⟩ | ⟨r, o⟩
    · rw [r]
      have o' : outI (nI j) (m 600 25) = 0 := by
        unfold mC_msg at o
        split at o
        · assumption
        · exact absurd o (by decide)
      rw [if_pos o']
      refine ⟨rfl, fun _ => ?_⟩
      obtain ⟨kk, hkk, rfl⟩ := nI_of (Int32.not_lt.mpr c)
      obtain ⟨-, -, z', hz', fz', -, hm⟩ := h.2
      obtain rfl : z' = z := (nI_eq (by omega) (by omega)).mp (fz'.symm.trans fz)
      obtain ⟨q, hq, fq⟩ := h.2.1.2.1 j (by omega)
      rw [cl_nI (by omega), fq, cl_nI (by omega)]
      exact (MRR_text (by omega) hB (hm j q hj hq fq) hkk).symm
    · rw [r]
      have o' : ¬ outI i (m 600 25) = 0 := by
        unfold mC_msg at o
        split at o
        · exact absurd o (by decide)
        · assumption
      rw [if_neg o']
      exact ⟨rfl, fun z => by cases z⟩
  · rw [if_neg c, if_neg c]
    exact ⟨rfl, fun z => by cases z⟩
