/-! Rows for constructors: what is made lies at the heap's end, one behind the other. -/
section KR
variable {p : Program} {l : Launch} {e : Env} {R : Room} {s : State} {m : MethodId} {args : Array Value} {below : List Frame} {meth : Method} {c : Code} {H : Heap} {locs : List Loc} {cells slots : Nat} {Q : State → Prop}
variable {cc : ByteArray} {pc : Nat} {ls : Array Slot} {rest : List Value} {G : GT} {index : Nat} {own : String}
theorem W_sz {g : JFrame} (k : H.size ≤ s.heap.size + cells → W p l e R s m args below meth c H locs cells slots Q g) : W p l e R s m args below meth c H locs cells slots Q g := fun T hT X => k (by rw [← hT]; exact X.heapSize) T hT X
theorem W_n {c1 s1 : Nat} {g : JFrame} (hc : cells = c1) (hs : slots = s1) (k : W p l e R s m args below meth c H locs c1 s1 Q g) : W p l e R s m args below meth c H locs cells slots Q g := by subst hc; subst hs; exact k
/-- int[n][k] -/
theorem h_mna (hx : p.tables.exec = Jvm.exec) (hb : c.code = cc) (hts : ∀ w ∈ WS, w.before args s = true) (hown : s.vm.findClass own = some m.cls) (k1 : Cond.classLink own index "[[I" ∈ WS) (k2 : Cond.arrayClass .int ∈ WS) (hE : EnvP G s) (hS : va_S (gAb G) s.heap H locs)
    {n k : Int32} {N' K' : Nat} (hn : ¬ n < 0) (hk : ¬ k < 0) (hN : n.toNatClampNeg = N') (hM : k.toNatClampNeg = K') (hb1 : N' * 4 ≤ 536870912) (hb2 : K' * componentBytes .int ≤ 536870912) (hb3 : K' ≤ 536870912) (hcells : cells + (1 + N') ≤ R.cells) (hslots : slots + (N' + N' * K') ≤ R.slots) (hdg : decode cc pc = .ok (.multianewarray index 2, 4))
    (kk : ∀ (H1 : Heap), va_at G.1 gcl (H.size, aR (gC G 3) N' (fun i => if i < N' then some (H.size + 1 + i) else none)) H1 → (∀ i, i < N' → va_at G.1 gcl (H.size + 1 + i, aI (gC G 0) K' (fun _ => 0)) H1) → H1.size = H.size + 1 + N' → (∀ q, q < H.size → H1[q]? = H[q]?) → va_S (gAb G) s.heap H1 locs →
      W p l e R s m args below meth c H1 locs (cells + 1 + N') (slots + N' + N' * K') Q (F0 m (pc + 4) ls (.ref H.size :: rest))) : W p l e R s m args below meth c H locs cells slots Q (F0 m pc ls (.int k :: .int n :: rest)) := by
  subst hN
  subst hM
  intro T hT Xs
  have hE2 := hE.2.2.2.2.2.2.2.2.2.2.2.2.2.2
  obtain ⟨vm₁, cA, comp, -, fA, fC, -, -, X', step⟩ := Xs.multianewarray2F hx hown (ty := .int) (hts _ k1) (va_AOA.use hE2.2.2.1) (hts _ k2) (g := F0 m pc ls (.int k :: .int n :: rest)) rfl (by rw [hb]; exact hdg) rfl hn hk hb1 hb2 hb3 rfl rfl hcells hslots
  have eA : cA = gC G 3 := Option.some.inj (fA.symm.trans (hE2.1 ("[[I", 3) (List.mem_of_getElem? (i := 3) rfl)))
  have eC : comp = gC G 0 := Option.some.inj (fC.symm.trans (hE2.1 ("[I", 0) (List.mem_of_getElem? (i := 0) rfl)))
  subst eA
  subst eC
  generalize hF : Jvm.Free.Multi.fill (T.setVm vm₁) (gC G 3) (gC G 0) n.toNatClampNeg k.toNatClampNeg (defaultValue .int) n.toNatClampNeg = F at X' step
  have hTh : (T.setVm vm₁).heap = H := hT
  obtain ⟨f1, f2, -, -⟩ := Jvm.Free.Multi.fill_facts (T.setVm vm₁) (gC G 3) (gC G 0) n.toNatClampNeg k.toNatClampNeg (defaultValue .int) n.toNatClampNeg
  rw [hF, hTh] at f1 f2
  have hold : ∀ x : Nat, x < H.size → F.heap[x]? = H[x]? := fun x hx => by
    have := Jvm.Free.Multi.fill_old (T.setVm vm₁) (gC G 3) (gC G 0) n.toNatClampNeg k.toNatClampNeg (defaultValue .int) (a := x) (by rw [hTh]; exact hx) n.toNatClampNeg
    rw [hF, hTh] at this
    exact this
  have hrow : ∀ j : Nat, j < n.toNatClampNeg → F.heap[H.size + 1 + j]? = some (vp_cell (gC G 0) (k.toNatClampNeg, .inl (fun _ => 0))) := fun j hj => by
    have := Jvm.Free.Multi.fill_inner (T.setVm vm₁) (gC G 3) (gC G 0) n.toNatClampNeg k.toNatClampNeg (defaultValue .int) n.toNatClampNeg j hj
    rw [hF, hTh] at this
    rw [this]
    first | rfl | (rw [vp_cell_i]; exact congrArg some (arrV_new _ _ _).symm) | (rw [vp_cell_i]; exact congrArg some (arrV_new _ _ _)) | (rw [vp_cell_i, ← arrV_new]; rfl)
  have hout : Jvm.Free.Multi.outerC (gC G 3) n.toNatClampNeg H.size n.toNatClampNeg = vp_cell (gC G 3) (n.toNatClampNeg, .inr (.inr (.inr (.inr (fun i => if i < n.toNatClampNeg then some (H.size + 1 + i) else none))))) := by
    rw [vp_cell_q]
    exact vr_outer (gC G 3) n.toNatClampNeg H.size n.toNatClampNeg
  rw [hout] at f2
  obtain ⟨t, a1, b1⟩ := kk F.heap f2 (fun i hi => hrow i hi) f1 hold ⟨Nat.le_trans hS.1 (by rw [f1]; omega), fun x h1 h2 => (hold x (Nat.lt_of_lt_of_le h1 hS.1)).trans (hS.2.1 x h1 h2), hS.2.2⟩ F rfl X'
  exact ⟨t, step t (by rw [show T.heap.size = H.size by rw [hT]]; exact a1), b1⟩
end KR
/-- how a constructor begins -/
theorem h_startI {l : Launch} {G : GT} {y : MethodName} {own : String} {cc : ByteArray} {maxL : Nat} {ret : Option FieldType} {rm : Room} {av : List Value} {I : Heap → Prop} {Qc : Array Value → State → Outcome → State → Prop} {mc ms : Nat} (hy : plainFor y = true) (hown : y.cls = own) (hlen : (lg_sl av).length ≤ maxL)
    (body : ∀ (p : Program) (e : Env) (s : State) (m : MethodId) (below : List Frame) (meth : Method) (c : Code) (ls : Array Slot), meth.name = y.name → CX G own cc maxL ret p s m av.toArray meth c → I s.heap → lv_has ls maxL (lv_args 0 av) → W p l e rm s m av.toArray below meth c s.heap [] 0 0 (MQ below Qc av.toArray s mc ms (gAb G)) (F0 m 0 ls [])) : Met l y (.code y cc maxL ret :: WS) rm (hPre G av I) Qc mc ms (gAb G) := by
  refine va_MetF (cc := cc) (maxL := maxL) (ret := ret) hy rfl ?_
  intro p e s m args below meth c s₁ B hml hv
  obtain ⟨rfl, hE, hbs, hI⟩ := hv
  have hts := atoms_spec (ws := .code y cc maxL ret :: WS) B.pre
  have ho : s.vm.findClass y.cls = some m.cls := findClass_of_methodNamed B.named
  have hnm : meth.name = y.name := (name_of_methodNamed B.named B.method).1
  rw [hown] at ho
  rw [lg_entry_eq]
  exact body p e s m below meth c _ hnm ⟨B.exec, B.bytes, B.returns, hml, ho, fun w h => hts w (List.mem_cons_of_mem _ h), B.notSynchronized, hE, hbs⟩ hI (lv_entry av hlen)
/-- a world is what is in it -/
theorem va_D_nd {A : Nat → Prop} {ws : va_W} : va_D A ws ↔ (ws.map Prod.fst).Nodup ∧ ∀ q ∈ ws, A q.1 := by
  constructor
  · intro h
    refine ⟨?_, fun q hq => ?_⟩
    · rw [List.nodup_iff_pairwise_ne, List.pairwise_iff_getElem]
      intro i j hi hj hij e
      rw [List.length_map] at hi hj
      rw [List.getElem_map, List.getElem_map] at e
      exact absurd (h.1 i j _ _ (List.getElem?_eq_getElem hi) (List.getElem?_eq_getElem hj) e) (by omega)
    · obtain ⟨i, hi⟩ := List.getElem?_of_mem hq
      exact h.2 i q hi
  · intro h
    refine ⟨fun i j x y hi hj e => ?_, fun k q hk => h.2 q (List.mem_of_getElem? hk)⟩
    have h1 : (ws.map Prod.fst)[i]? = some x.1 := by rw [List.getElem?_map, hi]; rfl
    have h2 : (ws.map Prod.fst)[j]? = some x.1 := by rw [List.getElem?_map, hj, e]; rfl
    have hil : i < (ws.map Prod.fst).length := (List.getElem?_eq_some_iff.mp h1).1
    exact (List.getElem?_inj hil h.1).mp (h1.trans h2.symm)
theorem va_P_mem {D : va_G} {cl : List vw_C} {ws : va_W} {H : Heap} : va_P D cl ws H ↔ ∀ q ∈ ws, va_at D cl q H := by
  constructor
  · intro h q hq
    obtain ⟨i, hi⟩ := List.getElem?_of_mem hq
    exact h i q hi
  · intro h k q hk
    exact h q (List.mem_of_getElem? hk)
theorem WW_perm {G : GT} {H0 H : Heap} {ws ws' : va_W} {locs : List Loc} (hp : ws.Perm ws') (hW : WW G H0 ws H locs) : WW G H0 ws' H locs :=
  ⟨va_P_mem.mpr (fun q hq => va_P_mem.mp hW.1 q (hp.mem_iff.mpr hq)), va_D_nd.mpr ⟨((hp.map Prod.fst).nodup_iff).mp (va_D_nd.mp hW.2.1).1, fun q hq => (va_D_nd.mp hW.2.1).2 q (hp.mem_iff.mpr hq)⟩, hW.2.2⟩
/-- a block that a callee has made -/
theorem WW_block {G : GT} {H0 H H1 : Heap} {ws wB : va_W} {locs locs1 : List Loc} {σ : Nat} (hW : WW G H0 ws H locs) (hlt : ∀ q ∈ ws, q.1 < σ) (hσ : gbase G ≤ σ) (hk : ∀ q, q < H.size → q < σ → H1[q]? = H[q]?) (hP : va_P G.1 gcl wB H1) (hD : va_D (fun q => σ ≤ q) wB) (hS : va_S (gAb G) H0 H1 locs1) : WW G H0 (ws ++ wB) H1 locs1 := by
  refine ⟨(hW.1.kept (fun k x hx => hk x.1 ((hW.1 k x hx).lt) (hlt x (List.mem_of_getElem? hx)))).app hP, va_D.app hW.2.1 ⟨hD.1, fun k q hq => Nat.le_trans hσ (hD.2 k q hq)⟩ (fun i j x y hx hy e => ?_), hS⟩
  have h1 := hlt x (List.mem_of_getElem? hx)
  have h2 := hD.2 j y hy
  rw [e] at h1
  exact absurd h2 (Nat.not_le.mpr h1)
theorem WW_lt {G : GT} {H0 H : Heap} {ws : va_W} {locs : List Loc} (hW : WW G H0 ws H locs) : ∀ q ∈ ws, q.1 < H.size := fun q hq => (va_P_mem.mp hW.1 q hq).lt
/-- only what lies in an array counts -/
theorem arrV_cg {c : ClassId} {n : Nat} {f g : Nat → Value} (h : ∀ j, j < n → f j = g j) : arrV c n f = arrV c n g := by
  unfold arrV
  congr 1
  apply Array.ext_getElem?
  intro i
  by_cases hi : i < n <;> simp [hi, h i]
theorem at_cgI {D : va_G} {cl : List vw_C} {a n : Nat} {c : ClassId} {f g : Nat → Int32} {H : Heap} (h : ∀ j, j < n → f j = g j) (ha : va_at D cl (a, aI c n f) H) : va_at D cl (a, aI c n g) H := by
  have e : vp_cell c (n, .inl f) = vp_cell c (n, .inl g) := by
    rw [vp_cell_i, vp_cell_i]
    exact arrV_cg (fun j hj => by rw [h j hj])
  show H[a]? = some (vp_cell c (n, .inl g))
  rw [← e]
  exact ha
theorem at_cgR {D : va_G} {cl : List vw_C} {a n : Nat} {c : ClassId} {f g : Nat → Option Nat} {H : Heap} (h : ∀ j, j < n → f j = g j) (ha : va_at D cl (a, aR c n f) H) : va_at D cl (a, aR c n g) H := by
  have e : vp_cell c (n, .inr (.inr (.inr (.inr f)))) = vp_cell c (n, .inr (.inr (.inr (.inr g)))) := by
    rw [vp_cell_q, vp_cell_q]
    exact arrV_cg (fun j hj => by rw [h j hj])
  show H[a]? = some (vp_cell c (n, .inr (.inr (.inr (.inr g)))))
  rw [← e]
  exact ha
