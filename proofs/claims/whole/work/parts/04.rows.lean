/-! Rows of my own over the kit: ONE world for everything, its cells told by numbers (wl), what they hold by d. -/
theorem up2_self {d : DD} {c k : Nat} {v : Int32} : up2 d c k v c k = v := by simp [up2]
theorem up2_nc {d : DD} {c k c' k' : Nat} {v : Int32} (h : c' ≠ c) : up2 d c k v c' k' = d c' k' := by simp [up2, h]
theorem up2_nk {d : DD} {c k c' k' : Nat} {v : Int32} (h : k' ≠ k) : up2 d c k v c' k' = d c' k' := by simp [up2, h]
theorem up2_off {d : DD} {c k c' : Nat} {v : Int32} (h : c' ≠ c) : up2 d c k v c' = d c' := funext fun k' => up2_nc h
theorem up2_row {d : DD} {c k : Nat} {v : Int32} : up2 d c k v c = upd (d c) k v := by
  funext k'
  by_cases h : k' = k
  · subst h; rw [up2_self, pk_us]
  · rw [up2_nk h, pk_un h]
theorem wl_get {G : GT} {d : DD} {c : Nat} (h : c ∈ Cs G) : ∃ k : Nat, (wl G d)[k]? = some (gad G c, en G d c) := List.getElem?_of_mem (List.mem_map.mpr ⟨c, h, rfl⟩)
theorem wl_set {G : GT} {A : Nat → Prop} {d d' : DD} {c k : Nat} {e' : va_E} (hD : va_D A (wl G d)) (hc : c ∈ Cs G) (hk : (wl G d)[k]? = some (gad G c, en G d c)) (he : en G d' c = e') (ho : ∀ c', c' ≠ c → d' c' = d c') : (wl G d).set k (gad G c, e') = wl G d' := by
  have hl := (List.getElem?_eq_some_iff.mp hk).1
  have key : ∀ j : Nat, (Cs G)[j]? = some c → j = k := by
    intro j hj
    have h2 : (wl G d)[j]? = some (gad G c, en G d c) := by rw [wl, List.getElem?_map, hj]; rfl
    exact hD.1 j k _ _ h2 hk rfl
  obtain ⟨i, hi⟩ := List.getElem?_of_mem hc
  have hik := key i hi
  subst hik
  apply List.ext_getElem?
  intro j
  by_cases hj : j = i
  · subst hj
    rw [List.getElem?_set_self hl, wl, List.getElem?_map, hi, ← he]
    rfl
  · rw [List.getElem?_set_ne (Ne.symm hj)]
    simp only [wl, List.getElem?_map]
    cases hb : (Cs G)[j]? with
    | none => rfl
    | some b =>
      have hbc : b ≠ c := fun q => hj (key j (by rw [hb, q]))
      simp only [Option.map_some, en]
      rw [ho b hbc]
theorem rw_at {x : Int32} {q : Nat} (h : x = nI q) (hq : q < 2 ^ 31) : x.toNatClampNeg + 420 = q + 420 := by rw [h, nI_clamp hq]
section EB
variable {p : Program} {l : Launch} {e : Env} {R : Room} {s : State} {m : MethodId} {args : Array Value} {below : List Frame} {meth : Method} {c : Code} {H : Heap} {locs : List Loc} {cells slots : Nat} {Q : State → Prop}
variable {cc : ByteArray} {pc : Nat} {ls : Array Slot} {rest : List Value} {G : GT} {H0 : Heap} {d : DD}
theorem e_top {x v : Int32} (h : x = v) (kk : W p l e R s m args below meth c H locs cells slots Q (F0 m pc ls (.int v :: rest))) : W p l e R s m args below meth c H locs cells slots Q (F0 m pc ls (.int x :: rest)) := by
  rw [h]; exact kk
theorem e_iald (hx : p.tables.exec = Jvm.exec) (hb : c.code = cc) (hK : va_K G.1 gcl (tys G) s) (hW : WD G H0 d H locs) {cn n : Nat} (hF : IA G cn n) {j : Nat} (hj : j < n) {x : Int32} (hv : d cn j = x) {i : Int32} (hi : i = nI j) (hdg : decode cc pc = .ok (.iaload, 1))
    (kk : W p l e R s m args below meth c H locs cells slots Q (F0 m (pc + 1) ls (.int x :: rest))) : W p l e R s m args below meth c H locs cells slots Q (F0 m pc ls (.int i :: .ref (gad G cn) :: rest)) := by
  obtain ⟨k, hk⟩ := wl_get (G := G) (d := d) hF.1
  subst hi
  refine va_iald hx hb hK hW.1 k 0 (cA := gC G 0) (n := n) (f := d cn) (by rw [hk, en, hF.2.2]) rfl (vp_in_nI hj hF.2.1) hdg ?_
  rw [nI_clamp (by have := hF.2.1; omega), hv]
  exact kk
theorem e_zald (hx : p.tables.exec = Jvm.exec) (hb : c.code = cc) (hK : va_K G.1 gcl (tys G) s) (hW : WD G H0 d H locs) {cn n : Nat} (hF : ZA G cn n) {j : Nat} (hj : j < n) {x : Int32} (hv : d cn j = x) {i : Int32} (hi : i = nI j) (hdg : decode cc pc = .ok (.baload, 1))
    (kk : W p l e R s m args below meth c H locs cells slots Q (F0 m (pc + 1) ls (.int x :: rest))) : W p l e R s m args below meth c H locs cells slots Q (F0 m pc ls (.int i :: .ref (gad G cn) :: rest)) := by
  obtain ⟨k, hk⟩ := wl_get (G := G) (d := d) hF.1
  subst hi
  refine va_zald hx hb hK hW.1 k 1 (cA := gC G 1) (n := n) (f := d cn) (by rw [hk, en, hF.2.2]) rfl (vp_in_nI hj hF.2.1) hdg ?_
  rw [nI_clamp (by have := hF.2.1; omega), hv]
  exact kk
theorem e_iast (hx : p.tables.exec = Jvm.exec) (hb : c.code = cc) (hK : va_K G.1 gcl (tys G) s) (hW : WD G H0 d H locs) {cn n : Nat} (hF : IA G cn n) {j : Nat} (hj : j < n) {i x : Int32} (hi : i = nI j) (hdg : decode cc pc = .ok (.iastore, 1))
    (kk : ∀ (H1 : Heap) (locs1 : List Loc), WD G H0 (up2 d cn j x) H1 locs1 → W p l e R s m args below meth c H1 locs1 cells slots Q (F0 m (pc + 1) ls rest)) : W p l e R s m args below meth c H locs cells slots Q (F0 m pc ls (.int x :: .int i :: .ref (gad G cn) :: rest)) := by
  obtain ⟨k, hk⟩ := wl_get (G := G) (d := d) hF.1
  subst hi
  refine va_iast hx hb hK hW.1 hW.2.1 hW.2.2 k 0 (cA := gC G 0) (n := n) (f := d cn) (by rw [hk, en, hF.2.2]) rfl (vp_in_nI hj hF.2.1) hdg (fun H1 locs1 h1 h2 h3 => kk H1 locs1 ?_)
  rw [nI_clamp (by have := hF.2.1; omega)] at h1 h2
  have he := wl_set (d' := up2 d cn j x) hW.2.1 hF.1 hk (by rw [en, hF.2.2, up2_row]) (fun c' h => up2_off h)
  rw [he] at h1 h2
  exact ⟨h1, h2, h3⟩
theorem e_zast (hx : p.tables.exec = Jvm.exec) (hb : c.code = cc) (hK : va_K G.1 gcl (tys G) s) (hW : WD G H0 d H locs) {cn n : Nat} (hF : ZA G cn n) {j : Nat} (hj : j < n) {i x : Int32} (hi : i = nI j) (h01 : x = 0 ∨ x = 1) (hdg : decode cc pc = .ok (.bastore, 1))
    (kk : ∀ (H1 : Heap) (locs1 : List Loc), WD G H0 (up2 d cn j x) H1 locs1 → W p l e R s m args below meth c H1 locs1 cells slots Q (F0 m (pc + 1) ls rest)) : W p l e R s m args below meth c H locs cells slots Q (F0 m pc ls (.int x :: .int i :: .ref (gad G cn) :: rest)) := by
  obtain ⟨k, hk⟩ := wl_get (G := G) (d := d) hF.1
  subst hi
  refine va_zast hx hb hK hW.1 hW.2.1 hW.2.2 k 1 (cA := gC G 1) (n := n) (f := d cn) (by rw [hk, en, hF.2.2]) rfl (vp_in_nI hj hF.2.1) hdg (fun H1 locs1 h1 h2 h3 => kk H1 locs1 ?_)
  have hx0 : vp_nar .boolean x = x := by rcases h01 with rfl | rfl <;> decide
  rw [nI_clamp (by have := hF.2.1; omega), hx0] at h1 h2
  have he := wl_set (d' := up2 d cn j x) hW.2.1 hF.1 hk (by rw [en, hF.2.2, up2_row]) (fun c' h => up2_off h)
  rw [he] at h1 h2
  exact ⟨h1, h2, h3⟩
/-- an array of objects: element j is the cell f j -/
theorem e_aldq (hx : p.tables.exec = Jvm.exec) (hb : c.code = cc) (hK : va_K G.1 gcl (tys G) s) (hW : WD G H0 d H locs) {cn n t0 : Nat} {C : String} {f : (Nat → Int32) → Nat → Nat} (hF : QA G cn n t0 C f) {j : Nat} (hj : j < n) {q : Nat} (hq : f (d cn) j = q) {i : Int32} (hi : i = nI j) (hdg : decode cc pc = .ok (.aaload, 1))
    (kk : W p l e R s m args below meth c H locs cells slots Q (F0 m (pc + 1) ls (.ref (gad G q) :: rest))) : W p l e R s m args below meth c H locs cells slots Q (F0 m pc ls (.int i :: .ref (gad G cn) :: rest)) := by
  obtain ⟨k, hk⟩ := wl_get (G := G) (d := d) hF.1
  subst hi; subst hq
  refine va_aldq hx hb hK hW.1 k t0 (cA := gC G t0) (n := n) (C := C) (f := fun j => some (gad G (f (d cn) j))) (by rw [hk, en, hF.2.2.2]) hF.2.2.1 (vp_in_nI hj hF.2.1) hdg ?_
  rw [nI_clamp (by have := hF.2.1; omega)]
  exact kk
/-- an array of int arrays: row j is the cell f j -/
theorem e_aldA (hx : p.tables.exec = Jvm.exec) (hb : c.code = cc) (hK : va_K G.1 gcl (tys G) s) (hW : WD G H0 d H locs) {cn n : Nat} {f : Nat → Nat} (hF : AA G cn n f) {j : Nat} (hj : j < n) {q : Nat} (hq : f j = q) {i : Int32} (hi : i = nI j) (hdg : decode cc pc = .ok (.aaload, 1))
    (kk : W p l e R s m args below meth c H locs cells slots Q (F0 m (pc + 1) ls (.ref (gad G q) :: rest))) : W p l e R s m args below meth c H locs cells slots Q (F0 m pc ls (.int i :: .ref (gad G cn) :: rest)) := by
  obtain ⟨k, hk⟩ := wl_get (G := G) (d := d) hF.1
  subst hi; subst hq
  have hk' : (wl G d)[k]? = some (gad G cn, aR (gC G 3) n (fun j => some (gad G (f j)))) := by rw [hk, en, hF.2.2]
  have hn31 : (nI j).toNatClampNeg = j := nI_clamp (by have := hF.2.1; omega)
  exact W.aald (v := .ref (gad G (f j))) (ty := .array .int) hx hb (hW.1 k _ hk') ((hK.2 3 _ rfl).1 n (fun j => va_rf (some (gad G (f j))))) rfl (fun q => by cases q) (by show ¬ (nI j < 0 ∨ (arrV _ _ _).slots.size ≤ _); rw [arrV_size]; exact vp_in_nI hj hF.2.1) (by show (arrV _ _ _).slots[_]? = _; rw [hn31, arrV_read _ _ hj]; rfl) rfl rfl hdg kk
theorem e_lenI (hx : p.tables.exec = Jvm.exec) (hb : c.code = cc) (hK : va_K G.1 gcl (tys G) s) (hW : WD G H0 d H locs) {cn n : Nat} (hF : IA G cn n) (hdg : decode cc pc = .ok (.arraylength, 1))
    (kk : W p l e R s m args below meth c H locs cells slots Q (F0 m (pc + 1) ls (.int (nI n) :: rest))) : W p l e R s m args below meth c H locs cells slots Q (F0 m pc ls (.ref (gad G cn) :: rest)) := by
  obtain ⟨k, hk⟩ := wl_get (G := G) (d := d) hF.1
  exact va_alen hx hb hK hW.1 k 0 (cA := gC G 0) (x := (n, .inl (d cn))) (by rw [hk, en, hF.2.2]) (ty := .int) rfl rfl hdg kk
theorem e_lenZ (hx : p.tables.exec = Jvm.exec) (hb : c.code = cc) (hK : va_K G.1 gcl (tys G) s) (hW : WD G H0 d H locs) {cn n : Nat} (hF : ZA G cn n) (hdg : decode cc pc = .ok (.arraylength, 1))
    (kk : W p l e R s m args below meth c H locs cells slots Q (F0 m (pc + 1) ls (.int (nI n) :: rest))) : W p l e R s m args below meth c H locs cells slots Q (F0 m pc ls (.ref (gad G cn) :: rest)) := by
  obtain ⟨k, hk⟩ := wl_get (G := G) (d := d) hF.1
  exact va_alen hx hb hK hW.1 k 1 (cA := gC G 1) (x := (n, .inl (d cn))) (by rw [hk, en, hF.2.2]) (ty := .boolean) rfl rfl hdg kk
theorem e_lenQ (hx : p.tables.exec = Jvm.exec) (hb : c.code = cc) (hK : va_K G.1 gcl (tys G) s) (hW : WD G H0 d H locs) {cn n t0 : Nat} {C : String} {f : (Nat → Int32) → Nat → Nat} (hF : QA G cn n t0 C f) (hdg : decode cc pc = .ok (.arraylength, 1))
    (kk : W p l e R s m args below meth c H locs cells slots Q (F0 m (pc + 1) ls (.int (nI n) :: rest))) : W p l e R s m args below meth c H locs cells slots Q (F0 m pc ls (.ref (gad G cn) :: rest)) := by
  obtain ⟨k, hk⟩ := wl_get (G := G) (d := d) hF.1
  exact va_alen hx hb hK hW.1 k t0 (cA := gC G t0) (x := (n, .inr (.inr (.inr (.inr (fun j => some (gad G (f (d cn) j)))))))) (by rw [hk, en, hF.2.2.2]) (ty := .object C) hF.2.2.1 rfl hdg kk
theorem e_lenA (hx : p.tables.exec = Jvm.exec) (hb : c.code = cc) (hK : va_K G.1 gcl (tys G) s) (hW : WD G H0 d H locs) {cn n : Nat} {f : Nat → Nat} (hF : AA G cn n f) (hdg : decode cc pc = .ok (.arraylength, 1))
    (kk : W p l e R s m args below meth c H locs cells slots Q (F0 m (pc + 1) ls (.int (nI n) :: rest))) : W p l e R s m args below meth c H locs cells slots Q (F0 m pc ls (.ref (gad G cn) :: rest)) := by
  obtain ⟨k, hk⟩ := wl_get (G := G) (d := d) hF.1
  exact va_alen hx hb hK hW.1 k 3 (cA := gC G 3) (x := (n, .inr (.inr (.inr (.inr (fun j => some (gad G (f j)))))))) (by rw [hk, en, hF.2.2]) (ty := .array .int) rfl rfl hdg kk
/-- fields -/
theorem e_get (hx : p.tables.exec = Jvm.exec) (hb : c.code = cc) {own ref C : String} {T : u_T} {N ci index : Nat} (hts : ∀ w ∈ WS, w.before args s = true) (hown : s.vm.findClass own = some m.cls) (hK : va_K G.1 gcl (tys G) s) (hW : WD G H0 d H locs) {cn : Nat} {fs : (Nat → Int32) → List Value} (hF : OB G cn ci fs) (hin : ∀ w ∈ u_ws C T N, w ∈ WS) (hc : gcl[ci]? = some (C, T, N)) (k : Nat) (hk : k < N) (hlink : (Cond.fieldLink own index ref (T k).2.1 (T k).2.2.1).before args s = true) (hsame : ∀ x, s.fieldFound? (T k).1 (T k).2.1 (T k).2.2.1 = some x → s.fieldFound? ref (T k).2.1 (T k).2.2.1 = some x) {v : Value} (hv : (fs (d cn))[k]? = some v) (hdg : decode cc pc = .ok (.getfield index, 3))
    (kk : W p l e R s m args below meth c H locs cells slots Q (F0 m (pc + 3) ls (v :: rest))) : W p l e R s m args below meth c H locs cells slots Q (F0 m pc ls (.ref (gad G cn) :: rest)) := by
  obtain ⟨k0, hk0⟩ := wl_get (G := G) (d := d) hF.1
  exact va_get hx hb hts hin hown hK hW.1 k0 (by rw [hk0, en, hF.2]) hc k hk hlink hsame hv hdg kk
theorem e_getN (hx : p.tables.exec = Jvm.exec) (hb : c.code = cc) {own ref C host : String} {T : u_T} {N ci index : Nat} (hts : ∀ w ∈ WS, w.before args s = true) (hown : s.vm.findClass own = some m.cls) (hK : va_K G.1 gcl (tys G) s) (hW : WD G H0 d H locs) {cn : Nat} {fs : (Nat → Int32) → List Value} (hF : OB G cn ci fs) (hin : ∀ w ∈ u_ws C T N, w ∈ WS) (hc : gcl[ci]? = some (C, T, N)) (k : Nat) (hk : k < N) (hlink : va_Nw (Cond.fieldLinkNest own index ref (T k).2.1 (T k).2.2.1 host) s) (hsame : ∀ x, s.fieldFound? (T k).1 (T k).2.1 (T k).2.2.1 = some x → s.fieldFound? ref (T k).2.1 (T k).2.2.1 = some x) {v : Value} (hv : (fs (d cn))[k]? = some v) (hdg : decode cc pc = .ok (.getfield index, 3))
    (kk : W p l e R s m args below meth c H locs cells slots Q (F0 m (pc + 3) ls (v :: rest))) : W p l e R s m args below meth c H locs cells slots Q (F0 m pc ls (.ref (gad G cn) :: rest)) := by
  obtain ⟨k0, hk0⟩ := wl_get (G := G) (d := d) hF.1
  exact va_getN hx hb hts hin hown hK hW.1 k0 (by rw [hk0, en, hF.2]) hc k hk (va_Nw.use rfl hlink) hsame hv hdg kk
theorem e_put (hx : p.tables.exec = Jvm.exec) (hb : c.code = cc) {own ref C : String} {T : u_T} {N ci index : Nat} (hts : ∀ w ∈ WS, w.before args s = true) (hown : s.vm.findClass own = some m.cls) (hK : va_K G.1 gcl (tys G) s) (hW : WD G H0 d H locs) {cn : Nat} {fs : (Nat → Int32) → List Value} (hF : OB G cn ci fs) (hin : ∀ w ∈ u_ws C T N, w ∈ WS) (ty0 : Nat → FieldType) (hty : ∀ k, k < N → parseFieldDescriptor (T k).2.2.1 = some (ty0 k)) (hnm : ∀ a, a < N → ∀ b, b < N → a ≠ b → (T a).2.1 ≠ (T b).2.1) (hc : gcl[ci]? = some (C, T, N)) (k : Nat) (hk : k < N) (hlink : (Cond.fieldLink own index ref (T k).2.1 (T k).2.2.1).before args s = true) (hsame : ∀ x, s.fieldFound? (T k).1 (T k).2.1 (T k).2.2.1 = some x → s.fieldFound? ref (T k).2.1 (T k).2.2.1 = some x) (hfin : (T k).2.2.2 = false) (hd : parseFieldDescriptor (T k).2.2.1 = some .int) {v : Int32}
    (hset : ∀ r : Nat → Int32, (fs r).set k (.int v) = fs (upd r k v)) (hlen : ∀ r : Nat → Int32, (fs r).length = N) (hdg : decode cc pc = .ok (.putfield index, 3))
    (kk : ∀ (H1 : Heap) (locs1 : List Loc), WD G H0 (up2 d cn k v) H1 locs1 → W p l e R s m args below meth c H1 locs1 cells slots Q (F0 m (pc + 3) ls rest)) : W p l e R s m args below meth c H locs cells slots Q (F0 m pc ls (.int v :: .ref (gad G cn) :: rest)) := by
  obtain ⟨k0, hk0⟩ := wl_get (G := G) (d := d) hF.1
  refine va_put hx hb hts hin ty0 hty hnm hown hK hW.1 hW.2.1 hW.2.2 k0 (fs := fs (d cn)) (by rw [hk0, en, hF.2]) hc k hk hlink hsame hfin hd rfl rfl (by rw [hlen]; exact hk) hdg (fun H1 locs1 h1 h2 h3 => kk H1 locs1 ?_)
  have he := wl_set (d' := up2 d cn k v) (e' := .inr (ci, (fs (d cn)).set k (.int v))) hW.2.1 hF.1 hk0 (by rw [en, hF.2, up2_row, hset]) (fun c' h => up2_off h)
  rw [he] at h1 h2
  exact ⟨h1, h2, h3⟩
theorem e_putN (hx : p.tables.exec = Jvm.exec) (hb : c.code = cc) {own ref C host : String} {T : u_T} {N ci index : Nat} (hts : ∀ w ∈ WS, w.before args s = true) (hown : s.vm.findClass own = some m.cls) (hK : va_K G.1 gcl (tys G) s) (hW : WD G H0 d H locs) {cn : Nat} {fs : (Nat → Int32) → List Value} (hF : OB G cn ci fs) (hin : ∀ w ∈ u_ws C T N, w ∈ WS) (ty0 : Nat → FieldType) (hty : ∀ k, k < N → parseFieldDescriptor (T k).2.2.1 = some (ty0 k)) (hnm : ∀ a, a < N → ∀ b, b < N → a ≠ b → (T a).2.1 ≠ (T b).2.1) (hc : gcl[ci]? = some (C, T, N)) (k : Nat) (hk : k < N) (hlink : va_Nw (Cond.fieldLinkNest own index ref (T k).2.1 (T k).2.2.1 host) s) (hsame : ∀ x, s.fieldFound? (T k).1 (T k).2.1 (T k).2.2.1 = some x → s.fieldFound? ref (T k).2.1 (T k).2.2.1 = some x) (hfin : (T k).2.2.2 = false) (hd : parseFieldDescriptor (T k).2.2.1 = some .int) {v : Int32}
    (hset : ∀ r : Nat → Int32, (fs r).set k (.int v) = fs (upd r k v)) (hlen : ∀ r : Nat → Int32, (fs r).length = N) (hdg : decode cc pc = .ok (.putfield index, 3))
    (kk : ∀ (H1 : Heap) (locs1 : List Loc), WD G H0 (up2 d cn k v) H1 locs1 → W p l e R s m args below meth c H1 locs1 cells slots Q (F0 m (pc + 3) ls rest)) : W p l e R s m args below meth c H locs cells slots Q (F0 m pc ls (.int v :: .ref (gad G cn) :: rest)) := by
  obtain ⟨k0, hk0⟩ := wl_get (G := G) (d := d) hF.1
  refine va_putN hx hb hts hin ty0 hty hnm hown hK hW.1 hW.2.1 hW.2.2 k0 (fs := fs (d cn)) (by rw [hk0, en, hF.2]) hc k hk (va_Nw.use rfl hlink) hsame hfin hd rfl rfl (by rw [hlen]; exact hk) hdg (fun H1 locs1 h1 h2 h3 => kk H1 locs1 ?_)
  have he := wl_set (d' := up2 d cn k v) (e' := .inr (ci, (fs (d cn)).set k (.int v))) hW.2.1 hF.1 hk0 (by rw [en, hF.2, up2_row, hset]) (fun c' h => up2_off h)
  rw [he] at h1 h2
  exact ⟨h1, h2, h3⟩
theorem e_putz (hx : p.tables.exec = Jvm.exec) (hb : c.code = cc) {own ref C : String} {T : u_T} {N ci index : Nat} (hts : ∀ w ∈ WS, w.before args s = true) (hown : s.vm.findClass own = some m.cls) (hK : va_K G.1 gcl (tys G) s) (hW : WD G H0 d H locs) {cn : Nat} {fs : (Nat → Int32) → List Value} (hF : OB G cn ci fs) (hin : ∀ w ∈ u_ws C T N, w ∈ WS) (ty0 : Nat → FieldType) (hty : ∀ k, k < N → parseFieldDescriptor (T k).2.2.1 = some (ty0 k)) (hnm : ∀ a, a < N → ∀ b, b < N → a ≠ b → (T a).2.1 ≠ (T b).2.1) (hc : gcl[ci]? = some (C, T, N)) (k : Nat) (hk : k < N) (hlink : (Cond.fieldLink own index ref (T k).2.1 (T k).2.2.1).before args s = true) (hsame : ∀ x, s.fieldFound? (T k).1 (T k).2.1 (T k).2.2.1 = some x → s.fieldFound? ref (T k).2.1 (T k).2.2.1 = some x) (hfin : (T k).2.2.2 = false) (hd : parseFieldDescriptor (T k).2.2.1 = some .boolean) {v : Int32}
    (hset : ∀ r : Nat → Int32, (fs r).set k (.int v) = fs (upd r k v)) (hlen : ∀ r : Nat → Int32, (fs r).length = N) (h01 : v = 0 ∨ v = 1) (hdg : decode cc pc = .ok (.putfield index, 3))
    (kk : ∀ (H1 : Heap) (locs1 : List Loc), WD G H0 (up2 d cn k v) H1 locs1 → W p l e R s m args below meth c H1 locs1 cells slots Q (F0 m (pc + 3) ls rest)) : W p l e R s m args below meth c H locs cells slots Q (F0 m pc ls (.int v :: .ref (gad G cn) :: rest)) := by
  obtain ⟨k0, hk0⟩ := wl_get (G := G) (d := d) hF.1
  refine va_put hx hb hts hin ty0 hty hnm hown hK hW.1 hW.2.1 hW.2.2 k0 (fs := fs (d cn)) (by rw [hk0, en, hF.2]) hc k hk hlink hsame hfin hd (by rcases h01 with rfl | rfl <;> rfl) (by rcases h01 with rfl | rfl <;> rfl) (by rw [hlen]; exact hk) hdg (fun H1 locs1 h1 h2 h3 => kk H1 locs1 ?_)
  have he := wl_set (d' := up2 d cn k v) (e' := .inr (ci, (fs (d cn)).set k (.int v))) hW.2.1 hF.1 hk0 (by rw [en, hF.2, up2_row, hset]) (fun c' h => up2_off h)
  rw [he] at h1 h2
  exact ⟨h1, h2, h3⟩
theorem e_putNz (hx : p.tables.exec = Jvm.exec) (hb : c.code = cc) {own ref C host : String} {T : u_T} {N ci index : Nat} (hts : ∀ w ∈ WS, w.before args s = true) (hown : s.vm.findClass own = some m.cls) (hK : va_K G.1 gcl (tys G) s) (hW : WD G H0 d H locs) {cn : Nat} {fs : (Nat → Int32) → List Value} (hF : OB G cn ci fs) (hin : ∀ w ∈ u_ws C T N, w ∈ WS) (ty0 : Nat → FieldType) (hty : ∀ k, k < N → parseFieldDescriptor (T k).2.2.1 = some (ty0 k)) (hnm : ∀ a, a < N → ∀ b, b < N → a ≠ b → (T a).2.1 ≠ (T b).2.1) (hc : gcl[ci]? = some (C, T, N)) (k : Nat) (hk : k < N) (hlink : va_Nw (Cond.fieldLinkNest own index ref (T k).2.1 (T k).2.2.1 host) s) (hsame : ∀ x, s.fieldFound? (T k).1 (T k).2.1 (T k).2.2.1 = some x → s.fieldFound? ref (T k).2.1 (T k).2.2.1 = some x) (hfin : (T k).2.2.2 = false) (hd : parseFieldDescriptor (T k).2.2.1 = some .boolean) {v : Int32}
    (hset : ∀ r : Nat → Int32, (fs r).set k (.int v) = fs (upd r k v)) (hlen : ∀ r : Nat → Int32, (fs r).length = N) (h01 : v = 0 ∨ v = 1) (hdg : decode cc pc = .ok (.putfield index, 3))
    (kk : ∀ (H1 : Heap) (locs1 : List Loc), WD G H0 (up2 d cn k v) H1 locs1 → W p l e R s m args below meth c H1 locs1 cells slots Q (F0 m (pc + 3) ls rest)) : W p l e R s m args below meth c H locs cells slots Q (F0 m pc ls (.int v :: .ref (gad G cn) :: rest)) := by
  obtain ⟨k0, hk0⟩ := wl_get (G := G) (d := d) hF.1
  refine va_putN hx hb hts hin ty0 hty hnm hown hK hW.1 hW.2.1 hW.2.2 k0 (fs := fs (d cn)) (by rw [hk0, en, hF.2]) hc k hk (va_Nw.use rfl hlink) hsame hfin hd (by rcases h01 with rfl | rfl <;> rfl) (by rcases h01 with rfl | rfl <;> rfl) (by rw [hlen]; exact hk) hdg (fun H1 locs1 h1 h2 h3 => kk H1 locs1 ?_)
  have he := wl_set (d' := up2 d cn k v) (e' := .inr (ci, (fs (d cn)).set k (.int v))) hW.2.1 hF.1 hk0 (by rw [en, hF.2, up2_row, hset]) (fun c' h => up2_off h)
  rw [he] at h1 h2
  exact ⟨h1, h2, h3⟩
/-- row[j] = a message -/
theorem e_astR (hG : GOK G) (hx : p.tables.exec = Jvm.exec) (hb : c.code = cc) (hK : va_K G.1 gcl (tys G) s) (hW : WD G H0 d H locs) {j : Nat} (hj : j < 60) {q : Nat} (hq : q < 62) {i : Int32} (hi : i = nI j) (hdg : decode cc pc = .ok (.aastore, 1))
    (kk : ∀ (H1 : Heap) (locs1 : List Loc), WD G H0 (up2 d 8 j (nI q)) H1 locs1 → W p l e R s m args below meth c H1 locs1 cells slots Q (F0 m (pc + 1) ls rest)) : W p l e R s m args below meth c H locs cells slots Q (F0 m pc ls (.ref (gad G (q + 420)) :: .int i :: .ref (gad G 8) :: rest)) := by
  have hF := F_Row G hG
  have hM := F_Msg G hG hq
  obtain ⟨k, hk⟩ := wl_get (G := G) (d := d) hF.1
  obtain ⟨k2, hk2⟩ := wl_get (G := G) (d := d) hM.1
  subst hi
  refine va_astq hx hb hK hW.1 hW.2.1 hW.2.2 k 7 k2 iMsg (cA := gC G 7) (r := gclMsg) (n := 60) (f := fun j => some (gad G ((d 8 j).toNatClampNeg + 420))) (by rw [hk, en, hF.2.2.2]) rfl (by rw [hk2, en, hM.2]) rfl (vp_in_nI hj (by decide)) hdg (fun H1 locs1 h1 h2 h3 => kk H1 locs1 ?_)
  rw [nI_clamp (by omega)] at h1 h2
  have he := wl_set (d' := up2 d 8 j (nI q)) (e' := aR (gC G 7) 60 (va_up (fun j => some (gad G ((d 8 j).toNatClampNeg + 420))) j (some (gad G (q + 420))))) hW.2.1 hF.1 hk (by
    rw [en, hF.2.2.2]
    refine congrArg (fun f => aR (gC G 7) 60 f) (funext fun j' => ?_)
    show some (gad G ((up2 d 8 j (nI q) 8 j').toNatClampNeg + 420)) = _
    by_cases h : j' = j
    · subst h; rw [va_up_self, up2_self, nI_clamp (by omega)]
    · rw [va_up_ne _ _ h, up2_nk h]) (fun c' h => up2_off h)
  rw [he] at h1 h2
  exact ⟨h1, h2, h3⟩
/-- System.arraycopy(a, 0, b, 0, n) of ints -/
theorem e_cp (hx : p.tables.exec = Jvm.exec) (hb : c.code = cc) (hml : c.maxLocals = ls.size) {own : String} {index : Nat} (hown : s.vm.findClass own = some m.cls) (hts : ∀ w ∈ WS, w.before args s = true) (k1 : Cond.methodLink own index arraycopyName ∈ WS) (k2 : Cond.native arraycopyName ∈ WS) (k3 : Cond.static arraycopyName ∈ WS) (k4 : Cond.initialized "java/lang/System" ∈ WS)
    (hK : va_K G.1 gcl (tys G) s) (hW : WD G H0 d H locs) {ca cb na nb n : Nat} (hA : IA G ca na) (hB : IA G cb nb) (h4 : n ≤ na) (h5 : n ≤ nb) {x : Int32} (hn : x = nI n) (hframes : 1 ≤ R.frames) (hlocals : (rest.map fun v => v.category).sum + (nativeFrameWords "java/lang/System" "arraycopy" 5 + 11) ≤ R.locals) (hdg : decode cc pc = .ok (.invokestatic index, 3))
    (kk : ∀ (H1 : Heap) (locs1 : List Loc), WD G H0 (f_cp3 d ca cb n) H1 locs1 → W p l e R s m args below meth c H1 locs1 cells slots Q (F0 m (pc + 3) ls rest)) : W p l e R s m args below meth c H locs cells slots Q (F0 m pc ls (.int x :: .int 0 :: .ref (gad G cb) :: .int 0 :: .ref (gad G ca) :: rest)) := by
  obtain ⟨qa, hqa⟩ := wl_get (G := G) (d := d) hA.1
  obtain ⟨qb, hqb⟩ := wl_get (G := G) (d := d) hB.1
  subst hn
  have hn31 : n < 2 ^ 31 := Nat.lt_of_le_of_lt h4 hA.2.1
  have z0 : (0 : Int32).toNatClampNeg = 0 := sb_cl0
  refine va_copyi hx hb hml hown (hts _ k1) (hts _ k2) (hts _ k3) (hts _ k4) hK hW.1 hW.2.1 hW.2.2 qa qb 0 0 (c0 := gC G 0) (c1 := gC G 0) (n0 := na) (n1 := nb) (f := d ca) (g := d cb) (ty := .int) (by rw [hqa, en, hA.2.2]) (by rw [hqb, en, hB.2.2]) rfl rfl rfl (by decide) (by decide) (nI_pos hn31) (by rw [z0, nI_clamp hn31]; omega) (by rw [z0, nI_clamp hn31]; omega) (fun _ _ => rfl) hframes hlocals hdg (fun H1 locs1 h1 h2 h3 => kk H1 locs1 ?_)
  rw [z0, nI_clamp hn31] at h1 h2
  have he := wl_set (d' := f_cp3 d ca cb n) (e' := aI (gC G 0) nb (va_cpy (d ca) (d cb) 0 0 n)) hW.2.1 hB.1 hqb (by
    rw [en, hB.2.2]
    refine congrArg (fun f => aI (gC G 0) nb f) (funext fun k => ?_)
    by_cases h : k < n
    · rw [pk_cpy_in (Nat.zero_le _) (by omega)]; simp [f_cp3, h]
    · rw [pk_cpy_out (Or.inr (by omega))]; simp [f_cp3, h]) (fun c' h => funext fun k => by simp [f_cp3, h])
  rw [he] at h1 h2
  exact ⟨h1, h2, h3⟩
end EB
