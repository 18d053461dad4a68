/-! The law's own methods: each calls the class once, and tells by a number what was thrown. -/
section EJ
variable {p : Program} {l : Launch} {e : Env} {R : Room} {s : State} {m : MethodId} {args : Array Value} {below : List Frame} {meth : Method} {c : Code} {H : Heap} {locs : List Loc} {cells slots : Nat} {Q : State → Prop}
variable {cc : ByteArray} {pc : Nat} {ls : Array Slot} {rest : List Value} {G : GT} {d : DD} {H0 : Heap}
theorem e_jald (hx : p.tables.exec = Jvm.exec) (hb : c.code = cc) (hK : va_K G.1 gcl (tys G) s) (hW : WD G H0 d H locs) {cn n : Nat} (hF : JA G cn n) {j : Nat} (hj : j < n) {i : Int32} (hi : i = nI j) (hdg : decode cc pc = .ok (.laload, 1))
    (kk : W p l e R s m args below meth c H locs cells slots Q (F0 m (pc + 1) ls (.long (d cn j).toInt64 :: rest))) : W p l e R s m args below meth c H locs cells slots Q (F0 m pc ls (.int i :: .ref (gad G cn) :: rest)) := by
  obtain ⟨k, hk⟩ := wl_get (G := G) (d := d) hF.1
  subst hi
  refine va_lald hx hb hK hW.1 k 2 (cA := gC G 2) (n := n) (f := fun j => (d cn j).toInt64) (by rw [hk, en, hF.2.2]) rfl (vp_in_nI hj hF.2.1) hdg ?_
  rw [nI_clamp (by have := hF.2.1; omega)]
  exact kk
theorem e_jast (hx : p.tables.exec = Jvm.exec) (hb : c.code = cc) (hK : va_K G.1 gcl (tys G) s) (hW : WD G H0 d H locs) {cn n : Nat} (hF : JA G cn n) {j : Nat} (hj : j < n) {i x : Int32} {v : Int64} (hv : v = x.toInt64) (hi : i = nI j) (hdg : decode cc pc = .ok (.lastore, 1))
    (kk : ∀ (H1 : Heap) (locs1 : List Loc), WD G H0 (up2 d cn j x) H1 locs1 → W p l e R s m args below meth c H1 locs1 cells slots Q (F0 m (pc + 1) ls rest)) : W p l e R s m args below meth c H locs cells slots Q (F0 m pc ls (.long v :: .int i :: .ref (gad G cn) :: rest)) := by
  obtain ⟨k, hk⟩ := wl_get (G := G) (d := d) hF.1
  subst hi
  subst hv
  refine va_last hx hb hK hW.1 hW.2.1 hW.2.2 k 2 (cA := gC G 2) (n := n) (f := fun j => (d cn j).toInt64) (by rw [hk, en, hF.2.2]) rfl (vp_in_nI hj hF.2.1) hdg (fun H1 locs1 h1 h2 h3 => kk H1 locs1 ?_)
  rw [nI_clamp (by have := hF.2.1; omega)] at h1 h2
  have he := wl_set (d' := up2 d cn j x) (e' := aJ (gC G 2) n (vp_updL (fun j => (d cn j).toInt64) j x.toInt64)) hW.2.1 hF.1 hk (by
    rw [en, hF.2.2]
    refine congrArg (fun f => aJ (gC G 2) n f) (funext fun j' => ?_)
    show (up2 d cn j x cn j').toInt64 = vp_updL (fun j => (d cn j).toInt64) j x.toInt64 j'
    by_cases h : j' = j
    · subst h; rw [up2_self]; simp [vp_updL]
    · rw [up2_nk h]; simp [vp_updL, h]) (fun c' h => up2_off h)
  rw [he] at h1 h2
  exact ⟨h1, h2, h3⟩
end EJ
theorem c_startW {l : Launch} {G : GT} {y : MethodName} {own : String} {cc : ByteArray} {maxL : Nat} {ret : Option FieldType} {hh : List (Nat × Nat × Nat × Nat)} {rm : Room} {av : List Value} {d : DD} {Qc : Array Value → State → Outcome → State → Prop} {mc ms : Nat} (hy : plainName y.cls = true) (hown : y.cls = own) (hlen : (lg_sl av).length ≤ maxL)
    (body : ∀ (p : Program) (e : Env) (s : State) (m : MethodId) (below : List Frame) (meth : Method) (c : Code) (ls : Array Slot), c.exceptionTable.toList = tableOf hh → CX G own cc maxL ret p s m av.toArray meth c → WD G s.heap d s.heap [] → lv_has ls maxL (lv_args 0 av) → W p l e rm s m av.toArray below meth c s.heap [] 0 0 (MQ below Qc av.toArray s mc ms (gAb G)) (F0 m 0 ls [])) : Met l y (.codeWith y cc maxL ret hh :: WS) rm (cPre G av d) Qc mc ms (gAb G) := by
  refine va_MetW (cc := cc) (maxL := maxL) (ret := ret) (hh := hh) hy rfl ?_
  intro p e s m args below meth c s₁ B hml hv
  obtain ⟨rfl, hE, hbs, hP, hD⟩ := hv
  have hts := atoms_spec (ws := .codeWith y cc maxL ret hh :: WS) B.pre
  have ho : s.vm.findClass y.cls = some m.cls := findClass_of_methodNamed B.named
  rw [hown] at ho
  rw [lg_entry_eq]
  exact body p e s m below meth c _ (vx_table (x := y) B (hts _ List.mem_cons_self)) ⟨B.exec, B.bytes, B.returns, hml, ho, fun w h => hts w (List.mem_cons_of_mem _ h), B.notSynchronized, hE, hbs⟩ ⟨hP, hD, va_S.rf⟩ (lv_entry av hlen)
/-- which can be thrown -/
theorem xs_or {a b : Option String} {E : String} {P : Prop} (h : xs a b = some E) (ha : a = some E → P) (hb : b = some E → P) : P := by
  cases a with
  | none => exact hb h
  | some e => exact ha h
theorem rg_E {x y : Int32} {E : String} (h : rgX x y = some E) : E = IAE := by
  unfold rgX at h
  split at h
  · exact (Option.some.inj h).symm
  · split at h
    · cases h
    · exact (Option.some.inj h).symm
theorem bg_E {d : DD} {x : Int32} {E : String} (h : bgX d x = some E) : E = NSE := by
  unfold bgX at h
  split at h
  · cases h
  · exact (Option.some.inj h).symm
theorem up_E {d : DD} {k w : Nat} {E : String} (h : upX d k w = some E) : E = ISE := by
  unfold upX at h
  split at h
  · exact (Option.some.inj h).symm
  · cases h
theorem ms_E {d : DD} {x : Int32} {E : String} (h : msX d x = some E) : E = IOE := by
  unfold msX at h
  split at h
  · exact (Option.some.inj h).symm
  · split at h
    · cases h
    · exact (Option.some.inj h).symm
theorem xi_begin {d : DD} {E : String} (h : bnX d = some E) : E = ISE := by
  unfold bnX at h
  split at h
  · cases h
  · exact (Option.some.inj h).symm
abbrev E4 (E : String) : Prop := E = IAE ∨ E = NSE ∨ E = ISE ∨ E = UOE
theorem if_E {c : Prop} [Decidable c] {a b : Option String} {E : String} {P : Prop} (h : (if c then a else b) = some E) (ha : a = some E → P) (hb : b = some E → P) : P := by
  split at h
  · exact ha h
  · exact hb h
theorem e1 {E : String} (h : E = IAE) : E4 E := Or.inl h
theorem e2 {E : String} (h : E = NSE) : E4 E := Or.inr (Or.inl h)
theorem e3 {E : String} (h : E = ISE) : E4 E := Or.inr (Or.inr (Or.inl h))
theorem e4 {E : String} (h : E = UOE) : E4 E := Or.inr (Or.inr (Or.inr h))
theorem so {E F : String} (h : some F = some E) : E = F := (Option.some.inj h).symm
theorem xi_write {d : DD} {t s k : Int32} {E : String} (h : wrX d t s k = some E) : E4 E :=
  xs_or h (fun h => e1 (rg_E h)) fun h => xs_or h (fun h => e1 (rg_E h)) fun h => xs_or h (fun h => e1 (rg_E h)) fun h => xs_or h (fun h => e2 (bg_E h)) fun h => xs_or h (fun h => e3 (up_E h)) fun h => if_E h (fun h => if_E h (fun h => if_E h (fun h => e4 (so h)) (fun h => by cases h)) (fun h => e4 (so h))) (fun h => e3 (so h))
theorem xi_request {d : DD} {t : Int32} {E : String} (h : rqX d t = some E) : E4 E :=
  xs_or h (fun h => e1 (rg_E h)) fun h => xs_or h (fun h => e2 (bg_E h)) fun h => if_E h (fun h => e3 (so h)) (fun h => if_E h (fun h => by cases h) (fun h => e4 (so h)))
theorem xi_refuse {d : DD} {t s : Int32} {E : String} (h : rfX d t s = some E) : E4 E :=
  xs_or h (fun h => e1 (rg_E h)) fun h => xs_or h (fun h => e1 (rg_E h)) fun h => xs_or h (fun h => e2 (bg_E h)) fun h => xs_or h (fun h => e3 (up_E h)) fun h => if_E h (fun h => by cases h) (fun h => e4 (so h))
theorem xi_take {d : DD} {ld t : Int32} {E : String} (h : tkX d ld t = some E) : E4 E :=
  xs_or h (fun h => e1 (rg_E h)) fun h => xs_or h (fun h => e1 (rg_E h)) fun h => xs_or h (fun h => e2 (bg_E h)) fun h => xs_or h (fun h => e3 (up_E h)) fun h => if_E h (fun h => e4 (so h)) (fun h => by cases h)
theorem xi_value {s k : Int32} {E : String} (h : vlX s k = some E) : E = IAE := xs_or h rg_E rg_E
theorem xi_up {n : Nat} {s k : Int32} {E : String} (h : upXo n s k = some E) : E = IAE := xs_or h rg_E rg_E
theorem xi_state {d : DD} {t s : Int32} {E : String} (h : stX d t s = some E) : E = IAE ∨ E = NSE := xs_or h (fun h => Or.inl (rg_E h)) fun h => xs_or h (fun h => Or.inl (rg_E h)) fun h => Or.inr (bg_E h)
theorem xi_taken {n : Nat} {d : DD} {a t s : Int32} {E : String} (h : tnX n d a t s = some E) : E = IAE ∨ E = NSE := xs_or h (fun h => Or.inl (rg_E h)) fun h => xs_or h (fun h => Or.inl (rg_E h)) fun h => xs_or h (fun h => Or.inl (rg_E h)) fun h => Or.inr (bg_E h)
theorem xi_outcome {d : DD} {ld t : Int32} {E : String} (h : ocX d ld t = some E) : E = IAE ∨ E = NSE ∨ E = ISE := xs_or h (fun h => Or.inl (rg_E h)) fun h => xs_or h (fun h => Or.inl (rg_E h)) fun h => xs_or h (fun h => Or.inr (Or.inl (bg_E h))) fun h => if_E h (fun h => Or.inr (Or.inr (so h))) (fun h => by cases h)
theorem xi_text {d : DD} {i k : Int32} {E : String} (h : txX d i k = some E) : E = IAE ∨ E = IOE := if_E h (fun h => Or.inr (ms_E h)) (fun h => Or.inl (so h))
