/-! Worlds told by lists, for what is made anew, and contracts that speak of the heap. -/
def WW (G : GT) (H0 : Heap) (ws : va_W) (H : Heap) (locs : List Loc) : Prop := va_P G.1 gcl ws H ∧ va_D (gAb G) ws ∧ va_S (gAb G) H0 H locs
def hPre (G : GT) (av : List Value) (I : Heap → Prop) : Array Value → State → Prop := va_Pc av (fun U => EnvP G U ∧ gbase G ≤ U.heap.size ∧ I U.heap)
def hQi (G : GT) (J : Int32 → Heap → Prop) : Array Value → State → Outcome → State → Prop := va_Qi (S := Heap) J (fun u t => t.heap = u) (gAb G)
def hQv (G : GT) (J : Heap → Prop) : Array Value → State → Outcome → State → Prop := va_Qv (S := Heap) J (fun u t => t.heap = u) (gAb G)
def hQr (G : GT) (J : Nat → Heap → Prop) : Array Value → State → Outcome → State → Prop := va_Qr (S := Nat × Heap) (fun u => J u.1 u.2) (fun u a t => a = u.1 ∧ t.heap = u.2) (gAb G)
theorem hPre_blind {G : GT} {av : List Value} {I : Heap → Prop} : FrameBlind (hPre G av I) := fun _ _ _ _ h => ⟨h.1, env_calling h.2.1, h.2.2.1, h.2.2.2⟩
theorem h_startF {l : Launch} {G : GT} {y : MethodName} {own : String} {cc : ByteArray} {maxL : Nat} {ret : Option FieldType} {rm : Room} {av : List Value} {I : Heap → Prop} {Qc : Array Value → State → Outcome → State → Prop} {mc ms : Nat} (hy : plainFor y = true) (hown : y.cls = own) (hlen : (lg_sl av).length ≤ maxL)
    (body : ∀ (p : Program) (e : Env) (s : State) (m : MethodId) (below : List Frame) (meth : Method) (c : Code) (ls : Array Slot), CX G own cc maxL ret p s m av.toArray meth c → I s.heap → lv_has ls maxL (lv_args 0 av) → W p l e rm s m av.toArray below meth c s.heap [] 0 0 (MQ below Qc av.toArray s mc ms (gAb G)) (F0 m 0 ls [])) : Met l y (.code y cc maxL ret :: WS) rm (hPre G av I) Qc mc ms (gAb G) := by
  refine va_MetF (cc := cc) (maxL := maxL) (ret := ret) hy rfl ?_
  intro p e s m args below meth c s₁ B hml hv
  obtain ⟨rfl, hE, hbs, hI⟩ := hv
  have hts := atoms_spec (ws := .code y cc maxL ret :: WS) B.pre
  have ho : s.vm.findClass y.cls = some m.cls := findClass_of_methodNamed B.named
  rw [hown] at ho
  rw [lg_entry_eq]
  exact body p e s m below meth c _ ⟨B.exec, B.bytes, B.returns, hml, ho, fun w h => hts w (List.mem_cons_of_mem _ h), B.notSynchronized, hE, hbs⟩ hI (lv_entry av hlen)
/-- the same tables, a later beginning -/
def gB (G : GT) (σ : Nat) : GT := (G.1, G.2.1, G.2.2.1, σ, G.2.2.2.2)
theorem env_nar {G : GT} {σ : Nat} {U : State} (h : EnvP G U) (hs : gbase G ≤ σ) : EnvP (gB G σ) U := by
  have hq : ∀ q, gAb (gB G σ) q → gAb G q := fun q z => Nat.le_trans hs z
  obtain ⟨h1, h2, h3, a1, a2, a3, a4, a5, a6, b1, b2, ⟨t3, b3, b3'⟩, ⟨t4, b4, b4'⟩, ⟨aK, aV, b5, b5'⟩, b6, b7, b8, b9⟩ := h
  exact ⟨h1, h2, h3, a1.narrow hq, a2.narrow hq, a3, a4, a5, a6, b1.narrow hq, b2.narrow hq, ⟨t3, b3.narrow hq, b3'.narrow hq⟩, ⟨t4, b4.narrow hq, b4'.narrow hq⟩, ⟨aK, aV, b5.narrow hq, b5'⟩, b6, b7, b8, b9⟩
theorem va_S.sub {A B : Nat → Prop} {H0 H : Heap} {locs : List Loc} (h : va_S A H0 H locs) (hAB : ∀ q, A q → B q) : va_S B H0 H locs := ⟨h.1, fun q h1 h2 => h.2.1 q h1 (fun z => h2 (hAB q z)), fun l hl => hAB _ (h.2.2 l hl)⟩
section HC
variable {p : Program} {l : Launch} {e : Env} {R : Room} {s : State} {m : MethodId} {args : Array Value} {below : List Frame} {meth : Method} {c : Code} {H : Heap} {locs : List Loc} {cells slots : Nat} {Q : State → Prop}
variable {cc : ByteArray} {pc : Nat} {ls : Array Slot} {rest : List Value} {G G' : GT}
theorem h_iret {J : Int32 → Heap → Prop} (hx : p.tables.exec = Jvm.exec) (hb : c.code = cc) (hr : meth.sig.returnType = some .int) (hlk : meth.locks = false) (hS : va_S (gAb G) s.heap H locs) {v : Int32} (hp : J v H) {mc ms : Nat} (hc : cells ≤ mc) (hs : slots ≤ ms) (hdg : decode cc pc = .ok (.ireturn, 1)) : W p l e R s m args below meth c H locs cells slots (MQ below (hQi G J) args s mc ms (gAb G)) (F0 m pc ls [.int v]) := by
  refine W.widen hc hs ?_
  exact W.iret hx hb hr (fun t ht _ => ⟨⟨v, H, rfl, hp, ht⟩, hS.F ht⟩) hS.2.2 hdg hlk
theorem h_zret {J : Int32 → Heap → Prop} {ty : FieldType} (hx : p.tables.exec = Jvm.exec) (hb : c.code = cc) (hr : meth.sig.returnType = some ty) (hlk : meth.locks = false) (hS : va_S (gAb G) s.heap H locs) {v : Int32} (hn : narrow ty (.int v) = .int v) (hp : J v H) {mc ms : Nat} (hc : cells ≤ mc) (hs : slots ≤ ms) (hdg : decode cc pc = .ok (.ireturn, 1)) : W p l e R s m args below meth c H locs cells slots (MQ below (hQi G J) args s mc ms (gAb G)) (F0 m pc ls [.int v]) := by
  refine W.widen hc hs ?_
  exact W.zret hx hb hr hn (fun t ht _ => ⟨⟨v, H, rfl, hp, ht⟩, hS.F ht⟩) hS.2.2 hdg hlk
theorem h_vret {J : Heap → Prop} (hx : p.tables.exec = Jvm.exec) (hb : c.code = cc) (hr : meth.sig.returnType = none) (hlk : meth.locks = false) (hS : va_S (gAb G) s.heap H locs) (hp : J H) {mc ms : Nat} (hc : cells ≤ mc) (hs : slots ≤ ms) (hdg : decode cc pc = .ok (.return_, 1)) : W p l e R s m args below meth c H locs cells slots (MQ below (hQv G J) args s mc ms (gAb G)) (F0 m pc ls []) := by
  refine W.widen hc hs ?_
  exact W.vret hx hb hr (fun t ht _ => ⟨⟨H, rfl, hp, ht⟩, hS.F ht⟩) hS.2.2 hdg hlk
theorem h_aret {J : Nat → Heap → Prop} {rt : FieldType} (hx : p.tables.exec = Jvm.exec) (hb : c.code = cc) (hr : meth.sig.returnType = some rt) (hrt : (∃ n, rt = .object n) ∨ ∃ t, rt = .array t) (hlk : meth.locks = false) (hS : va_S (gAb G) s.heap H locs) {a : Nat} (hp : J a H) {mc ms : Nat} (hc : cells ≤ mc) (hs : slots ≤ ms) (hdg : decode cc pc = .ok (.areturn, 1)) : W p l e R s m args below meth c H locs cells slots (MQ below (hQr G J) args s mc ms (gAb G)) (F0 m pc ls [.ref a]) := by
  refine W.widen hc hs ?_
  exact W.aret hx hb hr hrt (Or.inr ⟨_, rfl⟩) (fun t ht _ => ⟨⟨(a, H), a, rfl, hp, rfl, ht⟩, hS.F ht⟩) hS.2.2 hdg hlk
variable {y : MethodName} {bytes : ByteArray} {maxL nL mc ms n index : Nat} {ret : Option FieldType} {rm : Room} {Qc : Array Value → State → Outcome → State → Prop} {own C host : String} {As st0 : List Value} {I : Heap → Prop}
theorem h_pre {av : List Value} (hE : EnvP G s) (hS : va_S (gAb G) s.heap H locs) (hg : gbase G ≤ gbase G') (hG' : gB G (gbase G') = G') (hbs : gbase G' ≤ H.size) (hI : I H) : ∀ U : State, U.heap = H → s.WarmedH U.vm → hPre G' av I av.toArray U := fun U hU hWm =>
  ⟨rfl, by rw [← hG']; exact env_nar (env_move hE hS hU hWm) hg, by rw [hU]; exact hbs, by rw [hU]; exact hI⟩
/-- what a call of a contract over the heap asks, beside its words -/
theorem h_runS (hx : p.tables.exec = Jvm.exec) (hb : c.code = cc) (hml : c.maxLocals = nL) (hown : s.vm.findClass own = some m.cls) (hts : ∀ w ∈ WS, w.before args s = true) (hE : EnvP G s) (hS : va_S (gAb G) s.heap H locs) (hg : gbase G ≤ gbase G') (hG' : gB G (gbase G') = G') (hbs : gbase G' ≤ H.size) (hI : I H) (hM : Met l y (.code y bytes maxL ret :: WS) rm (hPre G' As I) Qc mc ms (gAb G'))
    (k1 : Cond.methodLink own index y ∈ WS) (k2 : Cond.static y ∈ WS) (k3 : Cond.initialized y.cls ∈ WS) (k4 : Cond.code y bytes maxL ret ∈ WS) (hrc : rm.cells = mc) (hrs : rm.slots = ms) (hd : y.cls ≠ "java/lang/invoke/MethodHandle" ∧ y.cls ≠ "java/lang/invoke/VarHandle" ∧ (parseMethodDescriptor y.desc).map (fun d => d.parameters.length) = some n) (hR : rm.frames + 1 ≤ R.frames ∧ 8 + (maxL + 11) + rm.locals ≤ R.locals)
    (hn : As.length = n) (hsize : ls.size = nL) (hst : st0 = As.reverse ++ rest) (hcat : (rest.map fun v => v.category).sum ≤ 8) (hdg : decode cc pc = .ok (.invokestatic index, 3)) (hf : cells + mc ≤ R.cells ∧ slots + ms ≤ R.slots) :
    va_Run p l e R s m args below meth c H locs cells slots mc ms (F0 m pc ls st0) rest (Qc As.toArray) (gAb G') :=
  va_runS ⟨hx, hb, hml, hown, hts⟩ hM ⟨callB_of n hts (goodWS k4) rfl hrc hrs (hts _ k3) (hts _ k1) hd hR, hts _ k2⟩ ⟨hPre_blind, h_pre hE hS hg hG' hbs hI⟩ rfl hn hsize hst (lv_room hcat) hdg hf
/-- .. a private one of a nest mate -/
theorem h_runSN (hx : p.tables.exec = Jvm.exec) (hb : c.code = cc) (hml : c.maxLocals = nL) (hown : s.vm.findClass own = some m.cls) (hts : ∀ w ∈ WS, w.before args s = true) (hE : EnvP G s) (hS : va_S (gAb G) s.heap H locs) (hg : gbase G ≤ gbase G') (hG' : gB G (gbase G') = G') (hbs : gbase G' ≤ H.size) (hI : I H) (hM : Met l y (.code y bytes maxL ret :: WS) rm (hPre G' As I) Qc mc ms (gAb G'))
    (k1 : (own, index, y, host) ∈ NWm) (k2 : Cond.static y ∈ WS) (k3 : Cond.initialized y.cls ∈ WS) (k4 : Cond.code y bytes maxL ret ∈ WS) (hrc : rm.cells = mc) (hrs : rm.slots = ms) (hd : y.cls ≠ "java/lang/invoke/MethodHandle" ∧ y.cls ≠ "java/lang/invoke/VarHandle" ∧ (parseMethodDescriptor y.desc).map (fun d => d.parameters.length) = some n) (hR : rm.frames + 1 ≤ R.frames ∧ 8 + (maxL + 11) + rm.locals ≤ R.locals)
    (hn : As.length = n) (hsize : ls.size = nL) (hst : st0 = As.reverse ++ rest) (hcat : (rest.map fun v => v.category).sum ≤ 8) (hdg : decode cc pc = .ok (.invokestatic index, 3)) (hf : cells + mc ≤ R.cells ∧ slots + ms ≤ R.slots) :
    va_Run p l e R s m args below meth c H locs cells slots mc ms (F0 m pc ls st0) rest (Qc As.toArray) (gAb G') :=
  va_runSN ⟨hx, hb, hml, hown, hts⟩ hM ⟨va_cnB n hts (goodWS k4) rfl hrc hrs (hE.2.2.1 _ k1) (hts _ k3) hd hR, hts _ k2, trivial⟩ ⟨hPre_blind, h_pre hE hS hg hG' hbs hI⟩ rfl hn hsize hst (lv_room hcat) hdg hf
theorem h_runV (hx : p.tables.exec = Jvm.exec) (hb : c.code = cc) (hml : c.maxLocals = nL) (hown : s.vm.findClass own = some m.cls) (hts : ∀ w ∈ WS, w.before args s = true) (hE : EnvP G s) (hS : va_S (gAb G) s.heap H locs) (hg : gbase G ≤ gbase G') (hG' : gB G (gbase G') = G') (hbs : gbase G' ≤ H.size) (hI : I H) {ws : va_W} (hP : va_P G.1 gcl ws H) (q0 : Nat) {b ci : Nat} {fs : List Value} (he : ws[q0]? = some (b, .inr (ci, fs))) {T : u_T} {N : Nat} (hcl : gcl[ci]? = some (C, T, N)) (hM : Met l y (.code y bytes maxL ret :: WS) rm (hPre G' (.ref b :: As) I) Qc mc ms (gAb G'))
    (k1 : Cond.methodLink own index y ∈ WS) (k2 : Cond.instanceMethod y ∈ WS) (k5 : (Cond.selects C y y).before args s = true) (k3 : Cond.initialized y.cls ∈ WS) (k4 : Cond.code y bytes maxL ret ∈ WS) (hrc : rm.cells = mc) (hrs : rm.slots = ms) (hd : y.cls ≠ "java/lang/invoke/MethodHandle" ∧ y.cls ≠ "java/lang/invoke/VarHandle" ∧ (parseMethodDescriptor y.desc).map (fun d => d.parameters.length) = some n) (hR : rm.frames + 1 ≤ R.frames ∧ 8 + (maxL + 11) + rm.locals ≤ R.locals)
    (hn : As.length = n) (hsize : ls.size = nL) (hst : st0 = As.reverse ++ .ref b :: rest) (hcat : (rest.map fun v => v.category).sum ≤ 8) (hdg : decode cc pc = .ok (.invokevirtual index, 3)) (hf : cells + mc ≤ R.cells ∧ slots + ms ≤ R.slots) :
    va_Run p l e R s m args below meth c H locs cells slots mc ms (F0 m pc ls st0) rest (Qc (Value.ref b :: As).toArray) (gAb G') :=
  va_runV ⟨hx, hb, hml, hown, hts⟩ hM ⟨callB_of n hts (goodWS k4) rfl hrc hrs (hts _ k3) (hts _ k1) hd hR, hts _ k2, k5⟩ ⟨hPre_blind, va_recv hE.1 hP (ci := ci) hcl he, h_pre hE hS hg hG' hbs hI⟩ rfl hn hsize hst (lv_room hcat) hdg hf
/-- a constructor -/
theorem h_runI (hx : p.tables.exec = Jvm.exec) (hb : c.code = cc) (hml : c.maxLocals = nL) (hown : s.vm.findClass own = some m.cls) (hts : ∀ w ∈ WS, w.before args s = true) (hE : EnvP G s) (hS : va_S (gAb G) s.heap H locs) (hg : gbase G ≤ gbase G') (hG' : gB G (gbase G') = G') (hbs : gbase G' ≤ H.size) (hI : I H) {b : Nat} (hM : Met l y (.code y bytes maxL none :: WS) rm (hPre G' (.ref b :: As) I) Qc mc ms (gAb G'))
    (k1 : Cond.methodLink own index y ∈ WS) (k2 : Cond.instanceMethod y ∈ WS) (hnm : y.name = "<init>") (k3 : Cond.initialized y.cls ∈ WS) (k4 : Cond.code y bytes maxL none ∈ WS) (hrc : rm.cells = mc) (hrs : rm.slots = ms) (hd : y.cls ≠ "java/lang/invoke/MethodHandle" ∧ y.cls ≠ "java/lang/invoke/VarHandle" ∧ (parseMethodDescriptor y.desc).map (fun d => d.parameters.length) = some n) (hR : rm.frames + 1 ≤ R.frames ∧ 8 + (maxL + 11) + rm.locals ≤ R.locals)
    (hn : As.length = n) (hsize : ls.size = nL) (hst : st0 = As.reverse ++ .ref b :: rest) (hcat : (rest.map fun v => v.category).sum ≤ 8) (hdg : decode cc pc = .ok (.invokespecial index, 3)) (hf : cells + mc ≤ R.cells ∧ slots + ms ≤ R.slots) :
    va_Run p l e R s m args below meth c H locs cells slots mc ms (F0 m pc ls st0) rest (Qc (Value.ref b :: As).toArray) (gAb G') :=
  va_runI ⟨hx, hb, hml, hown, hts⟩ hM ⟨callB_of n hts (goodWS k4) rfl hrc hrs (hts _ k3) (hts _ k1) hd hR, hnm, hts _ k2⟩ ⟨hPre_blind, h_pre hE hS hg hG' hbs hI⟩ rfl hn hsize hst (lv_room hcat) hdg hf
/-- super.name(..) -/
theorem h_runSU (hx : p.tables.exec = Jvm.exec) (hb : c.code = cc) (hml : c.maxLocals = nL) (hown : s.vm.findClass own = some m.cls) (hts : ∀ w ∈ WS, w.before args s = true) (hE : EnvP G s) (hS : va_S (gAb G) s.heap H locs) (hg : gbase G ≤ gbase G') (hG' : gB G (gbase G') = G') (hbs : gbase G' ≤ H.size) (hI : I H) {ws : va_W} (hP : va_P G.1 gcl ws H) (q0 : Nat) {b ci : Nat} {fs : List Value} (he : ws[q0]? = some (b, .inr (ci, fs))) {T : u_T} {N : Nat} (hcl : gcl[ci]? = some (C, T, N)) (hM : Met l y (.code y bytes maxL ret :: WS) rm (hPre G' (.ref b :: As) I) Qc mc ms (gAb G'))
    (k1 : Cond.methodLink own index y ∈ WS) (k2 : Cond.instanceMethod y ∈ WS) (k5 : Cond.sameMethod y.cls y.cls y.name y.desc ∈ WS) (k6 : Cond.superclass own y.cls ∈ WS) (k3 : Cond.initialized y.cls ∈ WS) (k4 : Cond.code y bytes maxL ret ∈ WS) (hrc : rm.cells = mc) (hrs : rm.slots = ms) (hd : y.name ≠ "<init>" ∧ (parseMethodDescriptor y.desc).map (fun d => d.parameters.length) = some n) (hR : rm.frames + 1 ≤ R.frames ∧ 8 + (maxL + 11) + rm.locals ≤ R.locals)
    (hn : As.length = n) (hsize : ls.size = nL) (hst : st0 = As.reverse ++ .ref b :: rest) (hcat : (rest.map fun v => v.category).sum ≤ 8) (hdg : decode cc pc = .ok (.invokespecial index, 3)) (hf : cells + mc ≤ R.cells ∧ slots + ms ≤ R.slots) :
    va_Run p l e R s m args below meth c H locs cells slots mc ms (F0 m pc ls st0) rest (Qc (Value.ref b :: As).toArray) (gAb G') := by
  refine va_runSU (hE.1.1 ci _ hcl).2 ⟨hx, hb, hml, hown, hts⟩ hM (va_cwSU n hts (fun w hw => ?_) rfl hrc hrs hd hR) ⟨hPre_blind, va_recv hE.1 hP (ci := ci) hcl he, h_pre hE hS hg hG' hbs hI⟩ rfl hn hsize hst (lv_room hcat) hdg hf
  unfold va_wsSU at hw
  rcases List.mem_append.mp hw with h | h
  · have hg9 : ∀ w ∈ WS, w ∈ WS ∧ ((w.onTables && w.keeps) = true ∨ ∃ ty, w = .arrayClass ty) := fun w h => ⟨h, good_of_word (List.all_eq_true.mp WS_good w h)⟩
    simp only [List.mem_cons, List.not_mem_nil, or_false] at h
    rcases h with rfl | rfl | rfl | rfl | rfl
    · exact hg9 _ k1
    · exact hg9 _ k5
    · exact hg9 _ k6
    · exact hg9 _ k2
    · exact hg9 _ k3
  · exact goodWS k4 w h
/-- behind a call -/
theorem h_ci {J : Int32 → Heap → Prop} {a : Array Value} (hr : va_Run p l e R s m args below meth c H locs cells slots mc ms (F0 m pc ls st0) rest (hQi G' J a) (gAb G')) (hS : va_S (gAb G) s.heap H locs) (hg : gbase G ≤ gbase G')
    (kk : ∀ (r : Int32) (H1 : Heap) (locs1 : List Loc), J r H1 → H.size ≤ H1.size → (∀ q : Nat, q < H.size → q < gbase G' → H1[q]? = H[q]?) → va_S (gAb G) s.heap H1 locs1 → W p l e R s m args below meth c H1 locs1 (cells + mc) (slots + ms) Q (F0 m (pc + 3) ls (.int r :: rest))) : W p l e R s m args below meth c H locs cells slots Q (F0 m pc ls st0) :=
  va_calli hr hS (fun q _ h => Nat.le_trans hg h) (fun q h => Nat.le_trans hg h) (fun r u t H1 locs1 ht _ hp hB h1 h2 hS1 => kk r H1 locs1 (by rw [← ht, hB]; exact hp) h1 (fun q a1 a2 => h2 q a1 (Nat.not_le.mpr a2)) hS1)
theorem h_cv {J : Heap → Prop} {a : Array Value} (hr : va_Run p l e R s m args below meth c H locs cells slots mc ms (F0 m pc ls st0) rest (hQv G' J a) (gAb G')) (hS : va_S (gAb G) s.heap H locs) (hg : gbase G ≤ gbase G')
    (kk : ∀ (H1 : Heap) (locs1 : List Loc), J H1 → H.size ≤ H1.size → (∀ q : Nat, q < H.size → q < gbase G' → H1[q]? = H[q]?) → va_S (gAb G) s.heap H1 locs1 → W p l e R s m args below meth c H1 locs1 (cells + mc) (slots + ms) Q (F0 m (pc + 3) ls rest)) : W p l e R s m args below meth c H locs cells slots Q (F0 m pc ls st0) :=
  va_callv hr hS (fun q _ h => Nat.le_trans hg h) (fun q h => Nat.le_trans hg h) (fun u t H1 locs1 ht _ hp hB h1 h2 hS1 => kk H1 locs1 (by rw [← ht, hB]; exact hp) h1 (fun q a1 a2 => h2 q a1 (Nat.not_le.mpr a2)) hS1)
theorem h_cr {J : Nat → Heap → Prop} {a : Array Value} (hr : va_Run p l e R s m args below meth c H locs cells slots mc ms (F0 m pc ls st0) rest (hQr G' J a) (gAb G')) (hS : va_S (gAb G) s.heap H locs) (hg : gbase G ≤ gbase G')
    (kk : ∀ (ra : Nat) (H1 : Heap) (locs1 : List Loc), J ra H1 → H.size ≤ H1.size → (∀ q : Nat, q < H.size → q < gbase G' → H1[q]? = H[q]?) → va_S (gAb G) s.heap H1 locs1 → W p l e R s m args below meth c H1 locs1 (cells + mc) (slots + ms) Q (F0 m (pc + 3) ls (.ref ra :: rest))) : W p l e R s m args below meth c H locs cells slots Q (F0 m pc ls st0) :=
  va_callr hr hS (fun q _ h => Nat.le_trans hg h) (fun q h => Nat.le_trans hg h) (fun u ra t H1 locs1 ht _ hp hB h1 h2 hS1 => by
    obtain ⟨q1, q2⟩ := hB
    subst q1
    exact kk u.1 H1 locs1 (by rw [← ht, q2]; exact hp) h1 (fun q a1 a2 => h2 q a1 (Nat.not_le.mpr a2)) hS1)
/-- new C, at the heap's end -/
theorem h_new (hx : p.tables.exec = Jvm.exec) (hb : c.code = cc) {T : u_T} {N ci : Nat} (hts : ∀ w ∈ WS, w.before args s = true) (hin : ∀ w ∈ u_ws C T N, w ∈ WS) (ty : Nat → FieldType) (hty : ∀ k, k < N → parseFieldDescriptor (T k).2.2.1 = some (ty k)) (hown : s.vm.findClass own = some m.cls) (k1 : Cond.classLink own index C ∈ WS) (k2 : Cond.instantiable C N ∈ WS) (k3 : Cond.initialized C ∈ WS)
    (hE : EnvP G s) (hS : va_S (gAb G) s.heap H locs) (hbs : gbase G ≤ s.heap.size) (hc : gcl[ci]? = some (C, T, N)) {fs : List Value} (hfs : ∀ j, j < N → defaultValue (ty j) = vp_V fs j) (hcells : cells + 1 ≤ R.cells) (hslots : slots + N ≤ R.slots) (hdg : decode cc pc = .ok (.new index, 3))
    (kk : ∀ (H1 : Heap), va_at G.1 gcl (H.size, .inr (ci, fs)) H1 → H1.size = H.size + 1 → (∀ q, q < H.size → H1[q]? = H[q]?) → va_S (gAb G) s.heap H1 locs →
      W p l e R s m args below meth c H1 locs (cells + 1) (slots + N) Q (F0 m (pc + 3) ls (.ref H.size :: rest))) : W p l e R s m args below meth c H locs cells slots Q (F0 m pc ls rest) := by
  have hKn := hE.1.1 ci _ hc
  refine W.newcK hx hb hown (hts _ k1) (hts _ k2) (hts _ k3) rfl hdg hcells hslots hKn.2.1 rfl fun H1 kC hkC e1 z1 o1 => ?_
  refine kk H1 ?_ z1 o1 ⟨Nat.le_trans hS.1 (by omega), fun x h1 h2 => (o1 x (Nat.lt_of_lt_of_le h1 hS.1)).trans (hS.2.1 x h1 h2), hS.2.2⟩
  exact ⟨_, hc, (u_born ty hts hin hKn hkC e1 hty).to hfs⟩
/-- new array of numbers, at the heap's end -/
theorem h_newa (hx : p.tables.exec = Jvm.exec) (hb : c.code = cc) (hts : ∀ w ∈ WS, w.before args s = true) {atype : ArrayType} (harr : Cond.arrayClass (newarray.typeOf atype) ∈ WS) {t0 : Nat} (hnm : ("[" ++ (newarray.typeOf atype).toString, t0) ∈ ARN) (hE : EnvP G s) (hS : va_S (gAb G) s.heap H locs)
    {n : Int32} {N' : Nat} {a0 : vp_A} (ha : ∀ cA : ClassId, vp_cell cA a0 = arrV cA N' (fun _ => defaultValue (newarray.typeOf atype))) (hn : ¬ n < 0) (hN : n.toNatClampNeg = N') (hbytes : N' * componentBytes (newarray.typeOf atype) ≤ 536870912) (hcells : cells + 1 ≤ R.cells) (hslots : slots + N' ≤ R.slots) (hdg : decode cc pc = .ok (.newarray atype, 2))
    (kk : ∀ (H1 : Heap), va_at G.1 gcl (H.size, .inl (gC G t0, a0)) H1 → H1.size = H.size + 1 → (∀ q, q < H.size → H1[q]? = H[q]?) → va_S (gAb G) s.heap H1 locs →
      W p l e R s m args below meth c H1 locs (cells + 1) (slots + N') Q (F0 m (pc + 2) ls (.ref H.size :: rest))) : W p l e R s m args below meth c H locs cells slots Q (F0 m pc ls (.int n :: rest)) := by
  refine va_newaK hx hb (hts _ harr) rfl hdg rfl hn hN hbytes hcells hslots rfl fun H1 cA e1 z1 o1 hAr hNm => ?_
  have hc : cA = gC G t0 := Option.some.inj (hNm.symm.trans (hE.2.2.2.2.2.2.2.2.2.2.2.2.2.2.1 _ hnm))
  subst hc
  refine kk H1 ?_ z1 o1 ⟨Nat.le_trans hS.1 (by omega), fun x h1 h2 => (o1 x (Nat.lt_of_lt_of_le h1 hS.1)).trans (hS.2.1 x h1 h2), hS.2.2⟩
  show H1[H.size]? = some (vp_cell _ _)
  rw [ha]
  exact e1
/-- new array of references, at the heap's end -/
theorem h_anew (hx : p.tables.exec = Jvm.exec) (hb : c.code = cc) (hts : ∀ w ∈ WS, w.before args s = true) (hown : s.vm.findClass own = some m.cls) (k1 : Cond.classLink own index C ∈ WS) (hover : C ∈ AOs) {t0 : Nat} (hnm : ("[" ++ (FieldType.object C).toString, t0) ∈ ARN) (hE : EnvP G s) (hS : va_S (gAb G) s.heap H locs)
    {n : Int32} {N' : Nat} (hn : ¬ n < 0) (hN : n.toNatClampNeg = N') (hbytes : N' * 4 ≤ 536870912) (hcells : cells + 1 ≤ R.cells) (hslots : slots + N' ≤ R.slots) (hdg : decode cc pc = .ok (.anewarray index, 3))
    (kk : ∀ (H1 : Heap), va_at G.1 gcl (H.size, aR (gC G t0) N' (fun _ => none)) H1 → H1.size = H.size + 1 → (∀ q, q < H.size → H1[q]? = H[q]?) → va_S (gAb G) s.heap H1 locs →
      W p l e R s m args below meth c H1 locs (cells + 1) (slots + N') Q (F0 m (pc + 3) ls (.ref H.size :: rest))) : W p l e R s m args below meth c H locs cells slots Q (F0 m pc ls (.int n :: rest)) := by
  subst hN
  refine W.anew hx hb hown (hts _ k1) (va_AO.use (hE.2.2.2.2.2.2.2.2.2.2.2.2.2.2.2.1 C hover)) rfl hdg rfl hn hbytes hcells hslots fun cA kA comp f1 f2 f3 f4 => ?_
  generalize hH1 : H.push ({ cls := cA, slots := Array.replicate n.toNatClampNeg .null, vm := .none } : Cell) = H1
  have z1 : H1.size = H.size + 1 := by rw [← hH1, Array.size_push]
  have e1 : H1[H.size]? = some (arrV cA n.toNatClampNeg (fun _ => .null)) := by rw [← hH1, Array.getElem?_push_size, ← arrV_new]
  have o1 : ∀ q : Nat, q < H.size → H1[q]? = H[q]? := fun q hq => by rw [← hH1, Array.getElem?_push, if_neg (Nat.ne_of_lt hq)]
  have hc : cA = gC G t0 := Option.some.inj (f1.symm.trans (hE.2.2.2.2.2.2.2.2.2.2.2.2.2.2.1 _ hnm))
  subst hc
  refine kk H1 ?_ z1 o1 ⟨Nat.le_trans hS.1 (by omega), fun x h1 h2 => (o1 x (Nat.lt_of_lt_of_le h1 hS.1)).trans (hS.2.1 x h1 h2), hS.2.2⟩
  show H1[H.size]? = some (vp_cell _ _)
  rw [vp_cell_q]
  exact e1
end HC
/-- one more at the heap's end -/
theorem WW_push {G : GT} {H0 H H1 : Heap} {ws : va_W} {locs locs1 : List Loc} {e : va_E} (hW : WW G H0 ws H locs) (hbs : gbase G ≤ H0.size) (ha : va_at G.1 gcl (H.size, e) H1) (hk : ∀ q, q < H.size → H1[q]? = H[q]?) (hS : va_S (gAb G) H0 H1 locs1) : WW G H0 (ws ++ [(H.size, e)]) H1 locs1 := by
  have hk' : ∀ (k : Nat) (x : Nat × va_E), ws[k]? = some x → H1[x.1]? = H[x.1]? := fun k x hx => hk x.1 ((hW.1 k x hx).lt)
  refine ⟨(hW.1.kept hk').app (fun k x hx => ?_), hW.2.1.push hW.1 rfl (Nat.le_trans hbs hW.2.2.1), hS⟩
  have hz : k < 1 := (List.getElem?_eq_some_iff.mp hx).1
  rw [show k = 0 by omega] at hx
  cases hx
  exact ha
theorem WW_sub {G : GT} {H0 H : Heap} {ws ws' : va_W} {locs : List Loc} (hW : WW G H0 ws H locs) (is : List Nat) (hn : va_nd is = true) (hs : is.map (fun i => ws[i]?) = ws'.map some) : WW G H0 ws' H locs := by
  refine ⟨fun k q hk => ?_, hW.2.1.sub is hn hs, hW.2.2⟩
  have h1 : (is.map (fun i => ws[i]?))[k]? = some (some q) := by rw [hs, List.getElem?_map, hk]; rfl
  rw [List.getElem?_map] at h1
  cases hi : is[k]? with
  | none => rw [hi] at h1; cases h1
  | some i => rw [hi] at h1; exact hW.1 i q (Option.some.inj h1)
/-- a private method of a class above that of the receiver -/
theorem sel_priv {C : String} {y z : MethodName} {s : State} {args : Array Value} {n : Nat} (hy : y.cls ≠ "java/lang/invoke/MethodHandle" ∧ y.cls ≠ "java/lang/invoke/VarHandle")
    (hins : (Cond.instantiable C n).before args s = true) (hsm : (Cond.sameMethod y.cls y.cls z.name z.desc).before args s = true) (hpriv : (Cond.privateMethod y).before args s = true) (hinst : (Cond.instanceMethod y).before args s = true) :
    (Cond.selects C y y).before args s = true := by
  obtain ⟨c, k, hc, hk, -, -, -, -⟩ := Cond.instantiable_spec hins
  obtain ⟨cn, ck, r1, hcn, hck, hni, hf, hn1⟩ := Cond.sameMethod_found hsm
  obtain ⟨mk, methM, hnamed, hmethM, -, -⟩ := Cond.instanceMethod_spec hinst
  have hfound : s.methodFound? y.cls y.name y.desc = some mk := State.methodFound?_of_named hnamed hy
  have hcls : mk.cls = cn := Option.some.inj ((findClass_of_methodNamed hnamed).symm.trans hcn)
  have hsel : selectMethod {} s.vm c mk = .method mk := selectMethod_private hmethM (Cond.privateMethod_at hpriv mk methM hnamed hmethM)
  simp only [Cond.before, Cond.holds, Cond.value, hc, hfound, hnamed, hsel, hcls, hck]
  simp; exact hni
