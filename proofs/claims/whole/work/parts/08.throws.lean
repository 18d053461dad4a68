/-! Methods that may throw, over the one world. -/
def cX (G : GT) (xpost : String → DD → Prop) : String → State → State → Prop := vx_X (S := String × DD) (fun u => xpost u.1 u.2) (fun E u t => E = u.1 ∧ cB G u.2 t) (gAb G)
theorem c_startX {l : Launch} {G : GT} {y : MethodName} {own : String} {cc : ByteArray} {maxL : Nat} {ret : Option FieldType} {rm : Room} {av : List Value} {d : DD} {Qc : Array Value → State → Outcome → State → Prop} {XC : String → State → State → Prop} {mc ms : Nat} (hy : plainName y.cls = true) (hown : y.cls = own) (hlen : (lg_sl av).length ≤ maxL)
    (body : ∀ (p : Program) (e : Env) (s : State) (m : MethodId) (below : List Frame) (meth : Method) (c : Code) (ls : Array Slot), (∀ x ∈ c.exceptionTable.toList, False) → CX G own cc maxL ret p s m av.toArray meth c → WD G s.heap d s.heap [] → lv_has ls maxL (lv_args 0 av) → W p l e rm s m av.toArray below meth c s.heap [] 0 0 (vx_MQ below Qc XC av.toArray s mc ms (gAb G)) (F0 m 0 ls [])) : vx_Met l y (.code y cc maxL ret :: WS) rm (cPre G av d) Qc XC mc ms (gAb G) := by
  refine vx_ofW (cc := cc) (maxL := maxL) (ret := ret) hy rfl ?_
  intro p e s m args below meth c s₁ B hml hno hv
  obtain ⟨rfl, hE, hbs, hP, hD⟩ := hv
  have hts := atoms_spec (ws := .code y cc maxL ret :: WS) B.pre
  have ho : s.vm.findClass y.cls = some m.cls := findClass_of_methodNamed B.named
  rw [hown] at ho
  rw [lg_entry_eq]
  exact body p e s m below meth c _ hno ⟨B.exec, B.bytes, B.returns, hml, ho, fun w h => hts w (List.mem_cons_of_mem _ h), B.notSynchronized, hE, hbs⟩ ⟨hP, hD, va_S.rf⟩ (lv_entry av hlen)
/-- the words of 'throw new cls("..")' in the class own -/
abbrev XB (cls : String) : List Cond := [.declares ⟨"java/lang/RuntimeException", "<init>", "(Ljava/lang/String;)V"⟩, .declares ⟨"java/lang/Exception", "<init>", "(Ljava/lang/String;)V"⟩, .declares ⟨"java/lang/Throwable", "<init>", "(Ljava/lang/String;)V"⟩, .castable cls cls]
def XT (own : String) (ik ic : Nat) (cls : String) : Prop := Bundle.fit cls = true ∧ Cond.classLink own ik cls ∈ WS ∧ Cond.initialized cls ∈ WS ∧ (∀ w ∈ (vx_atS own ic cls XN).filter goodWord, w ∈ WS) ∧ (∀ w ∈ (vx_atS own ic cls XN).filter (fun w => !goodWord w), w ∈ XB cls) ∧ cls ∈ EXC ∧ ∀ w ∈ Cond.classLink own ik cls :: Cond.initialized cls :: vx_atS own ic cls XN, vx_ot w = true
theorem xt_good {L : List Cond} (h : (L.filter goodWord).all (fun w => decide (w ∈ lw_tbl)) = true) : ∀ w ∈ L.filter goodWord, w ∈ WS := fun w hw => List.mem_filter.mpr ⟨of_decide_eq_true (List.all_eq_true.mp h w hw), (List.mem_filter.mp hw).2⟩
section EX
variable {p : Program} {l : Launch} {e : Env} {R : Room} {s : State} {m : MethodId} {args : Array Value} {below : List Frame} {meth : Method} {c : Code} {H : Heap} {locs : List Loc} {cells slots : Nat} {Q : State → Prop}
variable {cc : ByteArray} {pc : Nat} {ls : Array Slot} {rest : List Value} {G : GT} {d : DD}
variable {y : MethodName} {bytes : ByteArray} {maxL nL mc ms n index : Nat} {ret : Option FieldType} {rm : Room} {Qc : Array Value → State → Outcome → State → Prop} {XC : String → State → State → Prop} {own C host : String} {As st0 : List Value}
theorem e_xrunS (hx : p.tables.exec = Jvm.exec) (hb : c.code = cc) (hml : c.maxLocals = nL) (hown : s.vm.findClass own = some m.cls) (hts : ∀ w ∈ WS, w.before args s = true) (hE : EnvP G s) (hbs : gbase G ≤ s.heap.size) (hW : WD G s.heap d H locs) (hM : vx_Met l y (.code y bytes maxL ret :: WS) rm (cPre G As d) Qc XC mc ms (gAb G))
    (k1 : Cond.methodLink own index y ∈ WS) (k2 : Cond.static y ∈ WS) (k3 : Cond.initialized y.cls ∈ WS) (k4 : Cond.code y bytes maxL ret ∈ WS) (hrc : rm.cells = mc) (hrs : rm.slots = ms) (hd : y.cls ≠ "java/lang/invoke/MethodHandle" ∧ y.cls ≠ "java/lang/invoke/VarHandle" ∧ (parseMethodDescriptor y.desc).map (fun d => d.parameters.length) = some n) (hR : rm.frames + 1 ≤ R.frames ∧ 8 + (maxL + 11) + rm.locals ≤ R.locals)
    (hn : As.length = n) (hsize : ls.size = nL) (hst : st0 = As.reverse ++ rest) (hcat : (rest.map fun v => v.category).sum ≤ 8) (hdg : decode cc pc = .ok (.invokestatic index, 3)) (hf : cells + mc ≤ R.cells ∧ slots + ms ≤ R.slots) :
    vx_Run p l e R s m args below meth c H locs cells slots mc ms (F0 m pc ls st0) rest (Qc As.toArray) XC (gAb G) :=
  vx_runS ⟨hx, hb, hml, hown, hts⟩ hM ⟨callB_of n hts (goodWS k4) rfl hrc hrs (hts _ k3) (hts _ k1) hd hR, hts _ k2⟩ ⟨cPre_blind, pre_of hE hW hbs⟩ rfl hn hsize hst (lv_room hcat) hdg hf
theorem e_xrunV (hx : p.tables.exec = Jvm.exec) (hb : c.code = cc) (hml : c.maxLocals = nL) (hown : s.vm.findClass own = some m.cls) (hts : ∀ w ∈ WS, w.before args s = true) (hE : EnvP G s) (hbs : gbase G ≤ s.heap.size) (hW : WD G s.heap d H locs) {cn ci : Nat} {fs : (Nat → Int32) → List Value} (hF : OB G cn ci fs) {T : u_T} {N : Nat} (hcl : gcl[ci]? = some (C, T, N)) (hM : vx_Met l y (.code y bytes maxL ret :: WS) rm (cPre G (.ref (gad G cn) :: As) d) Qc XC mc ms (gAb G))
    (k1 : Cond.methodLink own index y ∈ WS) (k2 : Cond.instanceMethod y ∈ WS) (k5 : Cond.selects C y y ∈ WS) (k3 : Cond.initialized y.cls ∈ WS) (k4 : Cond.code y bytes maxL ret ∈ WS) (hrc : rm.cells = mc) (hrs : rm.slots = ms) (hd : y.cls ≠ "java/lang/invoke/MethodHandle" ∧ y.cls ≠ "java/lang/invoke/VarHandle" ∧ (parseMethodDescriptor y.desc).map (fun d => d.parameters.length) = some n) (hR : rm.frames + 1 ≤ R.frames ∧ 8 + (maxL + 11) + rm.locals ≤ R.locals)
    (hn : As.length = n) (hsize : ls.size = nL) (hst : st0 = As.reverse ++ .ref (gad G cn) :: rest) (hcat : (rest.map fun v => v.category).sum ≤ 8) (hdg : decode cc pc = .ok (.invokevirtual index, 3)) (hf : cells + mc ≤ R.cells ∧ slots + ms ≤ R.slots) :
    vx_Run p l e R s m args below meth c H locs cells slots mc ms (F0 m pc ls st0) rest (Qc (Value.ref (gad G cn) :: As).toArray) XC (gAb G) := by
  obtain ⟨k0, hk0⟩ := wl_get (G := G) (d := d) hF.1
  have hk1 : (wl G d)[k0]? = some (gad G cn, Sum.inr (ci, fs (d cn))) := by rw [hk0, en, hF.2]
  exact vx_runV ⟨hx, hb, hml, hown, hts⟩ hM ⟨callB_of n hts (goodWS k4) rfl hrc hrs (hts _ k3) (hts _ k1) hd hR, hts _ k2, hts _ k5⟩ ⟨cPre_blind, va_recv hE.1 hW.1 (ci := ci) hcl hk1, pre_of hE hW hbs⟩ rfl hn hsize hst (lv_room hcat) hdg hf
theorem e_xv {post : DD → Prop} {xpost : String → DD → Prop} {a : Array Value} (hr : vx_Run p l e R s m args below meth c H locs cells slots mc ms (F0 m pc ls st0) rest (cQv G post a) (cX G xpost) (gAb G)) (hW : WD G s.heap d H locs)
    (kx : ∀ (E : String) (ce : Cell) (q9 : Addr) (d' : DD) (H1 : Heap) (locs1 : List Loc), xpost E d' → WD G s.heap d' H1 locs1 → H1[q9]? = some ce → ce.vm = .none → s.vm.findClass E = some ce.cls → vx_W p l e R s m args below meth c H1 locs1 (cells + mc) (slots + ms) Q (F0 m pc ls rest) q9)
    (kk : ∀ (d' : DD) (H1 : Heap) (locs1 : List Loc), post d' → WD G s.heap d' H1 locs1 → W p l e R s m args below meth c H1 locs1 (cells + mc) (slots + ms) Q (F0 m (pc + 3) ls rest)) : W p l e R s m args below meth c H locs cells slots Q (F0 m pc ls st0) :=
  vx_callv hr hW.2.2 (fun _ _ h => h) (fun _ h => h) (fun _ _ h => h) (fun E ce q9 u t H1 locs1 ht _ hp hB _ _ hS h1 h2 h3 => by
    obtain ⟨rfl, hB⟩ := hB
    exact kx _ ce q9 u.2 H1 locs1 hp ⟨by rw [← ht]; exact hB.1, hB.2, hS⟩ h1 h2 h3)
    (fun u t H1 locs1 ht _ hp hB _ _ hS => kk u H1 locs1 hp ⟨by rw [← ht]; exact hB.1, hB.2, hS⟩)
theorem e_xi {post : Int32 → DD → Prop} {xpost : String → DD → Prop} {a : Array Value} (hr : vx_Run p l e R s m args below meth c H locs cells slots mc ms (F0 m pc ls st0) rest (cQi G post a) (cX G xpost) (gAb G)) (hW : WD G s.heap d H locs)
    (kx : ∀ (E : String) (ce : Cell) (q9 : Addr) (d' : DD) (H1 : Heap) (locs1 : List Loc), xpost E d' → WD G s.heap d' H1 locs1 → H1[q9]? = some ce → ce.vm = .none → s.vm.findClass E = some ce.cls → vx_W p l e R s m args below meth c H1 locs1 (cells + mc) (slots + ms) Q (F0 m pc ls rest) q9)
    (kk : ∀ (r : Int32) (d' : DD) (H1 : Heap) (locs1 : List Loc), post r d' → WD G s.heap d' H1 locs1 → W p l e R s m args below meth c H1 locs1 (cells + mc) (slots + ms) Q (F0 m (pc + 3) ls (.int r :: rest))) : W p l e R s m args below meth c H locs cells slots Q (F0 m pc ls st0) :=
  vx_calli hr hW.2.2 (fun _ _ h => h) (fun _ h => h) (fun _ _ h => h) (fun E ce q9 u t H1 locs1 ht _ hp hB _ _ hS h1 h2 h3 => by
    obtain ⟨rfl, hB⟩ := hB
    exact kx _ ce q9 u.2 H1 locs1 hp ⟨by rw [← ht]; exact hB.1, hB.2, hS⟩ h1 h2 h3)
    (fun r u t H1 locs1 ht _ hp hB _ _ hS => kk r u H1 locs1 hp ⟨by rw [← ht]; exact hB.1, hB.2, hS⟩)
/-- throw new cls("text") -/
theorem e_thr {xpost : String → DD → Prop} (hl : l.stackTraces = false) (hx : p.tables.exec = Jvm.exec) (hb : c.code = cc) (hown : s.vm.findClass own = some m.cls) (hts : ∀ w ∈ WS, w.before args s = true) (hE : EnvP G s) (hW : WD G s.heap d H locs) (hml : c.maxLocals = nL) (hsz : ls.size = nL) (hno : ∀ x ∈ c.exceptionTable.toList, False) (hlk : meth.locks = false) {cls text : String} {ik is ic : Nat} (T : XT own ik ic cls) (ks : (own, is, text) ∈ STRS)
    (d0 : decode cc pc = .ok (.new ik, 3)) (d3 : decode cc (pc + 3) = .ok (.dup, 1)) (d4 : decode cc (pc + 4) = .ok (.ldc is, 2)) (d6 : decode cc (pc + 6) = .ok (.invokespecial ic, 3)) (d9 : decode cc (pc + 9) = .ok (.athrow, 1)) (hRf : 5 < R.frames) (hRl : (rest.map fun v => v.category).sum + 82 ≤ R.locals) (hRc : cells + 1 ≤ R.cells) (hRs : slots + 6 ≤ R.slots) {mc ms : Nat} (hc : cells + 1 ≤ mc) (hs : slots + 6 ≤ ms) (hp : xpost cls d) :
    W p l e R s m args below meth c H locs cells slots (vx_MQ below Qc (cX G xpost) args s mc ms (gAb G)) (F0 m pc ls rest) := by
  obtain ⟨t1, t2, t3, t4, t5, t6, t7⟩ := T
  obtain ⟨-, -, -, eU, eN, eS, eD, eC, -⟩ := hE
  obtain ⟨sa, hstr⟩ := eS _ ks
  have hB : ∀ w ∈ XB cls, w.before args s = true := vx_c (va_Nw.use rfl (eD _ (List.mem_of_getElem? (i := 0) rfl))) (vx_c (va_Nw.use rfl (eD _ (List.mem_of_getElem? (i := 1) rfl))) (vx_c (va_Nw.use rfl (eD _ (List.mem_of_getElem? (i := 2) rfl))) (vx_c (va_Nw.use rfl (eC _ t6)) vx_n)))
  exact vx_throwS hx hb hl (names := XN) hown t1 (by decide +kernel) (hts _ t2) (hts _ t3) hstr (vx_hat (fun w h => hts w (t4 w h)) t5 hB) t7 eU eN hW.2.2 (hsz.trans hml.symm) d0 d3 d4 d6 d9 (fun x h => (hno x h).elim) hRf hRl hRc hRs hlk
    (fun t _ h1 h2 => ⟨(cls, d), hp, ⟨rfl, hW.1.kept (fun k q hk => h2 q.1 ((hW.1 k q hk).lt)), hW.2.1⟩, Nat.le_trans hW.2.2.1 h1, fun q hq hA => (h2 q (Nat.lt_of_lt_of_le hq hW.2.2.1)).trans (hW.2.2.2.1 q hq hA)⟩) hW.2.2.2.2 hc hs
/-- not caught here -/
theorem e_xout {xpost : String → DD → Prop} {E : String} {ce : Cell} {q : Addr} (hno : ∀ x ∈ c.exceptionTable.toList, False) (hlk : meth.locks = false) (hW : WD G s.heap d H locs) (h1 : H[q]? = some ce) (h2 : ce.vm = .none) (h3 : s.vm.findClass E = some ce.cls) (hp : xpost E d) {mc ms : Nat} (hc : cells ≤ mc) (hs : slots ≤ ms) :
    vx_W p l e R s m args below meth c H locs cells slots (vx_MQ below Qc (cX G xpost) args s mc ms (gAb G)) (F0 m pc ls rest) q :=
  vx_out (E := E) (fun x hx => (hno x hx).elim) hlk h1 h2 h3 (fun t ht _ => ⟨(E, d), hp, ⟨rfl, by rw [ht]; exact hW.1, hW.2.1⟩, hW.2.2.F ht⟩) hW.2.2.2.2 hc hs
/-- ends of bodies that may throw -/
theorem e_xiret {post : Int32 → DD → Prop} (hx : p.tables.exec = Jvm.exec) (hb : c.code = cc) (hr : meth.sig.returnType = some .int) (hlk : meth.locks = false) (hW : WD G s.heap d H locs) {v : Int32} (hp : post v d) {mc ms : Nat} (hc : cells ≤ mc) (hs : slots ≤ ms) (hdg : decode cc pc = .ok (.ireturn, 1)) : W p l e R s m args below meth c H locs cells slots (vx_MQ below (cQi G post) XC args s mc ms (gAb G)) (F0 m pc ls [.int v]) := vx_ret (e_iret hx hb hr hlk hW hp hc hs hdg)
theorem e_xzret {post : Int32 → DD → Prop} (hx : p.tables.exec = Jvm.exec) (hb : c.code = cc) (hr : meth.sig.returnType = some .boolean) (hlk : meth.locks = false) (hW : WD G s.heap d H locs) {v : Int32} (h01 : v = 0 ∨ v = 1) (hp : post v d) {mc ms : Nat} (hc : cells ≤ mc) (hs : slots ≤ ms) (hdg : decode cc pc = .ok (.ireturn, 1)) : W p l e R s m args below meth c H locs cells slots (vx_MQ below (cQi G post) XC args s mc ms (gAb G)) (F0 m pc ls [.int v]) := vx_ret (e_zret hx hb hr hlk hW h01 hp hc hs hdg)
theorem e_xvret {post : DD → Prop} (hx : p.tables.exec = Jvm.exec) (hb : c.code = cc) (hr : meth.sig.returnType = none) (hlk : meth.locks = false) (hW : WD G s.heap d H locs) (hp : post d) {mc ms : Nat} (hc : cells ≤ mc) (hs : slots ≤ ms) (hdg : decode cc pc = .ok (.return_, 1)) : W p l e R s m args below meth c H locs cells slots (vx_MQ below (cQv G post) XC args s mc ms (gAb G)) (F0 m pc ls []) := vx_ret (e_vret hx hb hr hlk hW hp hc hs hdg)
end EX
