/-- what stands outside the world: two statics of Throwable, the texts of the throws -/
abbrev STRS : List (String × Nat × String) := [(R_PC, 59, "all transactions are begun"), (R_PC, 213, "a number out of range"), (R_PC, 217, "there is no such transaction"), (R_PC, 220, "it is not up"), (R_PC, 78, "another transaction has the lock"), (R_PC, 86, "the transaction writes no more here"), (R_PC, 101, "the transaction has no members"), (R_PC, 103, "the transaction is closed"), (R_PC, 120, "the store is not working"), (R_PC, 128, "the transaction is not closed"), (R_PC, 224, "there is no such message"), (R_PC, 168, "no character below 0"), (R_Msg, 53, "PARVTO"), (R_PC, 201, "the leader knows no outcome")]
theorem ks_59 : (R_PC, 59, "all transactions are begun") ∈ STRS := List.mem_of_getElem? (i := 0) rfl
theorem ks_213 : (R_PC, 213, "a number out of range") ∈ STRS := List.mem_of_getElem? (i := 1) rfl
theorem ks_217 : (R_PC, 217, "there is no such transaction") ∈ STRS := List.mem_of_getElem? (i := 2) rfl
theorem ks_220 : (R_PC, 220, "it is not up") ∈ STRS := List.mem_of_getElem? (i := 3) rfl
theorem ks_78 : (R_PC, 78, "another transaction has the lock") ∈ STRS := List.mem_of_getElem? (i := 4) rfl
theorem ks_86 : (R_PC, 86, "the transaction writes no more here") ∈ STRS := List.mem_of_getElem? (i := 5) rfl
theorem ks_101 : (R_PC, 101, "the transaction has no members") ∈ STRS := List.mem_of_getElem? (i := 6) rfl
theorem ks_103 : (R_PC, 103, "the transaction is closed") ∈ STRS := List.mem_of_getElem? (i := 7) rfl
theorem ks_120 : (R_PC, 120, "the store is not working") ∈ STRS := List.mem_of_getElem? (i := 8) rfl
theorem ks_128 : (R_PC, 128, "the transaction is not closed") ∈ STRS := List.mem_of_getElem? (i := 9) rfl
theorem ks_224 : (R_PC, 224, "there is no such message") ∈ STRS := List.mem_of_getElem? (i := 10) rfl
theorem ks_168 : (R_PC, 168, "no character below 0") ∈ STRS := List.mem_of_getElem? (i := 11) rfl
theorem ks_201 : (R_PC, 201, "the leader knows no outcome") ∈ STRS := List.mem_of_getElem? (i := 13) rfl
abbrev XN : List String := ["java/lang/RuntimeException", "java/lang/Exception"]
abbrev DCL : List MethodName := [⟨"java/lang/RuntimeException", "<init>", "(Ljava/lang/String;)V"⟩, ⟨"java/lang/Exception", "<init>", "(Ljava/lang/String;)V"⟩, ⟨"java/lang/Throwable", "<init>", "(Ljava/lang/String;)V"⟩]
abbrev EXC : List String := ["java/lang/IllegalStateException", "java/lang/IllegalArgumentException", "java/util/NoSuchElementException", "java/lang/UnsupportedOperationException", "java/lang/IndexOutOfBoundsException"]
theorem va_AOA.moved {t : FieldType} {u U : State} (hvm : u.vm.Alike U.vm) (h : va_AOA t u) : va_AOA t U := by
  unfold va_AOA Cond.before Cond.holds at h
  simp only [Cond.value, beq_iff_eq] at h
  cases hc : u.vm.findClass (FieldType.array t).toString with
  | none => simp [hc] at h
  | some comp =>
    simp only [hc, Option.bind_some, Option.bind_eq_some_iff, Option.map_eq_some_iff] at h
    obtain ⟨c, hi0, k, hk, hb⟩ := h
    obtain ⟨k', hk', he⟩ := hvm.2.2 _ _ hk
    have hb2 : U.vm.bare = u.vm.bare := by first | exact hvm.bare_eq | exact hvm.bare_eq.symm
    have hi : (U.vm.classes.findIdx? fun (x : Class) => match x.kind with | .array component _ => component == comp | _ => false) = some c := by
      refine Eq.trans (va_idx_bare U.vm comp).symm ?_
      rw [hb2]
      exact (va_idx_bare u.vm comp).trans hi0
    have f1 : U.vm.findClass (FieldType.array t).toString = some comp := by rw [hvm.findClass]; exact hc
    unfold va_AOA Cond.before Cond.holds
    simp only [Cond.value]
    rw [f1, Option.bind_some]
    refine (congrArg (fun o : Option Nat => (o.bind (fun c => (U.vm.classes[c]?).map fun (k : Class) => match k.kind with | .array _ ty => decide (ty = FieldType.array t) && decide (U.vm.findClass ("[" ++ (FieldType.array t).toString) = some c) | _ => false) == some true)) hi).trans ?_
    have hkk : k'.kind = k.kind := by rw [he]
    have ff : U.vm.findClass ("[" ++ (FieldType.array t).toString) = u.vm.findClass ("[" ++ (FieldType.array t).toString) := hvm.findClass _ _
    cases hkind : k.kind with
    | array component ty => rw [hkind] at hb; simp at hb; simp [hk', hkk, hkind, ff, hb.1, hb.2]
    | _ => rw [hkind] at hb; simp at hb
/-- array classes by name -/
abbrev ARN : List (String × Nat) := [("[I", 0), ("[Z", 1), ("[J", 2), ("[[I", 3), ("[LPaxosCommit$Store;", 4), ("[LPaxosCommit$Acceptor;", 5), ("[LPaxosCommit$Ledger;", 6), ("[LPaxosCommit$Message;", 7), ("[B", 8)]
abbrev AOs : List String := [R_Store, R_Acc, R_Led, R_Msg]
abbrev PRV : List MethodName := [y_AbstractStringBuilder_ensureCapacityInternal, y_AbstractStringBuilder_newCapacity]
/-- what texts and new arrays ask -/
def EnvS (G : GT) (U : State) : Prop := va_Z "java/lang/String" "COMPACT_STRINGS" "Z" (.int 1) (gAb G) U U.heap ∧ va_Zq "jdk/internal/util/Preconditions" "SIOOBE_FORMATTER" "Ljava/util/function/BiFunction;" (gAb G) U U.heap
  ∧ (∃ t : Nat, va_Z "java/lang/Integer" "DigitOnes" "[B" (.ref t) (gAb G) U U.heap ∧ va_T .byte t 100 (fun j => .int (nI (48 + j % 10))) (gAb G) U U.heap)
  ∧ (∃ t : Nat, va_Z "java/lang/Integer" "DigitTens" "[B" (.ref t) (gAb G) U U.heap ∧ va_T .byte t 100 (fun j => .int (nI (48 + j / 10))) (gAb G) U U.heap)
  ∧ (∃ adK adV : Nat → Nat, vk_S 1 [6] [[80, 65, 82, 86, 84, 79]] adK adV (gAb G) U U.heap ∧ vk_R R_Msg 53 "PARVTO" (adK 0) U)
  ∧ (∀ q ∈ ARN, U.vm.findClass q.1 = some (gC G q.2)) ∧ (∀ C ∈ AOs, va_AO C U) ∧ va_AOA .int U ∧ ∀ y ∈ PRV, va_Nw (.selects R_SB y y) U
theorem envs_mv {G : GT} {s U : State} (h : EnvS G s) (hk : ∀ a : Nat, a < s.heap.size → ¬ gAb G a → U.heap[a]? = s.heap[a]?) (hv : s.vm.Alike U.vm) (hr : ∀ (o t : String) (k a : Nat), vk_R o k t a s → vk_R o k t a U) (hao : ∀ C, va_AO C s → va_AO C U) (haa : va_AOA .int s → va_AOA .int U) (hsl : ∀ y, va_Nw (.selects R_SB y y) s → va_Nw (.selects R_SB y y) U) : EnvS G U := by
  obtain ⟨h1, h2, ⟨t3, h3, h3'⟩, ⟨t4, h4, h4'⟩, ⟨aK, aV, h5, h5'⟩, h6, h7, h8, h9⟩ := h
  exact ⟨va_Z.moved hv (h1.kept hk), va_Zq.moved hv (h2.kept hk), ⟨t3, va_Z.moved hv (h3.kept hk), va_T.moved hv (h3'.kept hk)⟩, ⟨t4, va_Z.moved hv (h4.kept hk), va_T.moved hv (h4'.kept hk)⟩, ⟨aK, aV, vk_S.moved hv (h5.kept hk), hr _ _ _ _ h5'⟩, fun q hq => by rw [hv.findClass]; exact h6 q hq, fun C hC => hao C (h7 C hC), haa h8, fun y hy => hsl y (h9 y hy)⟩
def EnvX (G : GT) (U : State) : Prop := vx_Zq Bundle.tN "UNASSIGNED_STACK" Bundle.steD (gAb G) U U.heap ∧ vx_Zq Bundle.tN "SUPPRESSED_SENTINEL" Bundle.listD (gAb G) U U.heap ∧ (∀ q ∈ STRS, ∃ sa : Nat, vk_R q.1 q.2.1 q.2.2 sa U) ∧ (∀ x ∈ DCL, va_Nw (.declares x) U) ∧ (∀ E ∈ EXC, va_Nw (.castable E E) U) ∧ (∀ E ∈ EXC, ∀ T ∈ EXC, E ≠ T → va_Nc E T U) ∧ EnvS G U
theorem envx_move {G : GT} {s U : State} {H : Heap} {locs : List Loc} (h : EnvX G s) (hS : va_S (gAb G) s.heap H locs) (hU : U.heap = H) (hW : s.WarmedH U.vm) : EnvX G U := by
  refine ⟨?_, ?_, fun q hq => (h.2.2.1 q hq).imp fun sa h => vk_R.warm hW h, fun x hx => va_Nw.warmD hW (h.2.2.2.1 x hx), fun E hE => va_Nw.warmC hW (h.2.2.2.2.1 E hE), fun E hE T hT hne => va_Nc.moved hW.alike (h.2.2.2.2.2.1 E hE T hT hne), envs_mv h.2.2.2.2.2.2 (by rw [hU]; exact hS.2.1) hW.alike (fun _ _ _ _ q => vk_R.warm hW q) (fun C q => va_AO.moved hW.alike q) (fun q => va_AOA.moved hW.alike q) (fun y q => word_at (args := #[]) hW (Or.inl rfl) q)⟩
  · rw [hU]; exact vx_Zq.moved hW.alike (h.1.kept hS.2.1)
  · rw [hU]; exact vx_Zq.moved hW.alike (h.2.1.kept hS.2.1)
theorem envx_calling {G : GT} {U : State} {g : JFrame} {mk : MethodId} {a : Array Value} (h : EnvX G U) : EnvX G (U.calling g mk a) :=
  ⟨vx_Zq.moved (u := U) (U := U.calling g mk a) (Vm.Alike.refl U.vm) h.1, vx_Zq.moved (u := U) (U := U.calling g mk a) (Vm.Alike.refl U.vm) h.2.1, fun q hq => (h.2.2.1 q hq).imp fun sa h => vk_R.same (u := U) (U := U.calling g mk a) rfl h, fun x hx => va_Nw.same (u := U) (U := U.calling g mk a) rfl rfl (h.2.2.2.1 x hx), fun E hE => va_Nw.same (u := U) (U := U.calling g mk a) rfl rfl (h.2.2.2.2.1 E hE), fun E hE T hT hne => va_Nc.moved (u := U) (U := U.calling g mk a) (Vm.Alike.refl U.vm) (h.2.2.2.2.2.1 E hE T hT hne), envs_mv (U := U.calling g mk a) h.2.2.2.2.2.2 (fun _ _ _ => rfl) (Vm.Alike.refl U.vm) (fun _ _ _ _ q => vk_R.same (u := U) (U := U.calling g mk a) rfl q) (fun C q => va_AO.moved (u := U) (U := U.calling g mk a) (Vm.Alike.refl U.vm) q) (fun q => va_AOA.moved (u := U) (U := U.calling g mk a) (Vm.Alike.refl U.vm) q) (fun y q => va_Nw.same (u := U) (U := U.calling g mk a) rfl rfl q)⟩
/-! Contracts over the one world: how they begin, end, and are called. -/
theorem goodWS {w0 : Cond} (h0 : w0 ∈ WS) : GoodIn WS (w0 :: WS) := by
  have hg : ∀ w ∈ WS, w ∈ WS ∧ ((w.onTables && w.keeps) = true ∨ ∃ ty, w = .arrayClass ty) := fun w h => ⟨h, good_of_word (List.all_eq_true.mp WS_good w h)⟩
  intro w hw
  rcases List.mem_cons.mp hw with h | h
  · rw [h]; exact hg w0 h0
  · exact hg w h
/-- what every method has of the tables and of what lies outside the world -/
def EnvP (G : GT) (U : State) : Prop := va_K G.1 gcl (tys G) U ∧ (∀ q ∈ NWf, va_Nw (.fieldLinkNest q.1 q.2.1 q.2.2.1 q.2.2.2.1 q.2.2.2.2.1 q.2.2.2.2.2) U) ∧ (∀ q ∈ NWm, va_Nw (.methodLinkNest q.1 q.2.1 q.2.2.1 q.2.2.2) U) ∧ EnvX G U
theorem env_move {G : GT} {s U : State} {H : Heap} {locs : List Loc} (h : EnvP G s) (hS : va_S (gAb G) s.heap H locs) (hU : U.heap = H) (hW : s.WarmedH U.vm) : EnvP G U :=
  ⟨va_K.moved hW.alike h.1, fun q hq => va_Nw.warmF hW (h.2.1 q hq), fun q hq => va_Nw.warmM hW (h.2.2.1 q hq), envx_move h.2.2.2 hS hU hW⟩
theorem env_calling {G : GT} {U : State} {g : JFrame} {mk : MethodId} {a : Array Value} (h : EnvP G U) : EnvP G (U.calling g mk a) :=
  ⟨va_K.moved (u := U) (U := U.calling g mk a) (Vm.Alike.refl U.vm) h.1, fun q hq => va_Nw.same (u := U) (U := U.calling g mk a) rfl rfl (h.2.1 q hq), fun q hq => va_Nw.same (u := U) (U := U.calling g mk a) rfl rfl (h.2.2.1 q hq), envx_calling h.2.2.2⟩
def cPre (G : GT) (av : List Value) (d : DD) : Array Value → State → Prop := va_Pc av (fun U => EnvP G U ∧ gbase G ≤ U.heap.size ∧ va_P G.1 gcl (wl G d) U.heap ∧ va_D (gAb G) (wl G d))
def cB (G : GT) (d : DD) (t : State) : Prop := va_P G.1 gcl (wl G d) t.heap ∧ va_D (gAb G) (wl G d)
def cQi (G : GT) (post : Int32 → DD → Prop) : Array Value → State → Outcome → State → Prop := va_Qi post (cB G) (gAb G)
def cQv (G : GT) (post : DD → Prop) : Array Value → State → Outcome → State → Prop := va_Qv post (cB G) (gAb G)
def cQr (G : GT) (post : Nat → DD → Prop) : Array Value → State → Outcome → State → Prop := va_Qr (S := Nat × DD) (fun u => post u.1 u.2) (fun u a t => a = gad G u.1 ∧ cB G u.2 t) (gAb G)
theorem cPre_blind {G : GT} {av : List Value} {d : DD} : FrameBlind (cPre G av d) := fun _ _ _ _ h => ⟨h.1, env_calling h.2.1, h.2.2.1, h.2.2.2⟩
/-- what a body has at its entry -/
def CX (G : GT) (own : String) (cc : ByteArray) (nL : Nat) (ret : Option FieldType) (p : Program) (s : State) (m : MethodId) (args : Array Value) (meth : Method) (c : Code) : Prop :=
  p.tables.exec = Jvm.exec ∧ c.code = cc ∧ meth.sig.returnType = ret ∧ c.maxLocals = nL ∧ s.vm.findClass own = some m.cls ∧ (∀ w ∈ WS, w.before args s = true) ∧ meth.locks = false ∧ EnvP G s ∧ gbase G ≤ s.heap.size
theorem c_start {l : Launch} {G : GT} {y : MethodName} {own : String} {cc : ByteArray} {maxL : Nat} {ret : Option FieldType} {rm : Room} {av : List Value} {d : DD} {Qc : Array Value → State → Outcome → State → Prop} {mc ms : Nat} (hy : plainName y.cls = true) (hown : y.cls = own) (hlen : (lg_sl av).length ≤ maxL)
    (body : ∀ (p : Program) (e : Env) (s : State) (m : MethodId) (below : List Frame) (meth : Method) (c : Code) (ls : Array Slot), CX G own cc maxL ret p s m av.toArray meth c → WD G s.heap d s.heap [] → lv_has ls maxL (lv_args 0 av) → W p l e rm s m av.toArray below meth c s.heap [] 0 0 (MQ below Qc av.toArray s mc ms (gAb G)) (F0 m 0 ls [])) : Met l y (.code y cc maxL ret :: WS) rm (cPre G av d) Qc mc ms (gAb G) := by
  refine Met.ofW (cc := cc) (maxL := maxL) (ret := ret) hy rfl ?_
  intro p e s m args below meth c s₁ B hml hv
  obtain ⟨rfl, hE, hbs, hP, hD⟩ := hv
  have hts := atoms_spec (ws := .code y cc maxL ret :: WS) B.pre
  have ho : s.vm.findClass y.cls = some m.cls := findClass_of_methodNamed B.named
  rw [hown] at ho
  rw [lg_entry_eq]
  exact body p e s m below meth c _ ⟨B.exec, B.bytes, B.returns, hml, ho, fun w h => hts w (List.mem_cons_of_mem _ h), B.notSynchronized, hE, hbs⟩ ⟨hP, hD, va_S.rf⟩ (lv_entry av hlen)
/-- .. of a class that has entries of its own in the machine, a member that has none -/
theorem c_startF {l : Launch} {G : GT} {y : MethodName} {own : String} {cc : ByteArray} {maxL : Nat} {ret : Option FieldType} {rm : Room} {av : List Value} {d : DD} {Qc : Array Value → State → Outcome → State → Prop} {mc ms : Nat} (hy : plainFor y = true) (hown : y.cls = own) (hlen : (lg_sl av).length ≤ maxL)
    (body : ∀ (p : Program) (e : Env) (s : State) (m : MethodId) (below : List Frame) (meth : Method) (c : Code) (ls : Array Slot), CX G own cc maxL ret p s m av.toArray meth c → WD G s.heap d s.heap [] → lv_has ls maxL (lv_args 0 av) → W p l e rm s m av.toArray below meth c s.heap [] 0 0 (MQ below Qc av.toArray s mc ms (gAb G)) (F0 m 0 ls [])) : Met l y (.code y cc maxL ret :: WS) rm (cPre G av d) Qc mc ms (gAb G) := by
  refine va_MetF (cc := cc) (maxL := maxL) (ret := ret) hy rfl ?_
  intro p e s m args below meth c s₁ B hml hv
  obtain ⟨rfl, hE, hbs, hP, hD⟩ := hv
  have hts := atoms_spec (ws := .code y cc maxL ret :: WS) B.pre
  have ho : s.vm.findClass y.cls = some m.cls := findClass_of_methodNamed B.named
  rw [hown] at ho
  rw [lg_entry_eq]
  exact body p e s m below meth c _ ⟨B.exec, B.bytes, B.returns, hml, ho, fun w h => hts w (List.mem_cons_of_mem _ h), B.notSynchronized, hE, hbs⟩ ⟨hP, hD, va_S.rf⟩ (lv_entry av hlen)
section EC
variable {p : Program} {l : Launch} {e : Env} {R : Room} {s : State} {m : MethodId} {args : Array Value} {below : List Frame} {meth : Method} {c : Code} {H : Heap} {locs : List Loc} {cells slots : Nat} {Q : State → Prop}
variable {cc : ByteArray} {pc : Nat} {ls : Array Slot} {rest : List Value} {G : GT} {d : DD}
theorem e_iret {post : Int32 → DD → Prop} (hx : p.tables.exec = Jvm.exec) (hb : c.code = cc) (hr : meth.sig.returnType = some .int) (hlk : meth.locks = false) (hW : WD G s.heap d H locs) {v : Int32} (hp : post v d) {mc ms : Nat} (hc : cells ≤ mc) (hs : slots ≤ ms) (hdg : decode cc pc = .ok (.ireturn, 1)) : W p l e R s m args below meth c H locs cells slots (MQ below (cQi G post) args s mc ms (gAb G)) (F0 m pc ls [.int v]) := by
  refine W.widen hc hs ?_
  exact W.iret hx hb hr (fun t ht _ => ⟨⟨v, d, rfl, hp, by rw [ht]; exact hW.1, hW.2.1⟩, hW.2.2.F ht⟩) hW.2.2.2.2 hdg hlk
theorem e_zret {post : Int32 → DD → Prop} (hx : p.tables.exec = Jvm.exec) (hb : c.code = cc) (hr : meth.sig.returnType = some .boolean) (hlk : meth.locks = false) (hW : WD G s.heap d H locs) {v : Int32} (h01 : v = 0 ∨ v = 1) (hp : post v d) {mc ms : Nat} (hc : cells ≤ mc) (hs : slots ≤ ms) (hdg : decode cc pc = .ok (.ireturn, 1)) : W p l e R s m args below meth c H locs cells slots (MQ below (cQi G post) args s mc ms (gAb G)) (F0 m pc ls [.int v]) := by
  refine W.widen hc hs ?_
  exact W.zret hx hb hr (by rcases h01 with rfl | rfl <;> rfl) (fun t ht _ => ⟨⟨v, d, rfl, hp, by rw [ht]; exact hW.1, hW.2.1⟩, hW.2.2.F ht⟩) hW.2.2.2.2 hdg hlk
theorem e_vret {post : DD → Prop} (hx : p.tables.exec = Jvm.exec) (hb : c.code = cc) (hr : meth.sig.returnType = none) (hlk : meth.locks = false) (hW : WD G s.heap d H locs) (hp : post d) {mc ms : Nat} (hc : cells ≤ mc) (hs : slots ≤ ms) (hdg : decode cc pc = .ok (.return_, 1)) : W p l e R s m args below meth c H locs cells slots (MQ below (cQv G post) args s mc ms (gAb G)) (F0 m pc ls []) := by
  refine W.widen hc hs ?_
  exact W.vret hx hb hr (fun t ht _ => ⟨⟨d, rfl, hp, by rw [ht]; exact hW.1, hW.2.1⟩, hW.2.2.F ht⟩) hW.2.2.2.2 hdg hlk
theorem e_aret {post : Nat → DD → Prop} {nm : String} (hx : p.tables.exec = Jvm.exec) (hb : c.code = cc) (hr : meth.sig.returnType = some (.object nm)) (hlk : meth.locks = false) (hW : WD G s.heap d H locs) {cn : Nat} (hp : post cn d) {mc ms : Nat} (hc : cells ≤ mc) (hs : slots ≤ ms) (hdg : decode cc pc = .ok (.areturn, 1)) : W p l e R s m args below meth c H locs cells slots (MQ below (cQr G post) args s mc ms (gAb G)) (F0 m pc ls [.ref (gad G cn)]) := by
  refine W.widen hc hs ?_
  exact W.aret hx hb hr (Or.inl ⟨_, rfl⟩) (Or.inr ⟨_, rfl⟩) (fun t ht _ => ⟨⟨(cn, d), gad G cn, rfl, hp, rfl, by rw [ht]; exact hW.1, hW.2.1⟩, hW.2.2.F ht⟩) hW.2.2.2.2 hdg hlk
variable {y : MethodName} {bytes : ByteArray} {maxL nL mc ms n index : Nat} {ret : Option FieldType} {rm : Room} {Qc : Array Value → State → Outcome → State → Prop} {own C host : String} {As st0 : List Value}
theorem pre_of {av : List Value} (hE : EnvP G s) (hW : WD G s.heap d H locs) (hbs : gbase G ≤ s.heap.size) : ∀ U : State, U.heap = H → s.WarmedH U.vm → cPre G av d av.toArray U := fun U hU hWm =>
  ⟨rfl, env_move hE hW.2.2 hU hWm, by rw [hU]; exact Nat.le_trans hbs hW.2.2.1, by rw [hU]; exact hW.1, hW.2.1⟩
/-- a static method, of any class, not across a nest by a private name -/
theorem e_runS (hx : p.tables.exec = Jvm.exec) (hb : c.code = cc) (hml : c.maxLocals = nL) (hown : s.vm.findClass own = some m.cls) (hts : ∀ w ∈ WS, w.before args s = true) (hE : EnvP G s) (hbs : gbase G ≤ s.heap.size) (hW : WD G s.heap d H locs) (hM : Met l y (.code y bytes maxL ret :: WS) rm (cPre G As d) Qc mc ms (gAb G))
    (k1 : Cond.methodLink own index y ∈ WS) (k2 : Cond.static y ∈ WS) (k3 : Cond.initialized y.cls ∈ WS) (k4 : Cond.code y bytes maxL ret ∈ WS) (hrc : rm.cells = mc) (hrs : rm.slots = ms) (hd : y.cls ≠ "java/lang/invoke/MethodHandle" ∧ y.cls ≠ "java/lang/invoke/VarHandle" ∧ (parseMethodDescriptor y.desc).map (fun d => d.parameters.length) = some n) (hR : rm.frames + 1 ≤ R.frames ∧ 8 + (maxL + 11) + rm.locals ≤ R.locals)
    (hn : As.length = n) (hsize : ls.size = nL) (hst : st0 = As.reverse ++ rest) (hcat : (rest.map fun v => v.category).sum ≤ 8) (hdg : decode cc pc = .ok (.invokestatic index, 3)) (hf : cells + mc ≤ R.cells ∧ slots + ms ≤ R.slots) :
    va_Run p l e R s m args below meth c H locs cells slots mc ms (F0 m pc ls st0) rest (Qc As.toArray) (gAb G) :=
  va_runS ⟨hx, hb, hml, hown, hts⟩ hM ⟨callB_of n hts (goodWS k4) rfl hrc hrs (hts _ k3) (hts _ k1) hd hR, hts _ k2⟩ ⟨cPre_blind, pre_of hE hW hbs⟩ rfl hn hsize hst (lv_room hcat) hdg hf
/-- .. a private one of a nest mate -/
theorem e_runSN (hx : p.tables.exec = Jvm.exec) (hb : c.code = cc) (hml : c.maxLocals = nL) (hown : s.vm.findClass own = some m.cls) (hts : ∀ w ∈ WS, w.before args s = true) (hE : EnvP G s) (hbs : gbase G ≤ s.heap.size) (hW : WD G s.heap d H locs) (hM : Met l y (.code y bytes maxL ret :: WS) rm (cPre G As d) Qc mc ms (gAb G))
    (k1 : (own, index, y, host) ∈ NWm) (k2 : Cond.static y ∈ WS) (k3 : Cond.initialized y.cls ∈ WS) (k4 : Cond.code y bytes maxL ret ∈ WS) (hrc : rm.cells = mc) (hrs : rm.slots = ms) (hd : y.cls ≠ "java/lang/invoke/MethodHandle" ∧ y.cls ≠ "java/lang/invoke/VarHandle" ∧ (parseMethodDescriptor y.desc).map (fun d => d.parameters.length) = some n) (hR : rm.frames + 1 ≤ R.frames ∧ 8 + (maxL + 11) + rm.locals ≤ R.locals)
    (hn : As.length = n) (hsize : ls.size = nL) (hst : st0 = As.reverse ++ rest) (hcat : (rest.map fun v => v.category).sum ≤ 8) (hdg : decode cc pc = .ok (.invokestatic index, 3)) (hf : cells + mc ≤ R.cells ∧ slots + ms ≤ R.slots) :
    va_Run p l e R s m args below meth c H locs cells slots mc ms (F0 m pc ls st0) rest (Qc As.toArray) (gAb G) :=
  va_runSN ⟨hx, hb, hml, hown, hts⟩ hM ⟨va_cnB n hts (goodWS k4) rfl hrc hrs (hE.2.2.1 _ k1) (hts _ k3) hd hR, hts _ k2, trivial⟩ ⟨cPre_blind, pre_of hE hW hbs⟩ rfl hn hsize hst (lv_room hcat) hdg hf
/-- a method of an object of the world -/
theorem e_runV (hx : p.tables.exec = Jvm.exec) (hb : c.code = cc) (hml : c.maxLocals = nL) (hown : s.vm.findClass own = some m.cls) (hts : ∀ w ∈ WS, w.before args s = true) (hE : EnvP G s) (hbs : gbase G ≤ s.heap.size) (hW : WD G s.heap d H locs) {cn ci : Nat} {fs : (Nat → Int32) → List Value} (hF : OB G cn ci fs) {T : u_T} {N : Nat} (hcl : gcl[ci]? = some (C, T, N)) (hM : Met l y (.code y bytes maxL ret :: WS) rm (cPre G (.ref (gad G cn) :: As) d) Qc mc ms (gAb G))
    (k1 : Cond.methodLink own index y ∈ WS) (k2 : Cond.instanceMethod y ∈ WS) (k5 : Cond.selects C y y ∈ WS) (k3 : Cond.initialized y.cls ∈ WS) (k4 : Cond.code y bytes maxL ret ∈ WS) (hrc : rm.cells = mc) (hrs : rm.slots = ms) (hd : y.cls ≠ "java/lang/invoke/MethodHandle" ∧ y.cls ≠ "java/lang/invoke/VarHandle" ∧ (parseMethodDescriptor y.desc).map (fun d => d.parameters.length) = some n) (hR : rm.frames + 1 ≤ R.frames ∧ 8 + (maxL + 11) + rm.locals ≤ R.locals)
    (hn : As.length = n) (hsize : ls.size = nL) (hst : st0 = As.reverse ++ .ref (gad G cn) :: rest) (hcat : (rest.map fun v => v.category).sum ≤ 8) (hdg : decode cc pc = .ok (.invokevirtual index, 3)) (hf : cells + mc ≤ R.cells ∧ slots + ms ≤ R.slots) :
    va_Run p l e R s m args below meth c H locs cells slots mc ms (F0 m pc ls st0) rest (Qc (Value.ref (gad G cn) :: As).toArray) (gAb G) := by
  obtain ⟨k0, hk0⟩ := wl_get (G := G) (d := d) hF.1
  have hk1 : (wl G d)[k0]? = some (gad G cn, Sum.inr (ci, fs (d cn))) := by rw [hk0, en, hF.2]
  exact va_runV ⟨hx, hb, hml, hown, hts⟩ hM ⟨callB_of n hts (goodWS k4) rfl hrc hrs (hts _ k3) (hts _ k1) hd hR, hts _ k2, hts _ k5⟩ ⟨cPre_blind, va_recv hE.1 hW.1 (ci := ci) hcl hk1, pre_of hE hW hbs⟩ rfl hn hsize hst (lv_room hcat) hdg hf
/-- .. by a private name across a nest -/
theorem e_runVN (hx : p.tables.exec = Jvm.exec) (hb : c.code = cc) (hml : c.maxLocals = nL) (hown : s.vm.findClass own = some m.cls) (hts : ∀ w ∈ WS, w.before args s = true) (hE : EnvP G s) (hbs : gbase G ≤ s.heap.size) (hW : WD G s.heap d H locs) {cn ci : Nat} {fs : (Nat → Int32) → List Value} (hF : OB G cn ci fs) {T : u_T} {N : Nat} (hcl : gcl[ci]? = some (C, T, N)) (hM : Met l y (.code y bytes maxL ret :: WS) rm (cPre G (.ref (gad G cn) :: As) d) Qc mc ms (gAb G))
    (k1 : (own, index, y, host) ∈ NWm) (k2 : Cond.instanceMethod y ∈ WS) (k5 : Cond.selects C y y ∈ WS) (k3 : Cond.initialized y.cls ∈ WS) (k4 : Cond.code y bytes maxL ret ∈ WS) (hrc : rm.cells = mc) (hrs : rm.slots = ms) (hd : y.cls ≠ "java/lang/invoke/MethodHandle" ∧ y.cls ≠ "java/lang/invoke/VarHandle" ∧ (parseMethodDescriptor y.desc).map (fun d => d.parameters.length) = some n) (hR : rm.frames + 1 ≤ R.frames ∧ 8 + (maxL + 11) + rm.locals ≤ R.locals)
    (hn : As.length = n) (hsize : ls.size = nL) (hst : st0 = As.reverse ++ .ref (gad G cn) :: rest) (hcat : (rest.map fun v => v.category).sum ≤ 8) (hdg : decode cc pc = .ok (.invokevirtual index, 3)) (hf : cells + mc ≤ R.cells ∧ slots + ms ≤ R.slots) :
    va_Run p l e R s m args below meth c H locs cells slots mc ms (F0 m pc ls st0) rest (Qc (Value.ref (gad G cn) :: As).toArray) (gAb G) := by
  obtain ⟨k0, hk0⟩ := wl_get (G := G) (d := d) hF.1
  have hk1 : (wl G d)[k0]? = some (gad G cn, Sum.inr (ci, fs (d cn))) := by rw [hk0, en, hF.2]
  exact va_runVN ⟨hx, hb, hml, hown, hts⟩ hM ⟨va_cnB n hts (goodWS k4) rfl hrc hrs (hE.2.2.1 _ k1) (hts _ k3) hd hR, hts _ k2, hts _ k5⟩ ⟨cPre_blind, va_recv hE.1 hW.1 (ci := ci) hcl hk1, pre_of hE hW hbs⟩ rfl hn hsize hst (lv_room hcat) hdg hf
/-- behind a call -/
theorem e_ci {post : Int32 → DD → Prop} {a : Array Value} (hr : va_Run p l e R s m args below meth c H locs cells slots mc ms (F0 m pc ls st0) rest (cQi G post a) (gAb G)) (hW : WD G s.heap d H locs)
    (kk : ∀ (r : Int32) (d' : DD) (H1 : Heap) (locs1 : List Loc), post r d' → WD G s.heap d' H1 locs1 → W p l e R s m args below meth c H1 locs1 (cells + mc) (slots + ms) Q (F0 m (pc + 3) ls (.int r :: rest))) : W p l e R s m args below meth c H locs cells slots Q (F0 m pc ls st0) :=
  va_calli hr hW.2.2 (fun _ _ h => h) (fun _ h => h) (fun r u t H1 locs1 ht _ hp hB _ _ hS => kk r u H1 locs1 hp ⟨by rw [← ht]; exact hB.1, hB.2, hS⟩)
theorem e_cv {post : DD → Prop} {a : Array Value} (hr : va_Run p l e R s m args below meth c H locs cells slots mc ms (F0 m pc ls st0) rest (cQv G post a) (gAb G)) (hW : WD G s.heap d H locs)
    (kk : ∀ (d' : DD) (H1 : Heap) (locs1 : List Loc), post d' → WD G s.heap d' H1 locs1 → W p l e R s m args below meth c H1 locs1 (cells + mc) (slots + ms) Q (F0 m (pc + 3) ls rest)) : W p l e R s m args below meth c H locs cells slots Q (F0 m pc ls st0) :=
  va_callv hr hW.2.2 (fun _ _ h => h) (fun _ h => h) (fun u t H1 locs1 ht _ hp hB _ _ hS => kk u H1 locs1 hp ⟨by rw [← ht]; exact hB.1, hB.2, hS⟩)
theorem e_cr {post : Nat → DD → Prop} {a : Array Value} (hr : va_Run p l e R s m args below meth c H locs cells slots mc ms (F0 m pc ls st0) rest (cQr G post a) (gAb G)) (hW : WD G s.heap d H locs)
    (kk : ∀ (cn : Nat) (d' : DD) (H1 : Heap) (locs1 : List Loc), post cn d' → WD G s.heap d' H1 locs1 → W p l e R s m args below meth c H1 locs1 (cells + mc) (slots + ms) Q (F0 m (pc + 3) ls (.ref (gad G cn) :: rest))) : W p l e R s m args below meth c H locs cells slots Q (F0 m pc ls st0) :=
  va_callr hr hW.2.2 (fun _ _ h => h) (fun _ h => h) (fun u ra t H1 locs1 ht _ hp hB _ _ hS => by
    obtain ⟨h1, h2⟩ := hB
    subst h1
    exact kk u.1 u.2 H1 locs1 hp ⟨by rw [← ht]; exact h2.1, h2.2, hS⟩)
end EC
theorem nf_0 {G : GT} {U : State} (h : EnvP G U) : va_Nw (.fieldLinkNest R_PC 239 "PaxosCommit$Message" "kind" "I" "PaxosCommit") U := h.2.1 (R_PC, 239, "PaxosCommit$Message", "kind", "I", "PaxosCommit") kf_0
theorem nf_1 {G : GT} {U : State} (h : EnvP G U) : va_Nw (.fieldLinkNest R_PC 263 "PaxosCommit$Message" "transaction" "I" "PaxosCommit") U := h.2.1 (R_PC, 263, "PaxosCommit$Message", "transaction", "I", "PaxosCommit") kf_1
theorem nf_2 {G : GT} {U : State} (h : EnvP G U) : va_Nw (.fieldLinkNest R_PC 260 "PaxosCommit$Message" "store" "I" "PaxosCommit") U := h.2.1 (R_PC, 260, "PaxosCommit$Message", "store", "I", "PaxosCommit") kf_2
theorem nf_3 {G : GT} {U : State} (h : EnvP G U) : va_Nw (.fieldLinkNest R_PC 266 "PaxosCommit$Message" "acceptor" "I" "PaxosCommit") U := h.2.1 (R_PC, 266, "PaxosCommit$Message", "acceptor", "I", "PaxosCommit") kf_3
theorem nf_4 {G : GT} {U : State} (h : EnvP G U) : va_Nw (.fieldLinkNest R_PC 282 "PaxosCommit$Message" "leader" "I" "PaxosCommit") U := h.2.1 (R_PC, 282, "PaxosCommit$Message", "leader", "I", "PaxosCommit") kf_4
theorem nf_5 {G : GT} {U : State} (h : EnvP G U) : va_Nw (.fieldLinkNest R_PC 269 "PaxosCommit$Message" "ballot" "I" "PaxosCommit") U := h.2.1 (R_PC, 269, "PaxosCommit$Message", "ballot", "I", "PaxosCommit") kf_5
theorem nf_6 {G : GT} {U : State} (h : EnvP G U) : va_Nw (.fieldLinkNest R_PC 303 "PaxosCommit$Message" "vote" "I" "PaxosCommit") U := h.2.1 (R_PC, 303, "PaxosCommit$Message", "vote", "I", "PaxosCommit") kf_6
theorem nf_7 {G : GT} {U : State} (h : EnvP G U) : va_Nw (.fieldLinkNest R_PC 290 "PaxosCommit$Message" "replied" "[I" "PaxosCommit") U := h.2.1 (R_PC, 290, "PaxosCommit$Message", "replied", "[I", "PaxosCommit") kf_7
theorem nf_8 {G : GT} {U : State} (h : EnvP G U) : va_Nw (.fieldLinkNest R_PC 174 "PaxosCommit$Net" "row" "[LPaxosCommit$Message;" "PaxosCommit") U := h.2.1 (R_PC, 174, "PaxosCommit$Net", "row", "[LPaxosCommit$Message;", "PaxosCommit") kf_8
theorem nf_9 {G : GT} {U : State} (h : EnvP G U) : va_Nw (.fieldLinkNest R_PC 154 "PaxosCommit$Net" "size" "I" "PaxosCommit") U := h.2.1 (R_PC, 154, "PaxosCommit$Net", "size", "I", "PaxosCommit") kf_9
theorem nf_10 {G : GT} {U : State} (h : EnvP G U) : va_Nw (.fieldLinkNest R_PC 210 "PaxosCommit$Net" "overflowed" "I" "PaxosCommit") U := h.2.1 (R_PC, 210, "PaxosCommit$Net", "overflowed", "I", "PaxosCommit") kf_10
theorem nf_11 {G : GT} {U : State} (h : EnvP G U) : va_Nw (.fieldLinkNest R_PC 192 "PaxosCommit$Store" "values" "[I" "PaxosCommit") U := h.2.1 (R_PC, 192, "PaxosCommit$Store", "values", "[I", "PaxosCommit") kf_11
theorem nf_12 {G : GT} {U : State} (h : EnvP G U) : va_Nw (.fieldLinkNest R_PC 195 "PaxosCommit$Store" "locks" "[I" "PaxosCommit") U := h.2.1 (R_PC, 195, "PaxosCommit$Store", "locks", "[I", "PaxosCommit") kf_12
theorem nf_13 {G : GT} {U : State} (h : EnvP G U) : va_Nw (.fieldLinkNest R_PC 117 "PaxosCommit$Store" "states" "[I" "PaxosCommit") U := h.2.1 (R_PC, 117, "PaxosCommit$Store", "states", "[I", "PaxosCommit") kf_13
theorem nf_14 {G : GT} {U : State} (h : EnvP G U) : va_Nw (.fieldLinkNest R_PC 203 "PaxosCommit$Acceptor" "promises" "[[I" "PaxosCommit") U := h.2.1 (R_PC, 203, "PaxosCommit$Acceptor", "promises", "[[I", "PaxosCommit") kf_14
theorem nf_15 {G : GT} {U : State} (h : EnvP G U) : va_Nw (.fieldLinkNest R_PC 207 "PaxosCommit$Acceptor" "accepted" "[[I" "PaxosCommit") U := h.2.1 (R_PC, 207, "PaxosCommit$Acceptor", "accepted", "[[I", "PaxosCommit") kf_15
theorem nf_16 {G : GT} {U : State} (h : EnvP G U) : va_Nw (.fieldLinkNest R_PC 285 "PaxosCommit$Ledger" "ballot" "I" "PaxosCommit") U := h.2.1 (R_PC, 285, "PaxosCommit$Ledger", "ballot", "I", "PaxosCommit") kf_16
theorem nf_17 {G : GT} {U : State} (h : EnvP G U) : va_Nw (.fieldLinkNest R_PC 286 "PaxosCommit$Ledger" "proposed" "Z" "PaxosCommit") U := h.2.1 (R_PC, 286, "PaxosCommit$Ledger", "proposed", "Z", "PaxosCommit") kf_17
theorem nf_18 {G : GT} {U : State} (h : EnvP G U) : va_Nw (.fieldLinkNest R_PC 198 "PaxosCommit$Ledger" "known" "I" "PaxosCommit") U := h.2.1 (R_PC, 198, "PaxosCommit$Ledger", "known", "I", "PaxosCommit") kf_18
