/-! Texts: what a StringBuilder holds, as a list of letters. -/
abbrev sbW (G : GT) (sa va n m : Nat) (a : Nat → Int32) : va_W := [(sa, .inr (iSB, [.ref va, .int 0, .int 0, .int (nI n)])), (va, aI (gC G 8) m a)]
def sbL (t : List Nat) (a : Nat → Int32) : Prop := sb_Lat (fun j => t.getD j 0) t.length a
/-- a StringBuilder at sa that holds t -/
def SBH (G : GT) (sa : Nat) (t : List Nat) (H : Heap) : Prop := ∃ (va m : Nat) (a : Nat → Int32), va_P G.1 gcl (sbW G sa va t.length m a) H ∧ va_D (gAb G) (sbW G sa va t.length m a) ∧ sbL t a ∧ sb_Fit a ∧ t.length ≤ m ∧ (m = 16 ∨ m = 34)
def dgl (v : Nat) : List Nat := if v < 10 then [48 + v] else if v < 100 then [48 + v / 10, 48 + v % 10] else if v < 1000 then [48 + v / 100, 48 + v / 10 % 10, 48 + v % 10] else [48 + v / 1000, 48 + v / 100 % 10, 48 + v / 10 % 10, 48 + v % 10]
theorem dgl1 {v : Nat} (h : v < 10) : dgl v = [48 + v] := if_pos h
theorem dgl2 {v : Nat} (h : ¬ v < 10) (h2 : v < 100) : dgl v = [48 + v / 10, 48 + v % 10] := by unfold dgl; rw [if_neg h, if_pos h2]
theorem dgl3 {v : Nat} (h : ¬ v < 100) (h2 : v < 1000) : dgl v = [48 + v / 100, 48 + v / 10 % 10, 48 + v % 10] := by unfold dgl; rw [if_neg (by omega), if_neg h, if_pos h2]
theorem dgl4 {v : Nat} (h : ¬ v < 1000) : dgl v = [48 + v / 1000, 48 + v / 100 % 10, 48 + v / 10 % 10, 48 + v % 10] := by unfold dgl; rw [if_neg (by omega), if_neg (by omega), if_neg h]
theorem dgl_len (v : Nat) : 1 ≤ (dgl v).length ∧ (dgl v).length ≤ 4 := by unfold dgl; (repeat' split) <;> simp
theorem dgl_lt {v : Nat} (hv : v < 10000) : ∀ i, i < (dgl v).length → (dgl v).getD i 0 < 256 := by
  intro i hi
  have hi4 : i < 4 := Nat.lt_of_lt_of_le hi (dgl_len v).2
  unfold dgl
  rcases (by omega : i = 0 ∨ i = 1 ∨ i = 2 ∨ i = 3) with rfl | rfl | rfl | rfl <;> (repeat' split) <;> simp <;> omega
theorem sbL_app {t u : List Nat} {a a' : Nat → Int32} (h : sbL t a) (hk : ∀ j, j < t.length → a' j = a j) (hs : ∀ i, i < u.length → u.getD i 0 < 256 ∧ a' (t.length + i) = sb_b (u.getD i 0)) : sbL (t ++ u) a' := by
  have e : (fun j => (t ++ u).getD j 0) = sb_cat (fun j => t.getD j 0) t.length (fun j => u.getD j 0) := by
    funext j
    unfold sb_cat
    split
    · simp [List.getD, List.getElem?_append, *]
    · simp [List.getD, List.getElem?_append, *]
  unfold sbL
  rw [e, List.length_append]
  exact sb_latPut h hk hs
theorem sb_nb (c : Nat) : vp_nar .byte (nI c) = sb_b c := by rw [vp_nar_byte]; rfl
def mxI (x y : Int32) : Int32 := if x < y then y else x
def mnI (x y : Int32) : Int32 := if y < x then y else x
theorem sb_cmpn {v c : Nat} (hv : v < 2 ^ 31) (hc : c < 2 ^ 31) {x : Int32} (hx : x = -nI c) : (-nI v ≤ x ↔ c ≤ v) := by subst hx; exact sb_nle hv hc
theorem sb_cmpl {v c : Nat} (hv : v < 2 ^ 31) (hc : c < 2 ^ 31) {x : Int32} (hx : x = -nI c) : (x < -nI v ↔ v < c) := by subst hx; exact sb_nlt hc hv
theorem WW_nil {G : GT} {H : Heap} {locs : List Loc} (h : locs = []) : WW G H [] H locs := by
  subst h
  refine ⟨fun k q h => ?_, ⟨fun i j p q h => ?_, fun k q h => ?_⟩, va_S.rf⟩ <;> simp at h
theorem mx18 {b : Nat} (hb18 : b ≤ 18) : mxI (nI b) (nI 18) = nI 18 := by
  unfold mxI
  split
  · rfl
  · rename_i h
    have : ¬ b < 18 := fun q => h (nI_lt q (by decide))
    rw [show b = 18 by omega]
theorem sb_m16 {m q : Nat} (hm : m = 16 ∨ m = 34) (hq : q ≤ 34) (c : ¬ nI q - nI m ≤ 0) : m = 16 ∧ 16 < q := by
  have e : (nI q - nI m).toInt = (q : Int) - m := pk_sub_toInt (by omega) (by omega)
  have h : ¬ q ≤ m := fun z => c (by rw [Int32.le_iff_toInt_le, e, Int32.toInt_zero]; omega)
  omega
theorem sb_qle {m q : Nat} (hm : m = 16 ∨ m = 34) (hq : q ≤ 34) (c : nI q - nI m ≤ 0) : q ≤ m := by
  have e : (nI q - nI m).toInt = (q : Int) - m := pk_sub_toInt (by omega) (by omega)
  rw [Int32.le_iff_toInt_le, e, Int32.toInt_zero] at c
  omega
theorem sb_cmpg {v c : Nat} (hv : v < 2 ^ 31) (hc : c < 2 ^ 31) {x : Int32} (hx : x = -nI c) : (x ≤ -nI v ↔ v ≤ c) := by subst hx; exact sb_nle hc hv
theorem updr {f : Nat → Int32} {k j : Nat} {x : Int32} (h : j = k) : upd f k x j = x := by rw [h]; exact pk_us
/-- String's own methods, of the letters' constant -/
def hPreL (G : GT) (av : List Value) (Hx : Heap) (aK aV : Nat → Nat) : Array Value → State → Prop := va_Pc av (fun U => EnvP G U ∧ gbase G ≤ U.heap.size ∧ U.heap = Hx ∧ vk_S 1 [6] [[80, 65, 82, 86, 84, 79]] aK aV (gAb G) U U.heap)
theorem hPreL_blind {G : GT} {av : List Value} {Hx : Heap} {aK aV : Nat → Nat} : FrameBlind (hPreL G av Hx aK aV) := fun g mk a U h => ⟨h.1, env_calling h.2.1, h.2.2.1, h.2.2.2.1, vk_S.moved (Vm.Alike.refl _) h.2.2.2.2⟩
theorem h_startL {l : Launch} {G : GT} {y : MethodName} {own : String} {cc : ByteArray} {maxL : Nat} {ret : Option FieldType} {rm : Room} {av : List Value} {Hx : Heap} {aK aV : Nat → Nat} {Qc : Array Value → State → Outcome → State → Prop} {mc ms : Nat} (hy : plainFor y = true) (hown : y.cls = own) (hlen : (lg_sl av).length ≤ maxL)
    (body : ∀ (p : Program) (e : Env) (s : State) (m : MethodId) (below : List Frame) (meth : Method) (c : Code) (ls : Array Slot), CX G own cc maxL ret p s m av.toArray meth c → s.heap = Hx → vk_S 1 [6] [[80, 65, 82, 86, 84, 79]] aK aV (gAb G) s s.heap → lv_has ls maxL (lv_args 0 av) → W p l e rm s m av.toArray below meth c s.heap [] 0 0 (MQ below Qc av.toArray s mc ms (gAb G)) (F0 m 0 ls [])) : Met l y (.code y cc maxL ret :: WS) rm (hPreL G av Hx aK aV) Qc mc ms (gAb G) := by
  refine va_MetF (cc := cc) (maxL := maxL) (ret := ret) hy rfl ?_
  intro p e s m args below meth c s₁ B hml hv
  obtain ⟨rfl, hE, hbs, hI, hL⟩ := hv
  have hts := atoms_spec (ws := .code y cc maxL ret :: WS) B.pre
  have ho : s.vm.findClass y.cls = some m.cls := findClass_of_methodNamed B.named
  rw [hown] at ho
  rw [lg_entry_eq]
  exact body p e s m below meth c _ ⟨B.exec, B.bytes, B.returns, hml, ho, fun w h => hts w (List.mem_cons_of_mem _ h), B.notSynchronized, hE, hbs⟩ hI hL (lv_entry av hlen)
section HL
variable {p : Program} {l : Launch} {e : Env} {R : Room} {s : State} {m : MethodId} {args : Array Value} {below : List Frame} {meth : Method} {c : Code} {H : Heap} {locs : List Loc} {cells slots : Nat} {Q : State → Prop}
variable {cc : ByteArray} {pc : Nat} {ls : Array Slot} {rest : List Value} {G G' : GT} {aK aV : Nat → Nat}
variable {y : MethodName} {bytes : ByteArray} {maxL nL mc ms n index : Nat} {ret : Option FieldType} {rm : Room} {Qc : Array Value → State → Outcome → State → Prop} {own C host : String} {As st0 : List Value}
theorem h_preL {av : List Value} (hE : EnvP G s) (hL : vk_S 1 [6] [[80, 65, 82, 86, 84, 79]] aK aV (gAb G) s s.heap) (hS : va_S (gAb G) s.heap H locs) (hg : gbase G ≤ gbase G') (hG' : gB G (gbase G') = G') (hbs : gbase G' ≤ H.size) : ∀ U : State, U.heap = H → s.WarmedH U.vm → hPreL G' av H aK aV av.toArray U := fun U hU hWm =>
  ⟨rfl, by rw [← hG']; exact env_nar (env_move hE hS hU hWm) hg, by rw [hU]; exact hbs, hU, by rw [hU]; exact vk_S.narrow (vk_S.moved hWm.alike (hL.kept hS.2.1)) (fun q h => Nat.le_trans hg h)⟩
theorem h_runSL (hx : p.tables.exec = Jvm.exec) (hb : c.code = cc) (hml : c.maxLocals = nL) (hown : s.vm.findClass own = some m.cls) (hts : ∀ w ∈ WS, w.before args s = true) (hE : EnvP G s) (hL : vk_S 1 [6] [[80, 65, 82, 86, 84, 79]] aK aV (gAb G) s s.heap) (hS : va_S (gAb G) s.heap H locs) (hg : gbase G ≤ gbase G') (hG' : gB G (gbase G') = G') (hbs : gbase G' ≤ H.size) (hM : Met l y (.code y bytes maxL ret :: WS) rm (hPreL G' As H aK aV) Qc mc ms (gAb G'))
    (k1 : Cond.methodLink own index y ∈ WS) (k2 : Cond.static y ∈ WS) (k3 : Cond.initialized y.cls ∈ WS) (k4 : Cond.code y bytes maxL ret ∈ WS) (hrc : rm.cells = mc) (hrs : rm.slots = ms) (hd : y.cls ≠ "java/lang/invoke/MethodHandle" ∧ y.cls ≠ "java/lang/invoke/VarHandle" ∧ (parseMethodDescriptor y.desc).map (fun d => d.parameters.length) = some n) (hR : rm.frames + 1 ≤ R.frames ∧ 8 + (maxL + 11) + rm.locals ≤ R.locals)
    (hn : As.length = n) (hsize : ls.size = nL) (hst : st0 = As.reverse ++ rest) (hcat : (rest.map fun v => v.category).sum ≤ 8) (hdg : decode cc pc = .ok (.invokestatic index, 3)) (hf : cells + mc ≤ R.cells ∧ slots + ms ≤ R.slots) :
    va_Run p l e R s m args below meth c H locs cells slots mc ms (F0 m pc ls st0) rest (Qc As.toArray) (gAb G') :=
  va_runS ⟨hx, hb, hml, hown, hts⟩ hM ⟨callB_of n hts (goodWS k4) rfl hrc hrs (hts _ k3) (hts _ k1) hd hR, hts _ k2⟩ ⟨hPreL_blind, h_preL hE hL hS hg hG' hbs⟩ rfl hn hsize hst (lv_room hcat) hdg hf
theorem h_runVL (hx : p.tables.exec = Jvm.exec) (hb : c.code = cc) (hml : c.maxLocals = nL) (hown : s.vm.findClass own = some m.cls) (hts : ∀ w ∈ WS, w.before args s = true) (hE : EnvP G s) (hL : vk_S 1 [6] [[80, 65, 82, 86, 84, 79]] aK aV (gAb G) s s.heap) (hS : va_S (gAb G) s.heap H locs) (hg : gbase G ≤ gbase G') (hG' : gB G (gbase G') = G') (hbs : gbase G' ≤ H.size) (hM : Met l y (.code y bytes maxL ret :: WS) rm (hPreL G' (.ref (aK 0) :: As) H aK aV) Qc mc ms (gAb G'))
    (k1 : Cond.methodLink own index y ∈ WS) (k2 : Cond.instanceMethod y ∈ WS) (k5 : Cond.selects "java/lang/String" y y ∈ WS) (k3 : Cond.initialized y.cls ∈ WS) (k4 : Cond.code y bytes maxL ret ∈ WS) (hrc : rm.cells = mc) (hrs : rm.slots = ms) (hd : y.cls ≠ "java/lang/invoke/MethodHandle" ∧ y.cls ≠ "java/lang/invoke/VarHandle" ∧ (parseMethodDescriptor y.desc).map (fun d => d.parameters.length) = some n) (hR : rm.frames + 1 ≤ R.frames ∧ 8 + (maxL + 11) + rm.locals ≤ R.locals)
    (hn : As.length = n) (hsize : ls.size = nL) (hst : st0 = As.reverse ++ .ref (aK 0) :: rest) (hcat : (rest.map fun v => v.category).sum ≤ 8) (hdg : decode cc pc = .ok (.invokevirtual index, 3)) (hf : cells + mc ≤ R.cells ∧ slots + ms ≤ R.slots) :
    va_Run p l e R s m args below meth c H locs cells slots mc ms (F0 m pc ls st0) rest (Qc (Value.ref (aK 0) :: As).toArray) (gAb G') :=
  va_runV ⟨hx, hb, hml, hown, hts⟩ hM ⟨callB_of n hts (goodWS k4) rfl hrc hrs (hts _ k3) (hts _ k1) hd hR, hts _ k2, hts _ k5⟩ ⟨hPreL_blind, vk_recv hL (by decide) hS, h_preL hE hL hS hg hG' hbs⟩ rfl hn hsize hst (lv_room hcat) hdg hf
end HL
theorem lt_and : ∀ k, k < 6 → (([80, 65, 82, 86, 84, 79] : List Int32).getD k 0) &&& 255 = nI (([80, 65, 82, 86, 84, 79] : List Nat).getD k 0) := by decide +kernel
theorem lt_i2c : ∀ k, k < 6 → ((nI (([80, 65, 82, 86, 84, 79] : List Nat).getD k 0)).toUInt32 % 65536).toInt32 = nI (([80, 65, 82, 86, 84, 79] : List Nat).getD k 0) := by decide +kernel
theorem lt_lt : ∀ k, k < 6 → ([80, 65, 82, 86, 84, 79] : List Nat).getD k 0 < 256 := by decide +kernel
theorem lt_nar (k : Nat) (hk : k < 6) : narrow .char (.int (nI (([80, 65, 82, 86, 84, 79] : List Nat).getD k 0))) = .int (nI (([80, 65, 82, 86, 84, 79] : List Nat).getD k 0)) := (pk_charN (by have := lt_lt k hk; omega)).1
