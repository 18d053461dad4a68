/-! What the class's call leaves of the reference's cells: they stand as they stood. -/
theorem C1_gen {n B : Nat} {D D1 fD : DD} {Xo : Option String} {R : Int32} (hCR : CR n B D D) (w2 : Xo = none → D1 = up2 fD 9 0 R) (w3 : ¬ Xo = none → D1 = D) (hi : Xo = none → ∀ c, 600 ≤ c → fD c = D c) : CR n B D D1 := by
  have hD1 : ∀ c, 600 ≤ c → D1 c = D c := by
    intro c hc
    by_cases h : Xo = none
    · rw [w2 h, up2_off (by omega)]
      exact hi h c hc
    · rw [w3 h]
  exact CR_cg hCR (fun _ _ _ => rfl) (fun c h => hD1 c (by omega)) (fun k _ => by rw [hD1 600 (by decide)])
section C1
variable {n B : Nat} {D D1 : DD} {k : Int32}
theorem C1_begin (h : CR n B D D) (hw : k = xc1 (bnX D) ∧ (bnX D = none → D1 = up2 (up2 D 0 8 (D 0 8 + 1)) 9 0 (D 0 8 + 1 - 1)) ∧ (¬ bnX D = none → D1 = D)) : CR n B D D1 :=
  C1_gen h hw.2.1 hw.2.2 (fun _ c hc => up2_off (by omega))
theorem C1_write {t s kk v : Int32} (h : CR n B D D) (hw : k = xc4 (wrX D t s kk) ∧ (wrX D t s kk = none → D1 = up2 (f_write D (cl t) (cl s) (cl kk) v) 9 0 (bcI (f_write D (cl t) (cl s) (cl kk) v (cl s + 50) (cl t)))) ∧ (¬ wrX D t s kk = none → D1 = D)) : CR n B D D1 :=
  C1_gen h hw.2.1 hw.2.2 (fun h0 c hc => by
    obtain ⟨a1, a2⟩ := xs_none h0
    exact hi_write hc (rg_lt (B := 3) (by decide) (xs_none a2).1) (rg_lt (B := 8) (by decide) a1))
theorem C1_request {t : Int32} (h : CR n B D D) (hw : k = xc4 (rqX D t) ∧ (rqX D t = none → D1 = up2 (lpRq (up2 D 7 (cl t) 1) (cl t) 3) 9 0 (bcI (lpRq (up2 D 7 (cl t) 1) (cl t) 3 6 (cl t)))) ∧ (¬ rqX D t = none → D1 = D)) : CR n B D D1 :=
  C1_gen h hw.2.1 hw.2.2 (fun h0 c hc => hi_rq (CR_net h) hc)
theorem C1_refuse {t s : Int32} (h : CR n B D D) (hw : k = xc4 (rfX D t s) ∧ (rfX D t s = none → D1 = up2 (f_refuse D n (cl t) (cl s)) 9 0 (bcI (f_refuse D n (cl t) (cl s) (cl s + 50) (cl t)))) ∧ (¬ rfX D t s = none → D1 = D)) : CR n B D D1 :=
  C1_gen h hw.2.1 hw.2.2 (fun h0 c hc => hi_refuse (CR_net h) hc (rg_lt (B := 3) (by decide) (xs_none (xs_none h0).2).1))
theorem C1_take {ld t : Int32} (h : CR n B D D) (hw : k = xc4 (tkX D ld t) ∧ (tkX D ld t = none → D1 = up2 (f_take D n (cl ld) (cl t)) 9 0 (rsI (D (cl ld * 8 + cl t + 200) 0) ld)) ∧ (¬ tkX D ld t = none → D1 = D)) : CR n B D D1 :=
  C1_gen h hw.2.1 hw.2.2 (fun h0 c hc => hi_take (CR_net h) hc (rg_lt (B := 2) (by decide) (xs_none h0).1) (rg_lt (B := 8) (by decide) (xs_none (xs_none h0).2).1))
theorem C1_lose {i : Int32} (h : CR n B D D) (hw : k = xc1 (msX D i) ∧ (msX D i = none → D1 = up2 (f_remove D (cl i) (cl (D 5 1)) (cl (D 8 (cl i)))) 9 0 (D 5 1 - 1)) ∧ (¬ msX D i = none → D1 = D)) : CR n B D D1 :=
  C1_gen h hw.2.1 hw.2.2 (fun _ c hc => hi_lose hc)
theorem C1_deliver {i st mj : Int32} (h : CR n B D D) (hw : k = xc1 (msX D i) ∧ (msX D i = none → D1 = up2 (f_arrive (f_taken D (cl i) st) n mj) 9 0 (f_arrive (f_taken D (cl i) st) n mj 5 1)) ∧ (¬ msX D i = none → D1 = D)) : CR n B D D1 := by
  refine C1_gen h hw.2.1 hw.2.2 (fun h0 c hc => ?_)
  have hN := CR_net h
  obtain ⟨⟨z, hz, fz⟩, hrow, hinj⟩ := id hN
  obtain ⟨j, hjz, rfl⟩ := ms_nat (by omega) fz h0
  obtain ⟨q, hq, fq⟩ := hrow j (by omega)
  have hM := CR_msgs h j z hz fz hjz q hq fq
  have e1 : NetOK (f_picked D j) := NetOK_keep hN (f_copy_off (by omega) (by omega)) (f_copy_off (by omega) (by omega))
  have e2 : MsgOK n (f_picked D j) 61 := by
    unfold f_picked
    rw [fq, cl_nI (by omega)]
    exact MsgOK_to hM f_copy_msg
  rw [cl_nI (by omega)]
  have hT : NetOK (f_taken D j st) ∧ MsgOK n (f_taken D j st) 61 := by
    unfold f_taken
    split
    · rw [fz, fq, cl_nI (by omega), cl_nI (by omega)]
      refine ⟨NetOK_remove e1 hjz hz ?_, MsgOK_keep e2 (f_remove_off (by omega) (by omega))⟩
      unfold f_picked
      rw [show f_copy D (cl (D 8 j)) 61 8 = D 8 from f_copy_off (by omega) (by omega)]
      exact fq
    · exact ⟨e1, e2⟩
  exact (hi_arrive (CR_n h) hT.1 hT.2 hc).trans (hi_taken hc)
theorem C1_up {kd w on : Int32} (h : CR n B D D) (hw : k = xc1 (upXo n kd w) ∧ (upXo n kd w = none → D1 = up2 (upF D n (cl kd) (cl w) on) 9 0 (hasI (D 4 (cl kd)) (cl w))) ∧ (¬ upXo n kd w = none → D1 = D)) : CR n B D D1 :=
  C1_gen h hw.2.1 hw.2.2 (fun h0 c hc => by
    obtain ⟨a1, a2⟩ := xs_none h0
    obtain ⟨j, hj, rfl⟩ := rg_nat (B := 3) (by decide) a1
    have a3 : rgX w (hmI n (nI j)) = none := a2
    rw [cl_nI (by omega)]
    refine hi_up (CR_n h) hc hj (fun e => ?_) (fun e => ?_)
    · subst e
      exact rg_lt (B := 3) (by decide) a3
    · subst e
      exact rg_lt (B := 2) (by decide) a3)
theorem C1_ro {Xo : Option String} {xc : Option String → Int32} {R : Int32} (h : CR n B D D) (hw : k = xc Xo ∧ (Xo = none → D1 = up2 D 9 0 R) ∧ (¬ Xo = none → D1 = D)) : CR n B D D1 := C1_gen (fD := D) h hw.2.1 hw.2.2 (fun _ _ _ => rfl)
end C1
section EW
variable {p : Program} {l : Launch} {e : Env} {R : Room} {s : State} {m : MethodId} {args : Array Value} {below : List Frame} {meth : Method} {c : Code} {H : Heap} {locs : List Loc} {cells slots : Nat} {Q : State → Prop}
variable {cc : ByteArray} {pc : Nat} {ls : Array Slot} {rest : List Value} {G : GT} {d : DD}
variable {y : MethodName} {bytes : ByteArray} {maxL nL mc ms n index : Nat} {ret : Option FieldType} {hh : List (Nat × Nat × Nat × Nat)} {rm : Room} {Qc : Array Value → State → Outcome → State → Prop} {own : String} {As st0 : List Value}
/-- a static method with an exception table -/
theorem e_runSW (hx : p.tables.exec = Jvm.exec) (hb : c.code = cc) (hml : c.maxLocals = nL) (hown : s.vm.findClass own = some m.cls) (hts : ∀ w ∈ WS, w.before args s = true) (hE : EnvP G s) (hbs : gbase G ≤ s.heap.size) (hW : WD G s.heap d H locs) (hM : Met l y (.codeWith y bytes maxL ret hh :: WS) rm (cPre G As d) Qc mc ms (gAb G))
    (k1 : Cond.methodLink own index y ∈ WS) (k2 : Cond.static y ∈ WS) (k3 : Cond.initialized y.cls ∈ WS) (k4 : Cond.codeWith y bytes maxL ret hh ∈ WS) (hrc : rm.cells = mc) (hrs : rm.slots = ms) (hd : y.cls ≠ "java/lang/invoke/MethodHandle" ∧ y.cls ≠ "java/lang/invoke/VarHandle" ∧ (parseMethodDescriptor y.desc).map (fun d => d.parameters.length) = some n) (hR : rm.frames + 1 ≤ R.frames ∧ 8 + (maxL + 11) + rm.locals ≤ R.locals)
    (hn : As.length = n) (hsize : ls.size = nL) (hst : st0 = As.reverse ++ rest) (hcat : (rest.map fun v => v.category).sum ≤ 8) (hdg : decode cc pc = .ok (.invokestatic index, 3)) (hf : cells + mc ≤ R.cells ∧ slots + ms ≤ R.slots) :
    va_Run p l e R s m args below meth c H locs cells slots mc ms (F0 m pc ls st0) rest (Qc As.toArray) (gAb G) := by
  refine vx_runSW ⟨hx, hb, hml, hown, hts⟩ hM (vx_cwSW n hts (fun w hw => ?_) rfl hrc hrs hd hR) ⟨cPre_blind, pre_of hE hW hbs⟩ rfl hn hsize hst (lv_room hcat) hdg hf
  unfold va_wsS at hw
  rcases List.mem_append.mp hw with h | h
  · have hg9 : ∀ w ∈ WS, w ∈ WS ∧ ((w.onTables && w.keeps) = true ∨ ∃ ty, w = .arrayClass ty) := fun w h => ⟨h, good_of_word (List.all_eq_true.mp WS_good w h)⟩
    simp only [List.mem_cons, List.not_mem_nil, or_false] at h
    rcases h with rfl | rfl | rfl
    · exact hg9 _ k1
    · exact hg9 _ k2
    · exact hg9 _ k3
  · exact goodWS k4 w h
end EW
theorem lcm_eq {x y : Int32} (h : x = y) : x.toInt64 = y.toInt64 := by rw [h]
/-- the script's end -/
theorem sc_in {i L : Nat} (hi : i < 2 ^ 30) (hL : L < 2 ^ 30) (h : ¬ nI L - nI 5 < nI i) : i + 5 ≤ L := by
  have e := pk_sub_toInt (a := L) (b := 5) hL (by decide)
  rw [Int32.lt_iff_toInt_lt, e, nI_toInt (by omega)] at h
  omega
