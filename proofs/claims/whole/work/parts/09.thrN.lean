section EXN
variable {p : Program} {l : Launch} {e : Env} {R : Room} {s : State} {m : MethodId} {args : Array Value} {below : List Frame} {meth : Method} {c : Code} {H : Heap} {locs : List Loc} {cells slots : Nat} {Q : State → Prop}
variable {cc : ByteArray} {pc : Nat} {ls : Array Slot} {rest : List Value} {G : GT} {d : DD} {nL : Nat} {Qc : Array Value → State → Outcome → State → Prop} {own : String}
/-- .. a NoSuchElementException: its constructor has another number in its pool (OPEN) -/
theorem e_thrN {xpost : String → DD → Prop} (hl : l.stackTraces = false) (hx : p.tables.exec = Jvm.exec) (hb : c.code = cc) (hown : s.vm.findClass own = some m.cls) (hts : ∀ w ∈ WS, w.before args s = true) (hE : EnvP G s) (hW : WD G s.heap d H locs) (hml : c.maxLocals = nL) (hsz : ls.size = nL) (hno : ∀ x ∈ c.exceptionTable.toList, False) (hlk : meth.locks = false) {cls text : String} {ik is ic : Nat} (T : own = R_PC ∧ ik = 215 ∧ ic = 219 ∧ cls = "java/util/NoSuchElementException") (ks : (own, is, text) ∈ STRS)
    (d0 : decode cc pc = .ok (.new ik, 3)) (d3 : decode cc (pc + 3) = .ok (.dup, 1)) (d4 : decode cc (pc + 4) = .ok (.ldc is, 2)) (d6 : decode cc (pc + 6) = .ok (.invokespecial ic, 3)) (d9 : decode cc (pc + 9) = .ok (.athrow, 1)) (hRf : 5 < R.frames) (hRl : (rest.map fun v => v.category).sum + 82 ≤ R.locals) (hRc : cells + 1 ≤ R.cells) (hRs : slots + 6 ≤ R.slots) {mc ms : Nat} (hc : cells + 1 ≤ mc) (hs : slots + 6 ≤ ms) (hp : xpost cls d) :
    W p l e R s m args below meth c H locs cells slots (vx_MQ below Qc (cX G xpost) args s mc ms (gAb G)) (F0 m pc ls rest) := by
  sorry
end EXN
