/-! What a message says, as a list of letters. -/
def prt (c : Nat) (x : Int32) : List Nat := if x = -1 then [] else c :: dgl x.toNatClampNeg
def vtl (x : Int32) : List Nat := if x = 1 then [89] else [78]
def rpl (x : Int32) : List Nat := if x = -1 then [45] else dgl (balI x).toNatClampNeg ++ vtl (votI x)
def LTR : List Nat := [80, 65, 82, 86, 84, 79]
def txt (r q : Nat → Int32) : List Nat := [] ++ [LTR.getD (r 0).toNatClampNeg 0] ++ prt 116 (r 1) ++ prt 115 (r 2) ++ prt 97 (r 3) ++ prt 108 (r 4) ++ prt 98 (r 5) ++ (if r 6 = -1 then [] else vtl (r 6)) ++ (if r 0 = 2 then rpl (q 0) ++ rpl (q 1) ++ rpl (q 2) else [])
def nmB (w : Nat) (x : Int32) : Prop := x = -1 ∨ ∃ v : Nat, v < w ∧ x = nI v
theorem prt_len1 {c : Nat} {x : Int32} (h : nmB 10 x) : (prt c x).length ≤ 2 := by
  unfold prt
  split
  · simp
  · rcases h with h | ⟨v, hv, rfl⟩
    · contradiction
    · rw [nI_clamp (by omega), dgl1 hv]; simp
theorem prt_len4 {c : Nat} {x : Int32} : (prt c x).length ≤ 5 := by
  unfold prt
  split
  · simp
  · have := (dgl_len x.toNatClampNeg).2
    simp; omega
theorem vtl_len (x : Int32) : (vtl x).length = 1 := by unfold vtl; split <;> rfl
theorem rpl_len {x : Int32} : (rpl x).length ≤ 5 := by
  unfold rpl
  split
  · simp
  · have := (dgl_len (balI x).toNatClampNeg).2
    rw [List.length_append, vtl_len]; omega
theorem nmB_mono {v w : Nat} {x : Int32} (h : nmB v x) (hw : v ≤ w) : nmB w x := h.imp id (fun ⟨u, h1, h2⟩ => ⟨u, by omega, h2⟩)
theorem nm_neg {v : Nat} (h : v < 2 ^ 31) : ¬ nI v = -1 := by
  intro e
  have h1 := nI_toInt h
  rw [e] at h1
  have h2 : (-1 : Int32).toInt = -1 := by decide
  omega
theorem balN {v : Nat} (h : v < 2 ^ 30) : balI (nI v) = nI (v / 2) := by
  unfold balI
  rw [if_neg (nm_neg (by omega))]
  exact pk_div (by omega) (by decide) (by decide)
theorem sbL_nil {a : Nat → Int32} : sbL [] a := fun j hj => absurd hj (Nat.not_lt_zero _)
theorem lo2 {b x y : Nat} {e f : va_E} {k : Nat} {z : Nat × va_E} (h : x < b ∧ y < b) (hk : ([(x, e), (y, f)] : va_W)[k]? = some z) : ¬ b ≤ z.1 := by
  match k, hk with
  | 0, hk => cases hk; exact Nat.not_le.mpr h.1
  | 1, hk => cases hk; exact Nat.not_le.mpr h.2
theorem h_oinit {p : Program} {l : Launch} {e : Env} {R : Room} {s : State} {m : MethodId} {args : Array Value} {below : List Frame} {meth : Method} {c : Code} {H : Heap} {locs : List Loc} {cells slots : Nat} {Q : State → Prop} {cc : ByteArray} {pc : Nat} {ls : Array Slot} {rest : List Value} (hexec : p.tables.exec = Jvm.exec) (hb : c.code = cc) {own : String} (hown : s.vm.findClass own = some m.cls) {idx : Nat}
    (hlink : (Cond.methodLink own idx Lib.objectInit).before args s = true) (hinst : (Cond.instanceMethod Lib.objectInit).before args s = true) (hcode : (Cond.code Lib.objectInit ⟨#[0xb1]⟩ 1 none).before args s = true) (hsize : ls.size = c.maxLocals) {a : Addr} (hd : decode cc pc = .ok (.invokespecial idx, 3)) (hframes : 1 ≤ R.frames) (hlocals : (rest.map fun v => v.category).sum + 12 ≤ R.locals)
    (kk : W p l e R s m args below meth c H locs cells slots Q (F0 m (pc + 3) ls rest)) : W p l e R s m args below meth c H locs cells slots Q (F0 m pc ls (.ref a :: rest)) :=
  W.objInit hexec hb hown hlink hinst hcode rfl hsize rfl hd hframes (by show 2 * 0 + _ + 12 ≤ _; omega) kk
