/-! The law's body: what it has at its entry. -/
def LX (l : Launch) (G : GT) (b L : Nat) (xs : Nat → Int32) (p : Program) (s : State) (m : MethodId) (meth : Method) (c : Code) : Prop :=
  p.tables.exec = Jvm.exec ∧ c.code = code ∧ c.maxLocals = 7 ∧ s.vm.findClass R_Law = some m.cls ∧ (∀ w ∈ WS, w.before #[Value.ref b] s = true) ∧ EnvP G s ∧ gbase G ≤ s.heap.size ∧ va_X b L xs s s.heap ∧ b < s.heap.size ∧ ¬ gAb G b ∧ GOK G ∧ gad G 9 ≠ 0 ∧ l.stackTraces = false ∧ L ≤ 2561
theorem lg_rf (x : Int64) : lg_cmp x x = 0 := by simp [lg_cmp]
theorem lc_dead {x y : Int32} (h : x = y) (c : ¬ lg_cmp x.toInt64 y.toInt64 = 0) : False := c (by rw [h]; exact lg_rf _)
theorem lc_deadz {x y : Int32} {v : Int64} (h : x = y) (hv : v = y.toInt64) (c : ¬ lg_cmp x.toInt64 v = 0) : False := c (by rw [h, hv]; exact lg_rf _)
abbrev LV (G : GT) (b : Nat) (i : Nat) : List (Nat × Value) := [(4, .int (nI i)), (3, .ref (gad G 9)), (2, .ref (gad G 600)), (1, .ref (gad G 0)), (0, .ref b)]
theorem up01 {D1 fM u : DD} {C r k : Int32} {a b : Nat} (hs1 : u 600 0 = k) (hm : mQ D1 C (mR_up D1 a b) fM r u) (hk : k = 0) : r = 0 ∨ r = 1 := by
  rcases hm with ⟨-, rfl, -⟩ | ⟨hc, hu⟩
  · unfold mR_up
    split
    · exact Or.inr rfl
    · exact Or.inl rfl
  · exfalso
    rw [hu, up2_self, hk] at hs1
    exact hc hs1
