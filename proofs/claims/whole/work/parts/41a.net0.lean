/-! The net's own constructor makes sixty messages in a loop. -/
def rwF (sa j : Nat) : Nat → Option Nat := fun i => if i < j then some (sa + 6 + 2 * i) else none
def mtail (G : GT) (sa j : Nat) : va_W := wMsgI G (sa + 2) ++ wMsgI G (sa + 4) ++ (List.range j).flatMap (fun i => wMsgI G (sa + 6 + 2 * i))
theorem mt_0 (G : GT) (sa : Nat) : mtail G sa 0 = wMsgI G (sa + 2) ++ wMsgI G (sa + 4) := by unfold mtail; simp
theorem mt_succ (G : GT) (sa j : Nat) : mtail G sa (j + 1) = mtail G sa j ++ wMsgI G (sa + 6 + 2 * j) := by
  unfold mtail
  rw [List.range_succ, List.flatMap_append, List.append_assoc, List.append_assoc, List.append_assoc]
  simp
theorem rw_0 (sa : Nat) : rwF sa 0 = fun _ => none := funext fun i => if_neg (Nat.not_lt_zero i)
theorem rw_succ (sa j : Nat) : va_up (rwF sa j) j (some (sa + 6 + 2 * j)) = rwF sa (j + 1) := by
  funext i
  unfold va_up rwF
  by_cases h : i = j
  · subst h
    rw [if_pos rfl, if_pos (Nat.lt_succ_self _)]
  · rw [if_neg h]
    by_cases h2 : i < j
    · rw [if_pos h2, if_pos (by omega)]
    · rw [if_neg h2, if_neg (by omega)]
theorem mt_last (G : GT) (sa j : Nat) : ∃ e, (sa + 5 + 2 * j, e) ∈ mtail G sa j := by
  cases j with
  | zero => exact ⟨_, by rw [mt_0]; exact List.mem_append_right _ (List.mem_of_getElem? (i := 1) rfl)⟩
  | succ j => exact ⟨_, by rw [mt_succ, show sa + 5 + 2 * (j + 1) = sa + 6 + 2 * j + 1 by omega]; exact List.mem_append_right _ (List.mem_of_getElem? (i := 1) rfl)⟩
theorem mt_ge (G : GT) (sa j : Nat) : ∀ q ∈ mtail G sa j, sa ≤ q.1 := by
  intro q hq
  unfold mtail at hq
  rcases List.mem_append.mp hq with hq | hq
  · rcases List.mem_append.mp hq with hq | hq
    · have := ls_MsgI G (sa + 2) q hq
      omega
    · have := ls_MsgI G (sa + 4) q hq
      omega
  · obtain ⟨i, -, hq⟩ := List.mem_flatMap.mp hq
    have := ls_MsgI G (sa + 6 + 2 * i) q hq
    omega
def wNetI (G : GT) (sa : Nat) : va_W := [(sa, .inr (iNet, [.ref (sa + 1), .int 0, .int 0, .ref (sa + 2), .ref (sa + 4)])), (sa + 1, aR (gC G 7) 60 (rwF sa 60))] ++ mtail G sa 60
theorem ls_NetI (G : GT) (sa : Nat) : ∀ q ∈ wNetI G sa, sa ≤ q.1 := by
  intro q hq
  unfold wNetI at hq
  rcases List.mem_append.mp hq with hq | hq
  · simp only [List.mem_cons, List.not_mem_nil, or_false] at hq
    rcases hq with rfl | rfl <;> simp
  · exact mt_ge G sa 60 q hq
theorem last_NetI (G : GT) (sa : Nat) : (sa + 125, aI (gC G 0) 3 (fun _ => 0)) ∈ wNetI G sa := by
  unfold wNetI
  rw [mt_succ]
  exact List.mem_append_right _ (List.mem_append_right _ (List.mem_of_getElem? (i := 1) rfl))
