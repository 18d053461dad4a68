/-! The environment at the law's entry. -/
def NF : List Cond := flatC (Cond.and given_1 narrow_1)
set_option maxRecDepth 100000 in
theorem nq_DigitOnes : (NF.drop 14).take 100 = (List.range 100).map (fun j => Cond.eq (.elem (.static "java/lang/Integer" "DigitOnes" "[B") (.int (Int32.ofNat j))) (.int (nI (48 + j % 10)))) := by decide +kernel
theorem nf_DigitOnes : Cond.arrayOf (.static "java/lang/Integer" "DigitOnes" "[B") .byte ∈ NF ∧ Cond.eq (.length (.static "java/lang/Integer" "DigitOnes" "[B")) (.int (Int32.ofNat 100)) ∈ NF ∧ ∀ j, j < 100 → Cond.eq (.elem (.static "java/lang/Integer" "DigitOnes" "[B") (.int (Int32.ofNat j))) (.int (nI (48 + j % 10))) ∈ NF := by
  refine ⟨List.mem_of_getElem? (i := 12) (by decide +kernel), List.mem_of_getElem? (i := 13) (by decide +kernel), fun j hj => ?_⟩
  refine List.mem_of_mem_drop (i := 14) (List.mem_of_mem_take (i := 100) ?_)
  rw [nq_DigitOnes]
  exact List.mem_map.mpr ⟨j, List.mem_range.mpr hj, rfl⟩
set_option maxRecDepth 100000 in
theorem nq_DigitTens : (NF.drop 117).take 100 = (List.range 100).map (fun j => Cond.eq (.elem (.static "java/lang/Integer" "DigitTens" "[B") (.int (Int32.ofNat j))) (.int (nI (48 + j / 10)))) := by decide +kernel
theorem nf_DigitTens : Cond.arrayOf (.static "java/lang/Integer" "DigitTens" "[B") .byte ∈ NF ∧ Cond.eq (.length (.static "java/lang/Integer" "DigitTens" "[B")) (.int (Int32.ofNat 100)) ∈ NF ∧ ∀ j, j < 100 → Cond.eq (.elem (.static "java/lang/Integer" "DigitTens" "[B") (.int (Int32.ofNat j))) (.int (nI (48 + j / 10))) ∈ NF := by
  refine ⟨List.mem_of_getElem? (i := 115) (by decide +kernel), List.mem_of_getElem? (i := 116) (by decide +kernel), fun j hj => ?_⟩
  refine List.mem_of_mem_drop (i := 117) (List.mem_of_mem_take (i := 100) ?_)
  rw [nq_DigitTens]
  exact List.mem_map.mpr ⟨j, List.mem_range.mpr hj, rfl⟩
