set_option maxRecDepth 100000 in
theorem nf_misc : Cond.eq (.static "java/lang/String" "COMPACT_STRINGS" "Z") (.int 1) ∈ NF ∧ Cond.isRef (.static "jdk/internal/util/Preconditions" "SIOOBE_FORMATTER" "Ljava/util/function/BiFunction;") ∈ NF ∧ Cond.isRef (.static Bundle.tN "UNASSIGNED_STACK" Bundle.steD) ∈ NF ∧ Cond.isRef (.static Bundle.tN "SUPPRESSED_SENTINEL" Bundle.listD) ∈ NF := by decide +kernel
set_option maxRecDepth 100000 in
theorem nf_nc : ∀ E ∈ EXC, ∀ T ∈ EXC, E ≠ T → Cond.not (.castable E T) ∈ NF := by decide +kernel
set_option maxRecDepth 100000 in
theorem nf_str : ∀ q ∈ STRS, Cond.exactly (.string q.1 q.2.1) "java/lang/String" ∈ NF := by decide +kernel
set_option maxRecDepth 100000 in
theorem nf_let : Cond.exactly (.string R_Msg 53) "java/lang/String" ∈ NF ∧ Cond.eq (.field (.string R_Msg 53) "java/lang/String" "coder" "B") (.int 0) ∈ NF ∧ Cond.arrayOf (.field (.string R_Msg 53) "java/lang/String" "value" "[B") .byte ∈ NF ∧ Cond.eq (.length (.field (.string R_Msg 53) "java/lang/String" "value" "[B")) (.int (Int32.ofNat 6)) ∈ NF ∧ ∀ j, j < 6 → Cond.eq (.elem (.field (.string R_Msg 53) "java/lang/String" "value" "[B") (.int (Int32.ofNat j))) (.int (([80, 65, 82, 86, 84, 79] : List Int32).getD j 0)) ∈ NF := by decide +kernel
