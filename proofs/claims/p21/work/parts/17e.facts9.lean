theorem acX4_counts_int : Cond.arrayClass .int ∈ wsX4_counts := by decide +kernel
theorem acX4_init_int : Cond.arrayClass .int ∈ wsX4_init := by decide +kernel
theorem acX4_more_int : Cond.arrayClass .int ∈ wsX4_more := by decide +kernel
theorem clX4_init_16 : Cond.classLink RX4 16 "[I" ∈ wsX4_init := by decide +kernel
theorem clX4_more_16 : Cond.classLink RX4 16 "[I" ∈ wsX4_more := by decide +kernel
theorem fX4_counts_24 : Cond.fieldLink RX4 24 "ColdCreameryLaw$Sim" "hour" "I" ∈ wsX4_counts := by decide +kernel
theorem fX4_counts_32 : Cond.fieldLink RX4 32 "ColdCreameryLaw$Sim" "coins" "I" ∈ wsX4_counts := by decide +kernel
theorem fX4_counts_38 : Cond.fieldLink RX4 38 "ColdCreameryLaw$Sim" "away" "I" ∈ wsX4_counts := by decide +kernel
theorem fX4_counts_7 : Cond.fieldLink RX4 7 "ColdCreameryLaw$Sim" "store" "[I" ∈ wsX4_counts := by decide +kernel
theorem fX4_init_13 : Cond.fieldLink RX4 13 "ColdCreameryLaw$Sim" "heat" "[I" ∈ wsX4_init := by decide +kernel
theorem fX4_init_17 : Cond.fieldLink RX4 17 "ColdCreameryLaw$Sim" "churns" "[[I" ∈ wsX4_init := by decide +kernel
theorem fX4_init_21 : Cond.fieldLink RX4 21 "ColdCreameryLaw$Sim" "tubs" "[[I" ∈ wsX4_init := by decide +kernel
theorem fX4_init_7 : Cond.fieldLink RX4 7 "ColdCreameryLaw$Sim" "store" "[I" ∈ wsX4_init := by decide +kernel
theorem fX4_isSame_17 : Cond.fieldLink RX4 17 "ColdCreameryLaw$Sim" "churns" "[[I" ∈ wsX4_isSame := by decide +kernel
theorem fX4_isSame_21 : Cond.fieldLink RX4 21 "ColdCreameryLaw$Sim" "tubs" "[[I" ∈ wsX4_isSame := by decide +kernel
theorem fX4_isSame_38 : Cond.fieldLink RX4 38 "ColdCreameryLaw$Sim" "away" "I" ∈ wsX4_isSame := by decide +kernel
theorem iX4_counts_X4 : ∀ w ∈ u_ws RX4 TX4 7, w ∈ wsX4_counts := by decide +kernel
theorem iX4_init_X4 : ∀ w ∈ u_ws RX4 TX4 7, w ∈ wsX4_init := by decide +kernel
theorem iX4_isSame_X4 : ∀ w ∈ u_ws RX4 TX4 7, w ∈ wsX4_isSame := by decide +kernel
theorem oiX4_init : Cond.methodLink RX4 1 objectInit ∈ wsX4_init := by decide +kernel
theorem ojX4_init : Cond.instanceMethod objectInit ∈ wsX4_init := by decide +kernel
theorem okX4_init : Cond.code objectInit ⟨#[0xb1]⟩ 1 none ∈ wsX4_init := by decide +kernel
theorem pX3_about : yX3_about.cls = RX3 ∧ yX3_about.cls ≠ "java/lang/invoke/MethodHandle" ∧ yX3_about.cls ≠ "java/lang/invoke/VarHandle" ∧ (parseMethodDescriptor yX3_about.desc).map (fun d => d.parameters.length) = some 2 := by decide +kernel
theorem pX3_count : yX3_count.cls = RX3 ∧ yX3_count.cls ≠ "java/lang/invoke/MethodHandle" ∧ yX3_count.cls ≠ "java/lang/invoke/VarHandle" ∧ (parseMethodDescriptor yX3_count.desc).map (fun d => d.parameters.length) = some 1 := by decide +kernel
theorem pX3_next : yX3_next.cls = RX3 ∧ yX3_next.cls ≠ "java/lang/invoke/MethodHandle" ∧ yX3_next.cls ≠ "java/lang/invoke/VarHandle" ∧ (parseMethodDescriptor yX3_next.desc).map (fun d => d.parameters.length) = some 0 := by decide +kernel
theorem pX3_share : yX3_share.cls = RX3 ∧ yX3_share.cls ≠ "java/lang/invoke/MethodHandle" ∧ yX3_share.cls ≠ "java/lang/invoke/VarHandle" ∧ (parseMethodDescriptor yX3_share.desc).map (fun d => d.parameters.length) = some 0 := by decide +kernel
theorem pX3_told : yX3_told.cls = RX3 ∧ yX3_told.cls ≠ "java/lang/invoke/MethodHandle" ∧ yX3_told.cls ≠ "java/lang/invoke/VarHandle" ∧ (parseMethodDescriptor yX3_told.desc).map (fun d => d.parameters.length) = some 2 := by decide +kernel
theorem pX4_counts : yX4_counts.cls = RX4 ∧ yX4_counts.cls ≠ "java/lang/invoke/MethodHandle" ∧ yX4_counts.cls ≠ "java/lang/invoke/VarHandle" ∧ (parseMethodDescriptor yX4_counts.desc).map (fun d => d.parameters.length) = some 0 := by decide +kernel
theorem pX4_sum : yX4_sum.cls = RX4 ∧ yX4_sum.cls ≠ "java/lang/invoke/MethodHandle" ∧ yX4_sum.cls ≠ "java/lang/invoke/VarHandle" ∧ (parseMethodDescriptor yX4_sum.desc).map (fun d => d.parameters.length) = some 1 := by decide +kernel
