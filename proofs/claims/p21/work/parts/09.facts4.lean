theorem acX0_init_int : Cond.arrayClass .int ∈ wsX0_init := by decide +kernel
theorem clX0_init_21 : Cond.classLink RX0 21 RX1 ∈ wsX0_init := by decide +kernel
theorem clX0_init_27 : Cond.classLink RX0 27 RX2 ∈ wsX0_init := by decide +kernel
theorem fX0_init_13 : Cond.fieldLink RX0 13 "ColdCreamery$Cellar" "stock" "[I" ∈ wsX0_init := by decide +kernel
theorem fX0_init_18 : Cond.fieldLink RX0 18 "ColdCreamery$Cellar" "heats" "[I" ∈ wsX0_init := by decide +kernel
theorem fX0_init_23 : Cond.fieldLink RX0 23 "ColdCreamery$Cellar" "churns" "[LColdCreamery$Churn;" ∈ wsX0_init := by decide +kernel
theorem fX0_init_29 : Cond.fieldLink RX0 29 "ColdCreamery$Cellar" "tubs" "[LColdCreamery$Tub;" ∈ wsX0_init := by decide +kernel
theorem iX0_init_X0 : ∀ w ∈ u_ws RX0 TX0 9, w ∈ wsX0_init := by decide +kernel
theorem iX0_init_X1 : ∀ w ∈ u_ws RX1 TX1 3, w ∈ wsX0_init := by decide +kernel
theorem iX0_init_X2 : ∀ w ∈ u_ws RX2 TX2 3, w ∈ wsX0_init := by decide +kernel
theorem imX0_init_X1_init : Cond.instanceMethod yX1_init ∈ wsX0_init := by decide +kernel
theorem imX0_init_X2_init : Cond.instanceMethod yX2_init ∈ wsX0_init := by decide +kernel
theorem inX0_init_X1 : Cond.initialized RX1 ∈ wsX0_init := by decide +kernel
theorem inX0_init_X2 : Cond.initialized RX2 ∈ wsX0_init := by decide +kernel
theorem itX0_init_X1 : Cond.instantiable RX1 3 ∈ wsX0_init := by decide +kernel
theorem itX0_init_X2 : Cond.instantiable RX2 3 ∈ wsX0_init := by decide +kernel
theorem oiX0_init : Cond.methodLink RX0 3 objectInit ∈ wsX0_init := by decide +kernel
theorem ojX0_init : Cond.instanceMethod objectInit ∈ wsX0_init := by decide +kernel
theorem okX0_init : Cond.code objectInit ⟨#[0xb1]⟩ 1 none ∈ wsX0_init := by decide +kernel
theorem pJ7_fill_53178 : yJ7_fill_53178.cls ≠ "java/lang/invoke/MethodHandle" ∧ yJ7_fill_53178.cls ≠ "java/lang/invoke/VarHandle" ∧ (parseMethodDescriptor yJ7_fill_53178.desc).map (fun d => d.parameters.length) = some 2 := by decide +kernel
theorem pX1_init : yX1_init.cls ≠ "java/lang/invoke/MethodHandle" ∧ yX1_init.cls ≠ "java/lang/invoke/VarHandle" ∧ (parseMethodDescriptor yX1_init.desc).map (fun d => d.parameters.length) = some 0 := by decide +kernel
theorem pX2_init : yX2_init.cls ≠ "java/lang/invoke/MethodHandle" ∧ yX2_init.cls ≠ "java/lang/invoke/VarHandle" ∧ (parseMethodDescriptor yX2_init.desc).map (fun d => d.parameters.length) = some 0 := by decide +kernel
