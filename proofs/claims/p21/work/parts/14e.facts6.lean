theorem clX3_init_7 : Cond.classLink RX3 7 RX0 ∈ wsX3_init := by decide +kernel
theorem fX3_init_10 : Cond.fieldLink RX3 10 "ColdCreamery" "cellar" "LColdCreamery$Cellar;" ∈ wsX3_init := by decide +kernel
theorem fX3_init_16 : Cond.fieldLink RX3 16 "ColdCreamery" "foreseen" "LColdCreamery$Cellar;" ∈ wsX3_init := by decide +kernel
theorem fX3_share_10 : Cond.fieldLink RX3 10 "ColdCreamery" "cellar" "LColdCreamery$Cellar;" ∈ wsX3_share := by decide +kernel
theorem iX3_init_X0 : ∀ w ∈ u_ws RX0 TX0 9, w ∈ wsX3_init := by decide +kernel
theorem iX3_init_X3 : ∀ w ∈ u_ws RX3 TX3 2, w ∈ wsX3_init := by decide +kernel
theorem iX3_share_X0 : ∀ w ∈ u_ws RX0 TX0 9, w ∈ wsX3_share := by decide +kernel
theorem iX3_share_X3 : ∀ w ∈ u_ws RX3 TX3 2, w ∈ wsX3_share := by decide +kernel
theorem imX3_init_X0_init : Cond.instanceMethod yX0_init ∈ wsX3_init := by decide +kernel
theorem inX3_init_X0 : Cond.initialized RX0 ∈ wsX3_init := by decide +kernel
theorem itX3_init_X0 : Cond.instantiable RX0 9 ∈ wsX3_init := by decide +kernel
theorem lkX3_init_9 : Cond.methodLink RX3 9 yX0_init ∈ wsX3_init := by decide +kernel
theorem oiX3_init : Cond.methodLink RX3 1 objectInit ∈ wsX3_init := by decide +kernel
theorem ojX3_init : Cond.instanceMethod objectInit ∈ wsX3_init := by decide +kernel
theorem okX3_init : Cond.code objectInit ⟨#[0xb1]⟩ 1 none ∈ wsX3_init := by decide +kernel
theorem pX0_init : yX0_init.cls ≠ "java/lang/invoke/MethodHandle" ∧ yX0_init.cls ≠ "java/lang/invoke/VarHandle" ∧ (parseMethodDescriptor yX0_init.desc).map (fun d => d.parameters.length) = some 0 := by decide +kernel
