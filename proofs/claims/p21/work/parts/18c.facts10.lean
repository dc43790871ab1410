theorem clL_act_59 : Cond.classLink RL 59 ISE ∈ wsL_act := by decide +kernel
theorem fL_act_21 : Cond.fieldLink RL 21 "ColdCreameryLaw$Sim" "tubs" "[[I" ∈ wsL_act := by decide +kernel
theorem fL_act_24 : Cond.fieldLink RL 24 "ColdCreameryLaw$Sim" "store" "[I" ∈ wsL_act := by decide +kernel
theorem fL_act_38 : Cond.fieldLink RL 38 "ColdCreameryLaw$Sim" "heat" "[I" ∈ wsL_act := by decide +kernel
theorem fL_act_9 : Cond.fieldLink RL 9 "ColdCreameryLaw$Sim" "churns" "[[I" ∈ wsL_act := by decide +kernel
theorem iL_act_X4 : ∀ w ∈ u_ws RX4 TX4 7, w ∈ wsL_act := by decide +kernel
theorem mcL_act_max : Cond.code Lib.Math.max.name Lib.Math.max.code 2 (some .int) ∈ wsL_act := by decide +kernel
theorem mcL_act_min : Cond.code Lib.Math.min.name Lib.Math.min.code 2 (some .int) ∈ wsL_act := by decide +kernel
theorem miL_act : Cond.initialized "java/lang/Math" ∈ wsL_act := by decide +kernel
theorem mlL_act_28 : Cond.methodLink RL 28 Lib.Math.min.name ∈ wsL_act := by decide +kernel
theorem mlL_act_64 : Cond.methodLink RL 64 Lib.Math.max.name ∈ wsL_act := by decide +kernel
theorem msL_act_max : Cond.static Lib.Math.max.name ∈ wsL_act := by decide +kernel
theorem msL_act_min : Cond.static Lib.Math.min.name ∈ wsL_act := by decide +kernel
theorem pL_below : yL_below.cls ≠ "java/lang/invoke/MethodHandle" ∧ yL_below.cls ≠ "java/lang/invoke/VarHandle" ∧ (parseMethodDescriptor yL_below.desc).map (fun d => d.parameters.length) = some 2 := by decide +kernel
theorem pX3_bring : yX3_bring.cls = RX3 ∧ yX3_bring.cls ≠ "java/lang/invoke/MethodHandle" ∧ yX3_bring.cls ≠ "java/lang/invoke/VarHandle" ∧ (parseMethodDescriptor yX3_bring.desc).map (fun d => d.parameters.length) = some 2 := by decide +kernel
theorem pX3_churn : yX3_churn.cls = RX3 ∧ yX3_churn.cls ≠ "java/lang/invoke/MethodHandle" ∧ yX3_churn.cls ≠ "java/lang/invoke/VarHandle" ∧ (parseMethodDescriptor yX3_churn.desc).map (fun d => d.parameters.length) = some 0 := by decide +kernel
theorem pX3_pack : yX3_pack.cls = RX3 ∧ yX3_pack.cls ≠ "java/lang/invoke/MethodHandle" ∧ yX3_pack.cls ≠ "java/lang/invoke/VarHandle" ∧ (parseMethodDescriptor yX3_pack.desc).map (fun d => d.parameters.length) = some 3 := by decide +kernel
theorem pX3_pour : yX3_pour.cls = RX3 ∧ yX3_pour.cls ≠ "java/lang/invoke/MethodHandle" ∧ yX3_pour.cls ≠ "java/lang/invoke/VarHandle" ∧ (parseMethodDescriptor yX3_pour.desc).map (fun d => d.parameters.length) = some 2 := by decide +kernel
theorem pX3_scoop : yX3_scoop.cls = RX3 ∧ yX3_scoop.cls ≠ "java/lang/invoke/MethodHandle" ∧ yX3_scoop.cls ≠ "java/lang/invoke/VarHandle" ∧ (parseMethodDescriptor yX3_scoop.desc).map (fun d => d.parameters.length) = some 2 := by decide +kernel
theorem pX3_setHeat : yX3_setHeat.cls = RX3 ∧ yX3_setHeat.cls ≠ "java/lang/invoke/MethodHandle" ∧ yX3_setHeat.cls ≠ "java/lang/invoke/VarHandle" ∧ (parseMethodDescriptor yX3_setHeat.desc).map (fun d => d.parameters.length) = some 2 := by decide +kernel
theorem pX3_tub : yX3_tub.cls = RX3 ∧ yX3_tub.cls ≠ "java/lang/invoke/MethodHandle" ∧ yX3_tub.cls ≠ "java/lang/invoke/VarHandle" ∧ (parseMethodDescriptor yX3_tub.desc).map (fun d => d.parameters.length) = some 0 := by decide +kernel
theorem pX4_more : yX4_more.cls ≠ "java/lang/invoke/MethodHandle" ∧ yX4_more.cls ≠ "java/lang/invoke/VarHandle" ∧ (parseMethodDescriptor yX4_more.desc).map (fun d => d.parameters.length) = some 1 := by decide +kernel
