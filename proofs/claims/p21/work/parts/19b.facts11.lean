theorem clL_build_10 : Cond.classLink RL 10 RX4 ∈ wsL_build := by decide +kernel
theorem fL_build_24 : Cond.fieldLink RL 24 "ColdCreameryLaw$Sim" "store" "[I" ∈ wsL_build := by decide +kernel
theorem iL_build_X4 : ∀ w ∈ u_ws RX4 TX4 7, w ∈ wsL_build := by decide +kernel
theorem imL_build_X4_init : Cond.instanceMethod yX4_init ∈ wsL_build := by decide +kernel
theorem inL_build_X4 : Cond.initialized RX4 ∈ wsL_build := by decide +kernel
theorem itL_build_X4 : Cond.instantiable RX4 7 ∈ wsL_build := by decide +kernel
theorem mcL_build_min : Cond.code Lib.Math.min.name Lib.Math.min.code 2 (some .int) ∈ wsL_build := by decide +kernel
theorem miL_build : Cond.initialized "java/lang/Math" ∈ wsL_build := by decide +kernel
theorem mlL_build_28 : Cond.methodLink RL 28 Lib.Math.min.name ∈ wsL_build := by decide +kernel
theorem msL_build_min : Cond.static Lib.Math.min.name ∈ wsL_build := by decide +kernel
theorem pL_act : yL_act.cls ≠ "java/lang/invoke/MethodHandle" ∧ yL_act.cls ≠ "java/lang/invoke/VarHandle" ∧ (parseMethodDescriptor yL_act.desc).map (fun d => d.parameters.length) = some 3 := by decide +kernel
theorem pL_cell : yL_cell.cls ≠ "java/lang/invoke/MethodHandle" ∧ yL_cell.cls ≠ "java/lang/invoke/VarHandle" ∧ (parseMethodDescriptor yL_cell.desc).map (fun d => d.parameters.length) = some 2 := by decide +kernel
theorem pX3_pass : yX3_pass.cls = RX3 ∧ yX3_pass.cls ≠ "java/lang/invoke/MethodHandle" ∧ yX3_pass.cls ≠ "java/lang/invoke/VarHandle" ∧ (parseMethodDescriptor yX3_pass.desc).map (fun d => d.parameters.length) = some 1 := by decide +kernel
theorem pX4_init : yX4_init.cls ≠ "java/lang/invoke/MethodHandle" ∧ yX4_init.cls ≠ "java/lang/invoke/VarHandle" ∧ (parseMethodDescriptor yX4_init.desc).map (fun d => d.parameters.length) = some 0 := by decide +kernel
theorem pX4_pass : yX4_pass.cls = RX4 ∧ yX4_pass.cls ≠ "java/lang/invoke/MethodHandle" ∧ yX4_pass.cls ≠ "java/lang/invoke/VarHandle" ∧ (parseMethodDescriptor yX4_pass.desc).map (fun d => d.parameters.length) = some 0 := by decide +kernel
