theorem clL_law_34 : Cond.classLink RL 34 RX3 ∈ wsL_law := by decide +kernel
theorem iL_law_X3 : ∀ w ∈ u_ws RX3 TX3 2, w ∈ wsL_law := by decide +kernel
theorem imL_law_X3_init : Cond.instanceMethod yX3_init ∈ wsL_law := by decide +kernel
theorem inL_law_X3 : Cond.initialized RX3 ∈ wsL_law := by decide +kernel
theorem itL_law_X3 : Cond.instantiable RX3 2 ∈ wsL_law := by decide +kernel
theorem lkL_law_85 : Cond.methodLink RL 85 yX3_init ∈ wsL_law := by decide +kernel
theorem pL_build : yL_build.cls ≠ "java/lang/invoke/MethodHandle" ∧ yL_build.cls ≠ "java/lang/invoke/VarHandle" ∧ (parseMethodDescriptor yL_build.desc).map (fun d => d.parameters.length) = some 2 := by decide +kernel
theorem pX3_init : yX3_init.cls ≠ "java/lang/invoke/MethodHandle" ∧ yX3_init.cls ≠ "java/lang/invoke/VarHandle" ∧ (parseMethodDescriptor yX3_init.desc).map (fun d => d.parameters.length) = some 0 := by decide +kernel
theorem pX4_isSame : yX4_isSame.cls = RX4 ∧ yX4_isSame.cls ≠ "java/lang/invoke/MethodHandle" ∧ yX4_isSame.cls ≠ "java/lang/invoke/VarHandle" ∧ (parseMethodDescriptor yX4_isSame.desc).map (fun d => d.parameters.length) = some 1 := by decide +kernel
