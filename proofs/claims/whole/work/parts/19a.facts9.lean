theorem acL_law_long : Cond.arrayClass .long ∈ wsL_law := by decide +kernel
theorem clL_law_62 : Cond.classLink RL 62 RX4 ∈ wsL_law := by decide +kernel
theorem clL_law_8 : Cond.classLink RL 8 RX3 ∈ wsL_law := by decide +kernel
theorem iL_law_X3 : ∀ w ∈ u_ws RX3 TX3 2, w ∈ wsL_law := by decide +kernel
theorem iL_law_X4 : ∀ w ∈ u_ws RX4 TX4 6, w ∈ wsL_law := by decide +kernel
theorem imL_law_X3_init : Cond.instanceMethod yX3_init ∈ wsL_law := by decide +kernel
theorem imL_law_X4_init : Cond.instanceMethod yX4_init ∈ wsL_law := by decide +kernel
theorem inL_law_X3 : Cond.initialized RX3 ∈ wsL_law := by decide +kernel
theorem inL_law_X4 : Cond.initialized RX4 ∈ wsL_law := by decide +kernel
theorem itL_law_X3 : Cond.instantiable RX3 2 ∈ wsL_law := by decide +kernel
theorem itL_law_X4 : Cond.instantiable RX4 6 ∈ wsL_law := by decide +kernel
theorem lkL_law_61 : Cond.methodLink RL 61 yX3_init ∈ wsL_law := by decide +kernel
theorem lkL_law_64 : Cond.methodLink RL 64 yX4_init ∈ wsL_law := by decide +kernel
theorem pX3_init : yX3_init.cls ≠ "java/lang/invoke/MethodHandle" ∧ yX3_init.cls ≠ "java/lang/invoke/VarHandle" ∧ (parseMethodDescriptor yX3_init.desc).map (fun d => d.parameters.length) = some 0 := by decide +kernel
theorem pX4_init : yX4_init.cls ≠ "java/lang/invoke/MethodHandle" ∧ yX4_init.cls ≠ "java/lang/invoke/VarHandle" ∧ (parseMethodDescriptor yX4_init.desc).map (fun d => d.parameters.length) = some 0 := by decide +kernel
