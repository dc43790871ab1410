theorem acL_law_int : Cond.arrayClass .int ∈ wsL_law := by decide +kernel
theorem clL_law_90 : Cond.classLink RL 90 "[[I" ∈ wsL_law := by decide +kernel
theorem fL_law_21 : Cond.fieldLink RL 21 "ColdCreameryLaw$Sim" "tubs" "[[I" ∈ wsL_law := by decide +kernel
theorem fL_law_9 : Cond.fieldLink RL 9 "ColdCreameryLaw$Sim" "churns" "[[I" ∈ wsL_law := by decide +kernel
theorem iL_law_X4 : ∀ w ∈ u_ws RX4 TX4 7, w ∈ wsL_law := by decide +kernel
theorem mcL_law_max : Cond.code Lib.Math.max.name Lib.Math.max.code 2 (some .int) ∈ wsL_law := by decide +kernel
theorem mcL_law_min : Cond.code Lib.Math.min.name Lib.Math.min.code 2 (some .int) ∈ wsL_law := by decide +kernel
theorem miL_law : Cond.initialized "java/lang/Math" ∈ wsL_law := by decide +kernel
theorem mlL_law_28 : Cond.methodLink RL 28 Lib.Math.min.name ∈ wsL_law := by decide +kernel
theorem mlL_law_64 : Cond.methodLink RL 64 Lib.Math.max.name ∈ wsL_law := by decide +kernel
theorem msL_law_max : Cond.static Lib.Math.max.name ∈ wsL_law := by decide +kernel
theorem msL_law_min : Cond.static Lib.Math.min.name ∈ wsL_law := by decide +kernel
theorem pX3_digest : yX3_digest.cls = RX3 ∧ yX3_digest.cls ≠ "java/lang/invoke/MethodHandle" ∧ yX3_digest.cls ≠ "java/lang/invoke/VarHandle" ∧ (parseMethodDescriptor yX3_digest.desc).map (fun d => d.parameters.length) = some 0 := by decide +kernel
theorem pX3_done : yX3_done.cls = RX3 ∧ yX3_done.cls ≠ "java/lang/invoke/MethodHandle" ∧ yX3_done.cls ≠ "java/lang/invoke/VarHandle" ∧ (parseMethodDescriptor yX3_done.desc).map (fun d => d.parameters.length) = some 1 := by decide +kernel
theorem pX3_foresee : yX3_foresee.cls = RX3 ∧ yX3_foresee.cls ≠ "java/lang/invoke/MethodHandle" ∧ yX3_foresee.cls ≠ "java/lang/invoke/VarHandle" ∧ (parseMethodDescriptor yX3_foresee.desc).map (fun d => d.parameters.length) = some 2 := by decide +kernel
theorem pX3_lasts : yX3_lasts.cls = RX3 ∧ yX3_lasts.cls ≠ "java/lang/invoke/MethodHandle" ∧ yX3_lasts.cls ≠ "java/lang/invoke/VarHandle" ∧ (parseMethodDescriptor yX3_lasts.desc).map (fun d => d.parameters.length) = some 0 := by decide +kernel
