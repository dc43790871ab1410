theorem clL_about_13 : Cond.classLink RL 13 IOOBE ∈ wsL_about := by decide +kernel
theorem clL_bring_13 : Cond.classLink RL 13 IOOBE ∈ wsL_bring := by decide +kernel
theorem clL_bring_15 : Cond.classLink RL 15 IAE ∈ wsL_bring := by decide +kernel
theorem clL_churn_24 : Cond.classLink RL 24 ISE ∈ wsL_churn := by decide +kernel
theorem clL_count_13 : Cond.classLink RL 13 IOOBE ∈ wsL_count := by decide +kernel
theorem clL_done_13 : Cond.classLink RL 13 IOOBE ∈ wsL_done := by decide +kernel
theorem clL_foresee_13 : Cond.classLink RL 13 IOOBE ∈ wsL_foresee := by decide +kernel
theorem clL_foresee_15 : Cond.classLink RL 15 IAE ∈ wsL_foresee := by decide +kernel
theorem clL_pack_13 : Cond.classLink RL 13 IOOBE ∈ wsL_pack := by decide +kernel
theorem clL_pack_15 : Cond.classLink RL 15 IAE ∈ wsL_pack := by decide +kernel
theorem clL_pack_24 : Cond.classLink RL 24 ISE ∈ wsL_pack := by decide +kernel
theorem clL_pass_15 : Cond.classLink RL 15 IAE ∈ wsL_pass := by decide +kernel
theorem clL_pour_13 : Cond.classLink RL 13 IOOBE ∈ wsL_pour := by decide +kernel
theorem clL_pour_15 : Cond.classLink RL 15 IAE ∈ wsL_pour := by decide +kernel
theorem clL_pour_24 : Cond.classLink RL 24 ISE ∈ wsL_pour := by decide +kernel
theorem clL_salt_13 : Cond.classLink RL 13 IOOBE ∈ wsL_salt := by decide +kernel
theorem clL_salt_15 : Cond.classLink RL 15 IAE ∈ wsL_salt := by decide +kernel
theorem clL_scoop_13 : Cond.classLink RL 13 IOOBE ∈ wsL_scoop := by decide +kernel
theorem clL_scoop_24 : Cond.classLink RL 24 ISE ∈ wsL_scoop := by decide +kernel
theorem clL_setHeat_13 : Cond.classLink RL 13 IOOBE ∈ wsL_setHeat := by decide +kernel
theorem clL_setHeat_15 : Cond.classLink RL 15 IAE ∈ wsL_setHeat := by decide +kernel
theorem clL_told_13 : Cond.classLink RL 13 IOOBE ∈ wsL_told := by decide +kernel
theorem clL_tub_24 : Cond.classLink RL 24 ISE ∈ wsL_tub := by decide +kernel
theorem pX3_about : yX3_about.cls = RX3 ∧ yX3_about.cls ≠ "java/lang/invoke/MethodHandle" ∧ yX3_about.cls ≠ "java/lang/invoke/VarHandle" ∧ (parseMethodDescriptor yX3_about.desc).map (fun d => d.parameters.length) = some 2 := by decide +kernel
theorem pX3_bring : yX3_bring.cls = RX3 ∧ yX3_bring.cls ≠ "java/lang/invoke/MethodHandle" ∧ yX3_bring.cls ≠ "java/lang/invoke/VarHandle" ∧ (parseMethodDescriptor yX3_bring.desc).map (fun d => d.parameters.length) = some 2 := by decide +kernel
theorem pX3_churn : yX3_churn.cls = RX3 ∧ yX3_churn.cls ≠ "java/lang/invoke/MethodHandle" ∧ yX3_churn.cls ≠ "java/lang/invoke/VarHandle" ∧ (parseMethodDescriptor yX3_churn.desc).map (fun d => d.parameters.length) = some 0 := by decide +kernel
theorem pX3_count : yX3_count.cls = RX3 ∧ yX3_count.cls ≠ "java/lang/invoke/MethodHandle" ∧ yX3_count.cls ≠ "java/lang/invoke/VarHandle" ∧ (parseMethodDescriptor yX3_count.desc).map (fun d => d.parameters.length) = some 1 := by decide +kernel
theorem pX3_done : yX3_done.cls = RX3 ∧ yX3_done.cls ≠ "java/lang/invoke/MethodHandle" ∧ yX3_done.cls ≠ "java/lang/invoke/VarHandle" ∧ (parseMethodDescriptor yX3_done.desc).map (fun d => d.parameters.length) = some 1 := by decide +kernel
theorem pX3_foresee : yX3_foresee.cls = RX3 ∧ yX3_foresee.cls ≠ "java/lang/invoke/MethodHandle" ∧ yX3_foresee.cls ≠ "java/lang/invoke/VarHandle" ∧ (parseMethodDescriptor yX3_foresee.desc).map (fun d => d.parameters.length) = some 2 := by decide +kernel
theorem pX3_pack : yX3_pack.cls = RX3 ∧ yX3_pack.cls ≠ "java/lang/invoke/MethodHandle" ∧ yX3_pack.cls ≠ "java/lang/invoke/VarHandle" ∧ (parseMethodDescriptor yX3_pack.desc).map (fun d => d.parameters.length) = some 3 := by decide +kernel
theorem pX3_pass : yX3_pass.cls = RX3 ∧ yX3_pass.cls ≠ "java/lang/invoke/MethodHandle" ∧ yX3_pass.cls ≠ "java/lang/invoke/VarHandle" ∧ (parseMethodDescriptor yX3_pass.desc).map (fun d => d.parameters.length) = some 1 := by decide +kernel
theorem pX3_pour : yX3_pour.cls = RX3 ∧ yX3_pour.cls ≠ "java/lang/invoke/MethodHandle" ∧ yX3_pour.cls ≠ "java/lang/invoke/VarHandle" ∧ (parseMethodDescriptor yX3_pour.desc).map (fun d => d.parameters.length) = some 2 := by decide +kernel
theorem pX3_salt : yX3_salt.cls = RX3 ∧ yX3_salt.cls ≠ "java/lang/invoke/MethodHandle" ∧ yX3_salt.cls ≠ "java/lang/invoke/VarHandle" ∧ (parseMethodDescriptor yX3_salt.desc).map (fun d => d.parameters.length) = some 2 := by decide +kernel
theorem pX3_scoop : yX3_scoop.cls = RX3 ∧ yX3_scoop.cls ≠ "java/lang/invoke/MethodHandle" ∧ yX3_scoop.cls ≠ "java/lang/invoke/VarHandle" ∧ (parseMethodDescriptor yX3_scoop.desc).map (fun d => d.parameters.length) = some 2 := by decide +kernel
theorem pX3_setHeat : yX3_setHeat.cls = RX3 ∧ yX3_setHeat.cls ≠ "java/lang/invoke/MethodHandle" ∧ yX3_setHeat.cls ≠ "java/lang/invoke/VarHandle" ∧ (parseMethodDescriptor yX3_setHeat.desc).map (fun d => d.parameters.length) = some 2 := by decide +kernel
theorem pX3_told : yX3_told.cls = RX3 ∧ yX3_told.cls ≠ "java/lang/invoke/MethodHandle" ∧ yX3_told.cls ≠ "java/lang/invoke/VarHandle" ∧ (parseMethodDescriptor yX3_told.desc).map (fun d => d.parameters.length) = some 2 := by decide +kernel
theorem pX3_tub : yX3_tub.cls = RX3 ∧ yX3_tub.cls ≠ "java/lang/invoke/MethodHandle" ∧ yX3_tub.cls ≠ "java/lang/invoke/VarHandle" ∧ (parseMethodDescriptor yX3_tub.desc).map (fun d => d.parameters.length) = some 0 := by decide +kernel
