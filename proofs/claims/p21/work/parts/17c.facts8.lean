theorem fX4_pass_17 : Cond.fieldLink RX4 17 "ColdCreameryLaw$Sim" "churns" "[[I" ∈ wsX4_pass := by decide +kernel
theorem fX4_pass_21 : Cond.fieldLink RX4 21 "ColdCreameryLaw$Sim" "tubs" "[[I" ∈ wsX4_pass := by decide +kernel
theorem fX4_pass_24 : Cond.fieldLink RX4 24 "ColdCreameryLaw$Sim" "hour" "I" ∈ wsX4_pass := by decide +kernel
theorem fX4_pass_32 : Cond.fieldLink RX4 32 "ColdCreameryLaw$Sim" "coins" "I" ∈ wsX4_pass := by decide +kernel
theorem fX4_pass_38 : Cond.fieldLink RX4 38 "ColdCreameryLaw$Sim" "away" "I" ∈ wsX4_pass := by decide +kernel
theorem fX4_pass_7 : Cond.fieldLink RX4 7 "ColdCreameryLaw$Sim" "store" "[I" ∈ wsX4_pass := by decide +kernel
theorem iX4_pass_X4 : ∀ w ∈ u_ws RX4 TX4 7, w ∈ wsX4_pass := by decide +kernel
theorem mcX4_pass_max : Cond.code Lib.Math.max.name Lib.Math.max.code 2 (some .int) ∈ wsX4_pass := by decide +kernel
theorem miX4_pass : Cond.initialized "java/lang/Math" ∈ wsX4_pass := by decide +kernel
theorem mlX4_pass_41 : Cond.methodLink RX4 41 Lib.Math.max.name ∈ wsX4_pass := by decide +kernel
theorem msX4_pass_max : Cond.static Lib.Math.max.name ∈ wsX4_pass := by decide +kernel
theorem pX4_hot : yX4_hot.cls = RX4 ∧ yX4_hot.cls ≠ "java/lang/invoke/MethodHandle" ∧ yX4_hot.cls ≠ "java/lang/invoke/VarHandle" ∧ (parseMethodDescriptor yX4_hot.desc).map (fun d => d.parameters.length) = some 0 := by decide +kernel
theorem pX4_next : yX4_next.cls = RX4 ∧ yX4_next.cls ≠ "java/lang/invoke/MethodHandle" ∧ yX4_next.cls ≠ "java/lang/invoke/VarHandle" ∧ (parseMethodDescriptor yX4_next.desc).map (fun d => d.parameters.length) = some 0 := by decide +kernel
