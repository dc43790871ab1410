theorem fX0_hoursUntilFirm_41 : Cond.fieldLink RX0 41 "ColdCreamery$Cellar" "hour" "I" ∈ wsX0_hoursUntilFirm := by decide +kernel
theorem fX0_hoursUntilNoIce_13 : Cond.fieldLink RX0 13 "ColdCreamery$Cellar" "stock" "[I" ∈ wsX0_hoursUntilNoIce := by decide +kernel
theorem fX0_hoursUntilNoIce_41 : Cond.fieldLink RX0 41 "ColdCreamery$Cellar" "hour" "I" ∈ wsX0_hoursUntilNoIce := by decide +kernel
theorem fX0_runHour_13 : Cond.fieldLink RX0 13 "ColdCreamery$Cellar" "stock" "[I" ∈ wsX0_runHour := by decide +kernel
theorem fX0_runHour_23 : Cond.fieldLink RX0 23 "ColdCreamery$Cellar" "churns" "[LColdCreamery$Churn;" ∈ wsX0_runHour := by decide +kernel
theorem fX0_runHour_29 : Cond.fieldLink RX0 29 "ColdCreamery$Cellar" "tubs" "[LColdCreamery$Tub;" ∈ wsX0_runHour := by decide +kernel
theorem fX0_runHour_41 : Cond.fieldLink RX0 41 "ColdCreamery$Cellar" "hour" "I" ∈ wsX0_runHour := by decide +kernel
theorem fX0_runHour_68 : Cond.fieldLink RX0 68 "ColdCreamery$Cellar" "tubCount" "I" ∈ wsX0_runHour := by decide +kernel
theorem fX0_runHour_83 : Cond.fieldLink RX0 83 "ColdCreamery$Cellar" "churnCount" "I" ∈ wsX0_runHour := by decide +kernel
theorem fX0_serveOne_13 : Cond.fieldLink RX0 13 "ColdCreamery$Cellar" "stock" "[I" ∈ wsX0_serveOne := by decide +kernel
theorem fX0_serveOne_29 : Cond.fieldLink RX0 29 "ColdCreamery$Cellar" "tubs" "[LColdCreamery$Tub;" ∈ wsX0_serveOne := by decide +kernel
theorem fX0_serveOne_49 : Cond.fieldLink RX0 49 "ColdCreamery$Cellar" "coins" "I" ∈ wsX0_serveOne := by decide +kernel
theorem fX0_serveOne_59 : Cond.fieldLink RX0 59 "ColdCreamery$Cellar" "sentAway" "I" ∈ wsX0_serveOne := by decide +kernel
theorem fX0_servePeople_41 : Cond.fieldLink RX0 41 "ColdCreamery$Cellar" "hour" "I" ∈ wsX0_servePeople := by decide +kernel
theorem iX0_hoursUntilFirm_X0 : ∀ w ∈ u_ws RX0 TX0 9, w ∈ wsX0_hoursUntilFirm := by decide +kernel
theorem iX0_hoursUntilFirm_X1 : ∀ w ∈ u_ws RX1 TX1 3, w ∈ wsX0_hoursUntilFirm := by decide +kernel
theorem iX0_hoursUntilNoIce_X0 : ∀ w ∈ u_ws RX0 TX0 9, w ∈ wsX0_hoursUntilNoIce := by decide +kernel
theorem iX0_runHour_X0 : ∀ w ∈ u_ws RX0 TX0 9, w ∈ wsX0_runHour := by decide +kernel
theorem iX0_serveOne_X0 : ∀ w ∈ u_ws RX0 TX0 9, w ∈ wsX0_serveOne := by decide +kernel
theorem iX0_servePeople_X0 : ∀ w ∈ u_ws RX0 TX0 9, w ∈ wsX0_servePeople := by decide +kernel
theorem inX0_hoursUntilFirm_X3 : Cond.initialized RX3 ∈ wsX0_hoursUntilFirm := by decide +kernel
theorem inX0_hoursUntilNoIce_X3 : Cond.initialized RX3 ∈ wsX0_hoursUntilNoIce := by decide +kernel
theorem inX0_runHour_X3 : Cond.initialized RX3 ∈ wsX0_runHour := by decide +kernel
theorem pX0_runHour : yX0_runHour.cls = RX0 ∧ yX0_runHour.cls ≠ "java/lang/invoke/MethodHandle" ∧ yX0_runHour.cls ≠ "java/lang/invoke/VarHandle" ∧ (parseMethodDescriptor yX0_runHour.desc).map (fun d => d.parameters.length) = some 0 := by decide +kernel
theorem pX0_sellingTub : yX0_sellingTub.cls = RX0 ∧ yX0_sellingTub.cls ≠ "java/lang/invoke/MethodHandle" ∧ yX0_sellingTub.cls ≠ "java/lang/invoke/VarHandle" ∧ (parseMethodDescriptor yX0_sellingTub.desc).map (fun d => d.parameters.length) = some 0 := by decide +kernel
theorem pX0_serveOne : yX0_serveOne.cls = RX0 ∧ yX0_serveOne.cls ≠ "java/lang/invoke/MethodHandle" ∧ yX0_serveOne.cls ≠ "java/lang/invoke/VarHandle" ∧ (parseMethodDescriptor yX0_serveOne.desc).map (fun d => d.parameters.length) = some 0 := by decide +kernel
theorem pX0_servePeople : yX0_servePeople.cls = RX0 ∧ yX0_servePeople.cls ≠ "java/lang/invoke/MethodHandle" ∧ yX0_servePeople.cls ≠ "java/lang/invoke/VarHandle" ∧ (parseMethodDescriptor yX0_servePeople.desc).map (fun d => d.parameters.length) = some 1 := by decide +kernel
theorem pX1_turn : yX1_turn.cls = RX1 ∧ yX1_turn.cls ≠ "java/lang/invoke/MethodHandle" ∧ yX1_turn.cls ≠ "java/lang/invoke/VarHandle" ∧ (parseMethodDescriptor yX1_turn.desc).map (fun d => d.parameters.length) = some 1 := by decide +kernel
theorem pX2_forgetSoftnessIfEmpty : yX2_forgetSoftnessIfEmpty.cls = RX2 ∧ yX2_forgetSoftnessIfEmpty.cls ≠ "java/lang/invoke/MethodHandle" ∧ yX2_forgetSoftnessIfEmpty.cls ≠ "java/lang/invoke/VarHandle" ∧ (parseMethodDescriptor yX2_forgetSoftnessIfEmpty.desc).map (fun d => d.parameters.length) = some 0 := by decide +kernel
theorem pX2_sellScoop : yX2_sellScoop.cls = RX2 ∧ yX2_sellScoop.cls ≠ "java/lang/invoke/MethodHandle" ∧ yX2_sellScoop.cls ≠ "java/lang/invoke/VarHandle" ∧ (parseMethodDescriptor yX2_sellScoop.desc).map (fun d => d.parameters.length) = some 0 := by decide +kernel
theorem pX2_standInHeat : yX2_standInHeat.cls = RX2 ∧ yX2_standInHeat.cls ≠ "java/lang/invoke/MethodHandle" ∧ yX2_standInHeat.cls ≠ "java/lang/invoke/VarHandle" ∧ (parseMethodDescriptor yX2_standInHeat.desc).map (fun d => d.parameters.length) = some 2 := by decide +kernel
theorem pX3_iceAfterHour : yX3_iceAfterHour.cls ≠ "java/lang/invoke/MethodHandle" ∧ yX3_iceAfterHour.cls ≠ "java/lang/invoke/VarHandle" ∧ (parseMethodDescriptor yX3_iceAfterHour.desc).map (fun d => d.parameters.length) = some 3 := by decide +kernel
theorem stX0_hoursUntilFirm_X3_coldAfterHour : Cond.static yX3_coldAfterHour ∈ wsX0_hoursUntilFirm := by decide +kernel
theorem stX0_hoursUntilFirm_X3_firmAfterHour : Cond.static yX3_firmAfterHour ∈ wsX0_hoursUntilFirm := by decide +kernel
theorem stX0_hoursUntilNoIce_X3_iceAfterHour : Cond.static yX3_iceAfterHour ∈ wsX0_hoursUntilNoIce := by decide +kernel
theorem stX0_runHour_X3_iceAfterHour : Cond.static yX3_iceAfterHour ∈ wsX0_runHour := by decide +kernel
