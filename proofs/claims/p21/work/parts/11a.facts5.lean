theorem fX0_copyFrom_13 : Cond.fieldLink RX0 13 "ColdCreamery$Cellar" "stock" "[I" ∈ wsX0_copyFrom := by decide +kernel
theorem fX0_copyFrom_18 : Cond.fieldLink RX0 18 "ColdCreamery$Cellar" "heats" "[I" ∈ wsX0_copyFrom := by decide +kernel
theorem fX0_copyFrom_23 : Cond.fieldLink RX0 23 "ColdCreamery$Cellar" "churns" "[LColdCreamery$Churn;" ∈ wsX0_copyFrom := by decide +kernel
theorem fX0_copyFrom_29 : Cond.fieldLink RX0 29 "ColdCreamery$Cellar" "tubs" "[LColdCreamery$Tub;" ∈ wsX0_copyFrom := by decide +kernel
theorem fX0_copyFrom_41 : Cond.fieldLink RX0 41 "ColdCreamery$Cellar" "hour" "I" ∈ wsX0_copyFrom := by decide +kernel
theorem fX0_copyFrom_49 : Cond.fieldLink RX0 49 "ColdCreamery$Cellar" "coins" "I" ∈ wsX0_copyFrom := by decide +kernel
theorem fX0_copyFrom_59 : Cond.fieldLink RX0 59 "ColdCreamery$Cellar" "sentAway" "I" ∈ wsX0_copyFrom := by decide +kernel
theorem fX0_copyFrom_68 : Cond.fieldLink RX0 68 "ColdCreamery$Cellar" "tubCount" "I" ∈ wsX0_copyFrom := by decide +kernel
theorem fX0_copyFrom_83 : Cond.fieldLink RX0 83 "ColdCreamery$Cellar" "churnCount" "I" ∈ wsX0_copyFrom := by decide +kernel
theorem fX3_bring_10 : Cond.fieldLink RX3 10 "ColdCreamery" "cellar" "LColdCreamery$Cellar;" ∈ wsX3_bring := by decide +kernel
theorem fX3_bring_35 : Cond.fieldLink RX3 35 "ColdCreamery" "STOCK_LIMITS" "[I" ∈ wsX3_bring := by decide +kernel
theorem fX3_churn_10 : Cond.fieldLink RX3 10 "ColdCreamery" "cellar" "LColdCreamery$Cellar;" ∈ wsX3_churn := by decide +kernel
theorem fX3_count_10 : Cond.fieldLink RX3 10 "ColdCreamery" "cellar" "LColdCreamery$Cellar;" ∈ wsX3_count := by decide +kernel
theorem fX3_digest_10 : Cond.fieldLink RX3 10 "ColdCreamery" "cellar" "LColdCreamery$Cellar;" ∈ wsX3_digest := by decide +kernel
theorem fX3_done_10 : Cond.fieldLink RX3 10 "ColdCreamery" "cellar" "LColdCreamery$Cellar;" ∈ wsX3_done := by decide +kernel
theorem fX3_existingChurn_10 : Cond.fieldLink RX3 10 "ColdCreamery" "cellar" "LColdCreamery$Cellar;" ∈ wsX3_existingChurn := by decide +kernel
theorem fX3_existingTub_10 : Cond.fieldLink RX3 10 "ColdCreamery" "cellar" "LColdCreamery$Cellar;" ∈ wsX3_existingTub := by decide +kernel
theorem fX3_foresee_10 : Cond.fieldLink RX3 10 "ColdCreamery" "cellar" "LColdCreamery$Cellar;" ∈ wsX3_foresee := by decide +kernel
theorem fX3_foresee_16 : Cond.fieldLink RX3 16 "ColdCreamery" "foreseen" "LColdCreamery$Cellar;" ∈ wsX3_foresee := by decide +kernel
theorem fX3_lasts_10 : Cond.fieldLink RX3 10 "ColdCreamery" "cellar" "LColdCreamery$Cellar;" ∈ wsX3_lasts := by decide +kernel
theorem fX3_next_10 : Cond.fieldLink RX3 10 "ColdCreamery" "cellar" "LColdCreamery$Cellar;" ∈ wsX3_next := by decide +kernel
theorem fX3_pack_10 : Cond.fieldLink RX3 10 "ColdCreamery" "cellar" "LColdCreamery$Cellar;" ∈ wsX3_pack := by decide +kernel
theorem fX3_pass_10 : Cond.fieldLink RX3 10 "ColdCreamery" "cellar" "LColdCreamery$Cellar;" ∈ wsX3_pass := by decide +kernel
theorem fX3_pour_10 : Cond.fieldLink RX3 10 "ColdCreamery" "cellar" "LColdCreamery$Cellar;" ∈ wsX3_pour := by decide +kernel
theorem fX3_setHeat_10 : Cond.fieldLink RX3 10 "ColdCreamery" "cellar" "LColdCreamery$Cellar;" ∈ wsX3_setHeat := by decide +kernel
theorem fX3_tub_10 : Cond.fieldLink RX3 10 "ColdCreamery" "cellar" "LColdCreamery$Cellar;" ∈ wsX3_tub := by decide +kernel
theorem iX0_copyFrom_X0 : ∀ w ∈ u_ws RX0 TX0 9, w ∈ wsX0_copyFrom := by decide +kernel
theorem iX3_bring_X0 : ∀ w ∈ u_ws RX0 TX0 9, w ∈ wsX3_bring := by decide +kernel
theorem iX3_bring_X3 : ∀ w ∈ u_ws RX3 TX3 2, w ∈ wsX3_bring := by decide +kernel
theorem iX3_churn_X0 : ∀ w ∈ u_ws RX0 TX0 9, w ∈ wsX3_churn := by decide +kernel
theorem iX3_churn_X3 : ∀ w ∈ u_ws RX3 TX3 2, w ∈ wsX3_churn := by decide +kernel
theorem iX3_count_X3 : ∀ w ∈ u_ws RX3 TX3 2, w ∈ wsX3_count := by decide +kernel
theorem iX3_digest_X0 : ∀ w ∈ u_ws RX0 TX0 9, w ∈ wsX3_digest := by decide +kernel
theorem iX3_digest_X3 : ∀ w ∈ u_ws RX3 TX3 2, w ∈ wsX3_digest := by decide +kernel
theorem iX3_done_X3 : ∀ w ∈ u_ws RX3 TX3 2, w ∈ wsX3_done := by decide +kernel
theorem iX3_existingChurn_X0 : ∀ w ∈ u_ws RX0 TX0 9, w ∈ wsX3_existingChurn := by decide +kernel
theorem iX3_existingChurn_X3 : ∀ w ∈ u_ws RX3 TX3 2, w ∈ wsX3_existingChurn := by decide +kernel
theorem iX3_existingTub_X0 : ∀ w ∈ u_ws RX0 TX0 9, w ∈ wsX3_existingTub := by decide +kernel
theorem iX3_existingTub_X3 : ∀ w ∈ u_ws RX3 TX3 2, w ∈ wsX3_existingTub := by decide +kernel
theorem iX3_foresee_X3 : ∀ w ∈ u_ws RX3 TX3 2, w ∈ wsX3_foresee := by decide +kernel
theorem iX3_lasts_X3 : ∀ w ∈ u_ws RX3 TX3 2, w ∈ wsX3_lasts := by decide +kernel
theorem iX3_next_X3 : ∀ w ∈ u_ws RX3 TX3 2, w ∈ wsX3_next := by decide +kernel
theorem iX3_pack_X0 : ∀ w ∈ u_ws RX0 TX0 9, w ∈ wsX3_pack := by decide +kernel
theorem iX3_pack_X1 : ∀ w ∈ u_ws RX1 TX1 3, w ∈ wsX3_pack := by decide +kernel
theorem iX3_pack_X3 : ∀ w ∈ u_ws RX3 TX3 2, w ∈ wsX3_pack := by decide +kernel
theorem iX3_pass_X0 : ∀ w ∈ u_ws RX0 TX0 9, w ∈ wsX3_pass := by decide +kernel
theorem iX3_pass_X3 : ∀ w ∈ u_ws RX3 TX3 2, w ∈ wsX3_pass := by decide +kernel
theorem iX3_pour_X0 : ∀ w ∈ u_ws RX0 TX0 9, w ∈ wsX3_pour := by decide +kernel
theorem iX3_pour_X1 : ∀ w ∈ u_ws RX1 TX1 3, w ∈ wsX3_pour := by decide +kernel
theorem iX3_pour_X3 : ∀ w ∈ u_ws RX3 TX3 2, w ∈ wsX3_pour := by decide +kernel
theorem iX3_scoop_X1 : ∀ w ∈ u_ws RX1 TX1 3, w ∈ wsX3_scoop := by decide +kernel
theorem iX3_scoop_X2 : ∀ w ∈ u_ws RX2 TX2 3, w ∈ wsX3_scoop := by decide +kernel
theorem iX3_setHeat_X0 : ∀ w ∈ u_ws RX0 TX0 9, w ∈ wsX3_setHeat := by decide +kernel
theorem iX3_setHeat_X3 : ∀ w ∈ u_ws RX3 TX3 2, w ∈ wsX3_setHeat := by decide +kernel
theorem iX3_tub_X0 : ∀ w ∈ u_ws RX0 TX0 9, w ∈ wsX3_tub := by decide +kernel
theorem iX3_tub_X3 : ∀ w ∈ u_ws RX3 TX3 2, w ∈ wsX3_tub := by decide +kernel
theorem kX3_digest_162 : Cond.constantLong RX3 162 (1103) ∈ wsX3_digest := by decide +kernel
theorem mcX3_bring_min : Cond.code Lib.Math.min.name Lib.Math.min.code 2 (some .int) ∈ wsX3_bring := by decide +kernel
theorem miX3_bring : Cond.initialized "java/lang/Math" ∈ wsX3_bring := by decide +kernel
theorem mlX0_copyFrom_128 : Cond.methodLink RX0 128 arraycopyName ∈ wsX0_copyFrom := by decide +kernel
theorem mlX3_bring_38 : Cond.methodLink RX3 38 Lib.Math.min.name ∈ wsX3_bring := by decide +kernel
theorem mnX0_copyFrom : Cond.native arraycopyName ∈ wsX0_copyFrom := by decide +kernel
theorem msX3_bring_min : Cond.static Lib.Math.min.name ∈ wsX3_bring := by decide +kernel
theorem mtX0_copyFrom : Cond.static arraycopyName ∈ wsX0_copyFrom := by decide +kernel
theorem myX0_copyFrom : Cond.initialized "java/lang/System" ∈ wsX0_copyFrom := by decide +kernel
theorem pX0_copyFrom : yX0_copyFrom.cls = RX0 ∧ yX0_copyFrom.cls ≠ "java/lang/invoke/MethodHandle" ∧ yX0_copyFrom.cls ≠ "java/lang/invoke/VarHandle" ∧ (parseMethodDescriptor yX0_copyFrom.desc).map (fun d => d.parameters.length) = some 1 := by decide +kernel
theorem pX0_hoursUntilFirm : yX0_hoursUntilFirm.cls = RX0 ∧ yX0_hoursUntilFirm.cls ≠ "java/lang/invoke/MethodHandle" ∧ yX0_hoursUntilFirm.cls ≠ "java/lang/invoke/VarHandle" ∧ (parseMethodDescriptor yX0_hoursUntilFirm.desc).map (fun d => d.parameters.length) = some 1 := by decide +kernel
theorem pX0_hoursUntilNoIce : yX0_hoursUntilNoIce.cls = RX0 ∧ yX0_hoursUntilNoIce.cls ≠ "java/lang/invoke/MethodHandle" ∧ yX0_hoursUntilNoIce.cls ≠ "java/lang/invoke/VarHandle" ∧ (parseMethodDescriptor yX0_hoursUntilNoIce.desc).map (fun d => d.parameters.length) = some 0 := by decide +kernel
theorem pX0_number : yX0_number.cls = RX0 ∧ yX0_number.cls ≠ "java/lang/invoke/MethodHandle" ∧ yX0_number.cls ≠ "java/lang/invoke/VarHandle" ∧ (parseMethodDescriptor yX0_number.desc).map (fun d => d.parameters.length) = some 1 := by decide +kernel
theorem pX0_runHours : yX0_runHours.cls = RX0 ∧ yX0_runHours.cls ≠ "java/lang/invoke/MethodHandle" ∧ yX0_runHours.cls ≠ "java/lang/invoke/VarHandle" ∧ (parseMethodDescriptor yX0_runHours.desc).map (fun d => d.parameters.length) = some 1 := by decide +kernel
theorem pX1_add : yX1_add.cls = RX1 ∧ yX1_add.cls ≠ "java/lang/invoke/MethodHandle" ∧ yX1_add.cls ≠ "java/lang/invoke/VarHandle" ∧ (parseMethodDescriptor yX1_add.desc).map (fun d => d.parameters.length) = some 1 := by decide +kernel
theorem pX1_copyFrom : yX1_copyFrom.cls = RX1 ∧ yX1_copyFrom.cls ≠ "java/lang/invoke/MethodHandle" ∧ yX1_copyFrom.cls ≠ "java/lang/invoke/VarHandle" ∧ (parseMethodDescriptor yX1_copyFrom.desc).map (fun d => d.parameters.length) = some 1 := by decide +kernel
theorem pX1_number : yX1_number.cls = RX1 ∧ yX1_number.cls ≠ "java/lang/invoke/MethodHandle" ∧ yX1_number.cls ≠ "java/lang/invoke/VarHandle" ∧ (parseMethodDescriptor yX1_number.desc).map (fun d => d.parameters.length) = some 1 := by decide +kernel
theorem pX2_copyFrom : yX2_copyFrom.cls = RX2 ∧ yX2_copyFrom.cls ≠ "java/lang/invoke/MethodHandle" ∧ yX2_copyFrom.cls ≠ "java/lang/invoke/VarHandle" ∧ (parseMethodDescriptor yX2_copyFrom.desc).map (fun d => d.parameters.length) = some 1 := by decide +kernel
theorem pX2_number : yX2_number.cls = RX2 ∧ yX2_number.cls ≠ "java/lang/invoke/MethodHandle" ∧ yX2_number.cls ≠ "java/lang/invoke/VarHandle" ∧ (parseMethodDescriptor yX2_number.desc).map (fun d => d.parameters.length) = some 1 := by decide +kernel
theorem pX2_take : yX2_take.cls = RX2 ∧ yX2_take.cls ≠ "java/lang/invoke/MethodHandle" ∧ yX2_take.cls ≠ "java/lang/invoke/VarHandle" ∧ (parseMethodDescriptor yX2_take.desc).map (fun d => d.parameters.length) = some 2 := by decide +kernel
theorem pX3_checkHours : yX3_checkHours.cls ≠ "java/lang/invoke/MethodHandle" ∧ yX3_checkHours.cls ≠ "java/lang/invoke/VarHandle" ∧ (parseMethodDescriptor yX3_checkHours.desc).map (fun d => d.parameters.length) = some 1 := by decide +kernel
theorem pX3_checkPacked : yX3_checkPacked.cls ≠ "java/lang/invoke/MethodHandle" ∧ yX3_checkPacked.cls ≠ "java/lang/invoke/VarHandle" ∧ (parseMethodDescriptor yX3_checkPacked.desc).map (fun d => d.parameters.length) = some 1 := by decide +kernel
theorem pX3_coldWithBrine : yX3_coldWithBrine.cls ≠ "java/lang/invoke/MethodHandle" ∧ yX3_coldWithBrine.cls ≠ "java/lang/invoke/VarHandle" ∧ (parseMethodDescriptor yX3_coldWithBrine.desc).map (fun d => d.parameters.length) = some 3 := by decide +kernel
theorem pX3_existingChurn : yX3_existingChurn.cls = RX3 ∧ yX3_existingChurn.cls ≠ "java/lang/invoke/MethodHandle" ∧ yX3_existingChurn.cls ≠ "java/lang/invoke/VarHandle" ∧ (parseMethodDescriptor yX3_existingChurn.desc).map (fun d => d.parameters.length) = some 1 := by decide +kernel
theorem pX3_existingTub : yX3_existingTub.cls = RX3 ∧ yX3_existingTub.cls ≠ "java/lang/invoke/MethodHandle" ∧ yX3_existingTub.cls ≠ "java/lang/invoke/VarHandle" ∧ (parseMethodDescriptor yX3_existingTub.desc).map (fun d => d.parameters.length) = some 1 := by decide +kernel
theorem pX3_mixed : yX3_mixed.cls ≠ "java/lang/invoke/MethodHandle" ∧ yX3_mixed.cls ≠ "java/lang/invoke/VarHandle" ∧ (parseMethodDescriptor yX3_mixed.desc).map (fun d => d.parameters.length) = some 2 := by decide +kernel
theorem tgX3_about_19 : ∀ w ∈ (vx_atS RX3 23 IOOBE XN).filter goodWord, w ∈ wsX3_about := by decide +kernel
theorem tgX3_bring_19 : ∀ w ∈ (vx_atS RX3 23 IOOBE XN).filter goodWord, w ∈ wsX3_bring := by decide +kernel
theorem tgX3_bring_26 : ∀ w ∈ (vx_atS RX3 30 IAE XN).filter goodWord, w ∈ wsX3_bring := by decide +kernel
theorem tgX3_checkHours_26 : ∀ w ∈ (vx_atS RX3 30 IAE XN).filter goodWord, w ∈ wsX3_checkHours := by decide +kernel
theorem tgX3_checkPacked_26 : ∀ w ∈ (vx_atS RX3 30 IAE XN).filter goodWord, w ∈ wsX3_checkPacked := by decide +kernel
theorem tgX3_churn_55 : ∀ w ∈ (vx_atS RX3 59 ISE XN).filter goodWord, w ∈ wsX3_churn := by decide +kernel
theorem tgX3_count_19 : ∀ w ∈ (vx_atS RX3 23 IOOBE XN).filter goodWord, w ∈ wsX3_count := by decide +kernel
theorem tgX3_existingChurn_19 : ∀ w ∈ (vx_atS RX3 23 IOOBE XN).filter goodWord, w ∈ wsX3_existingChurn := by decide +kernel
theorem tgX3_existingTub_19 : ∀ w ∈ (vx_atS RX3 23 IOOBE XN).filter goodWord, w ∈ wsX3_existingTub := by decide +kernel
theorem tgX3_foresee_19 : ∀ w ∈ (vx_atS RX3 23 IOOBE XN).filter goodWord, w ∈ wsX3_foresee := by decide +kernel
theorem tgX3_pack_55 : ∀ w ∈ (vx_atS RX3 59 ISE XN).filter goodWord, w ∈ wsX3_pack := by decide +kernel
theorem tgX3_pour_26 : ∀ w ∈ (vx_atS RX3 30 IAE XN).filter goodWord, w ∈ wsX3_pour := by decide +kernel
theorem tgX3_pour_55 : ∀ w ∈ (vx_atS RX3 59 ISE XN).filter goodWord, w ∈ wsX3_pour := by decide +kernel
theorem tgX3_scoop_55 : ∀ w ∈ (vx_atS RX3 59 ISE XN).filter goodWord, w ∈ wsX3_scoop := by decide +kernel
theorem tgX3_setHeat_19 : ∀ w ∈ (vx_atS RX3 23 IOOBE XN).filter goodWord, w ∈ wsX3_setHeat := by decide +kernel
theorem tgX3_setHeat_26 : ∀ w ∈ (vx_atS RX3 30 IAE XN).filter goodWord, w ∈ wsX3_setHeat := by decide +kernel
theorem tgX3_told_19 : ∀ w ∈ (vx_atS RX3 23 IOOBE XN).filter goodWord, w ∈ wsX3_told := by decide +kernel
theorem tgX3_tub_55 : ∀ w ∈ (vx_atS RX3 59 ISE XN).filter goodWord, w ∈ wsX3_tub := by decide +kernel
theorem tiX3_about_19 : Cond.initialized IOOBE ∈ wsX3_about := by decide +kernel
theorem tiX3_bring_19 : Cond.initialized IOOBE ∈ wsX3_bring := by decide +kernel
theorem tiX3_bring_26 : Cond.initialized IAE ∈ wsX3_bring := by decide +kernel
theorem tiX3_checkHours_26 : Cond.initialized IAE ∈ wsX3_checkHours := by decide +kernel
theorem tiX3_checkPacked_26 : Cond.initialized IAE ∈ wsX3_checkPacked := by decide +kernel
theorem tiX3_churn_55 : Cond.initialized ISE ∈ wsX3_churn := by decide +kernel
theorem tiX3_count_19 : Cond.initialized IOOBE ∈ wsX3_count := by decide +kernel
theorem tiX3_existingChurn_19 : Cond.initialized IOOBE ∈ wsX3_existingChurn := by decide +kernel
theorem tiX3_existingTub_19 : Cond.initialized IOOBE ∈ wsX3_existingTub := by decide +kernel
theorem tiX3_foresee_19 : Cond.initialized IOOBE ∈ wsX3_foresee := by decide +kernel
theorem tiX3_pack_55 : Cond.initialized ISE ∈ wsX3_pack := by decide +kernel
theorem tiX3_pour_26 : Cond.initialized IAE ∈ wsX3_pour := by decide +kernel
theorem tiX3_pour_55 : Cond.initialized ISE ∈ wsX3_pour := by decide +kernel
theorem tiX3_scoop_55 : Cond.initialized ISE ∈ wsX3_scoop := by decide +kernel
theorem tiX3_setHeat_19 : Cond.initialized IOOBE ∈ wsX3_setHeat := by decide +kernel
theorem tiX3_setHeat_26 : Cond.initialized IAE ∈ wsX3_setHeat := by decide +kernel
theorem tiX3_told_19 : Cond.initialized IOOBE ∈ wsX3_told := by decide +kernel
theorem tiX3_tub_55 : Cond.initialized ISE ∈ wsX3_tub := by decide +kernel
theorem tkX3_about_19 : Cond.classLink RX3 19 IOOBE ∈ wsX3_about := by decide +kernel
theorem tkX3_bring_19 : Cond.classLink RX3 19 IOOBE ∈ wsX3_bring := by decide +kernel
theorem tkX3_bring_26 : Cond.classLink RX3 26 IAE ∈ wsX3_bring := by decide +kernel
theorem tkX3_checkHours_26 : Cond.classLink RX3 26 IAE ∈ wsX3_checkHours := by decide +kernel
theorem tkX3_checkPacked_26 : Cond.classLink RX3 26 IAE ∈ wsX3_checkPacked := by decide +kernel
theorem tkX3_churn_55 : Cond.classLink RX3 55 ISE ∈ wsX3_churn := by decide +kernel
theorem tkX3_count_19 : Cond.classLink RX3 19 IOOBE ∈ wsX3_count := by decide +kernel
theorem tkX3_existingChurn_19 : Cond.classLink RX3 19 IOOBE ∈ wsX3_existingChurn := by decide +kernel
theorem tkX3_existingTub_19 : Cond.classLink RX3 19 IOOBE ∈ wsX3_existingTub := by decide +kernel
theorem tkX3_foresee_19 : Cond.classLink RX3 19 IOOBE ∈ wsX3_foresee := by decide +kernel
theorem tkX3_pack_55 : Cond.classLink RX3 55 ISE ∈ wsX3_pack := by decide +kernel
theorem tkX3_pour_26 : Cond.classLink RX3 26 IAE ∈ wsX3_pour := by decide +kernel
theorem tkX3_pour_55 : Cond.classLink RX3 55 ISE ∈ wsX3_pour := by decide +kernel
theorem tkX3_scoop_55 : Cond.classLink RX3 55 ISE ∈ wsX3_scoop := by decide +kernel
theorem tkX3_setHeat_19 : Cond.classLink RX3 19 IOOBE ∈ wsX3_setHeat := by decide +kernel
theorem tkX3_setHeat_26 : Cond.classLink RX3 26 IAE ∈ wsX3_setHeat := by decide +kernel
theorem tkX3_told_19 : Cond.classLink RX3 19 IOOBE ∈ wsX3_told := by decide +kernel
theorem tkX3_tub_55 : Cond.classLink RX3 55 ISE ∈ wsX3_tub := by decide +kernel
