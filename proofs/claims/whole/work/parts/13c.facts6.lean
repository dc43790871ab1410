theorem acX4_counted_int : Cond.arrayClass .int ∈ wsX4_counted := by decide +kernel
theorem fX4_bringBack_13 : Cond.fieldLink RX4 13 "ColdCreameryModel" "kept" "[I" ∈ wsX4_bringBack := by decide +kernel
theorem fX4_bringBack_9 : Cond.fieldLink RX4 9 "ColdCreameryModel" "s" "[I" ∈ wsX4_bringBack := by decide +kernel
theorem fX4_ch_9 : Cond.fieldLink RX4 9 "ColdCreameryModel" "s" "[I" ∈ wsX4_ch := by decide +kernel
theorem fX4_counted_9 : Cond.fieldLink RX4 9 "ColdCreameryModel" "s" "[I" ∈ wsX4_counted := by decide +kernel
theorem fX4_heatNow_16 : Cond.fieldLink RX4 16 "ColdCreameryModel" "heat" "[I" ∈ wsX4_heatNow := by decide +kernel
theorem fX4_heatNow_9 : Cond.fieldLink RX4 9 "ColdCreameryModel" "s" "[I" ∈ wsX4_heatNow := by decide +kernel
theorem fX4_hourOn_23 : Cond.fieldLink RX4 23 "ColdCreameryModel" "churns" "I" ∈ wsX4_hourOn := by decide +kernel
theorem fX4_hourOn_30 : Cond.fieldLink RX4 30 "ColdCreameryModel" "tubs" "I" ∈ wsX4_hourOn := by decide +kernel
theorem fX4_hourOn_9 : Cond.fieldLink RX4 9 "ColdCreameryModel" "s" "[I" ∈ wsX4_hourOn := by decide +kernel
theorem fX4_isChurn_23 : Cond.fieldLink RX4 23 "ColdCreameryModel" "churns" "I" ∈ wsX4_isChurn := by decide +kernel
theorem fX4_isTub_30 : Cond.fieldLink RX4 30 "ColdCreameryModel" "tubs" "I" ∈ wsX4_isTub := by decide +kernel
theorem fX4_keep_13 : Cond.fieldLink RX4 13 "ColdCreameryModel" "kept" "[I" ∈ wsX4_keep := by decide +kernel
theorem fX4_keep_9 : Cond.fieldLink RX4 9 "ColdCreameryModel" "s" "[I" ∈ wsX4_keep := by decide +kernel
theorem fX4_nextTub_30 : Cond.fieldLink RX4 30 "ColdCreameryModel" "tubs" "I" ∈ wsX4_nextTub := by decide +kernel
theorem fX4_no_19 : Cond.fieldLink RX4 19 "ColdCreameryModel" "thrown" "I" ∈ wsX4_no := by decide +kernel
theorem fX4_sell_9 : Cond.fieldLink RX4 9 "ColdCreameryModel" "s" "[I" ∈ wsX4_sell := by decide +kernel
theorem fX4_setChurn_9 : Cond.fieldLink RX4 9 "ColdCreameryModel" "s" "[I" ∈ wsX4_setChurn := by decide +kernel
theorem fX4_setTub_9 : Cond.fieldLink RX4 9 "ColdCreameryModel" "s" "[I" ∈ wsX4_setTub := by decide +kernel
theorem fX4_soften_9 : Cond.fieldLink RX4 9 "ColdCreameryModel" "s" "[I" ∈ wsX4_soften := by decide +kernel
theorem fX4_sum_30 : Cond.fieldLink RX4 30 "ColdCreameryModel" "tubs" "I" ∈ wsX4_sum := by decide +kernel
theorem fX4_thrown_19 : Cond.fieldLink RX4 19 "ColdCreameryModel" "thrown" "I" ∈ wsX4_thrown := by decide +kernel
theorem fX4_tu_9 : Cond.fieldLink RX4 9 "ColdCreameryModel" "s" "[I" ∈ wsX4_tu := by decide +kernel
theorem iX4_bringBack_X4 : ∀ w ∈ u_ws RX4 TX4 6, w ∈ wsX4_bringBack := by decide +kernel
theorem iX4_ch_X4 : ∀ w ∈ u_ws RX4 TX4 6, w ∈ wsX4_ch := by decide +kernel
theorem iX4_counted_X4 : ∀ w ∈ u_ws RX4 TX4 6, w ∈ wsX4_counted := by decide +kernel
theorem iX4_heatNow_X4 : ∀ w ∈ u_ws RX4 TX4 6, w ∈ wsX4_heatNow := by decide +kernel
theorem iX4_hourOn_X4 : ∀ w ∈ u_ws RX4 TX4 6, w ∈ wsX4_hourOn := by decide +kernel
theorem iX4_isChurn_X4 : ∀ w ∈ u_ws RX4 TX4 6, w ∈ wsX4_isChurn := by decide +kernel
theorem iX4_isTub_X4 : ∀ w ∈ u_ws RX4 TX4 6, w ∈ wsX4_isTub := by decide +kernel
theorem iX4_keep_X4 : ∀ w ∈ u_ws RX4 TX4 6, w ∈ wsX4_keep := by decide +kernel
theorem iX4_nextTub_X4 : ∀ w ∈ u_ws RX4 TX4 6, w ∈ wsX4_nextTub := by decide +kernel
theorem iX4_no_X4 : ∀ w ∈ u_ws RX4 TX4 6, w ∈ wsX4_no := by decide +kernel
theorem iX4_sell_X4 : ∀ w ∈ u_ws RX4 TX4 6, w ∈ wsX4_sell := by decide +kernel
theorem iX4_setChurn_X4 : ∀ w ∈ u_ws RX4 TX4 6, w ∈ wsX4_setChurn := by decide +kernel
theorem iX4_setTub_X4 : ∀ w ∈ u_ws RX4 TX4 6, w ∈ wsX4_setTub := by decide +kernel
theorem iX4_soften_X4 : ∀ w ∈ u_ws RX4 TX4 6, w ∈ wsX4_soften := by decide +kernel
theorem iX4_sum_X4 : ∀ w ∈ u_ws RX4 TX4 6, w ∈ wsX4_sum := by decide +kernel
theorem iX4_thrown_X4 : ∀ w ∈ u_ws RX4 TX4 6, w ∈ wsX4_thrown := by decide +kernel
theorem iX4_tu_X4 : ∀ w ∈ u_ws RX4 TX4 6, w ∈ wsX4_tu := by decide +kernel
theorem mcX4_firmUp_max : Cond.code Lib.Math.max.name Lib.Math.max.code 2 (some .int) ∈ wsX4_firmUp := by decide +kernel
theorem mcX4_firmUp_min : Cond.code Lib.Math.min.name Lib.Math.min.code 2 (some .int) ∈ wsX4_firmUp := by decide +kernel
theorem mcX4_hourOn_max : Cond.code Lib.Math.max.name Lib.Math.max.code 2 (some .int) ∈ wsX4_hourOn := by decide +kernel
theorem mcX4_packed_min : Cond.code Lib.Math.min.name Lib.Math.min.code 2 (some .int) ∈ wsX4_packed := by decide +kernel
theorem mcX4_soften_max : Cond.code Lib.Math.max.name Lib.Math.max.code 2 (some .int) ∈ wsX4_soften := by decide +kernel
theorem mcX4_soften_min : Cond.code Lib.Math.min.name Lib.Math.min.code 2 (some .int) ∈ wsX4_soften := by decide +kernel
theorem miX4_firmUp : Cond.initialized "java/lang/Math" ∈ wsX4_firmUp := by decide +kernel
theorem miX4_hourOn : Cond.initialized "java/lang/Math" ∈ wsX4_hourOn := by decide +kernel
theorem miX4_packed : Cond.initialized "java/lang/Math" ∈ wsX4_packed := by decide +kernel
theorem miX4_soften : Cond.initialized "java/lang/Math" ∈ wsX4_soften := by decide +kernel
theorem mlX4_bringBack_99 : Cond.methodLink RX4 99 arraycopyName ∈ wsX4_bringBack := by decide +kernel
theorem mlX4_firmUp_40 : Cond.methodLink RX4 40 Lib.Math.min.name ∈ wsX4_firmUp := by decide +kernel
theorem mlX4_firmUp_70 : Cond.methodLink RX4 70 Lib.Math.max.name ∈ wsX4_firmUp := by decide +kernel
theorem mlX4_hourOn_70 : Cond.methodLink RX4 70 Lib.Math.max.name ∈ wsX4_hourOn := by decide +kernel
theorem mlX4_keep_99 : Cond.methodLink RX4 99 arraycopyName ∈ wsX4_keep := by decide +kernel
theorem mlX4_packed_40 : Cond.methodLink RX4 40 Lib.Math.min.name ∈ wsX4_packed := by decide +kernel
theorem mlX4_soften_40 : Cond.methodLink RX4 40 Lib.Math.min.name ∈ wsX4_soften := by decide +kernel
theorem mlX4_soften_70 : Cond.methodLink RX4 70 Lib.Math.max.name ∈ wsX4_soften := by decide +kernel
theorem mnX4_bringBack : Cond.native arraycopyName ∈ wsX4_bringBack := by decide +kernel
theorem mnX4_keep : Cond.native arraycopyName ∈ wsX4_keep := by decide +kernel
theorem msX4_firmUp_max : Cond.static Lib.Math.max.name ∈ wsX4_firmUp := by decide +kernel
theorem msX4_firmUp_min : Cond.static Lib.Math.min.name ∈ wsX4_firmUp := by decide +kernel
theorem msX4_hourOn_max : Cond.static Lib.Math.max.name ∈ wsX4_hourOn := by decide +kernel
theorem msX4_packed_min : Cond.static Lib.Math.min.name ∈ wsX4_packed := by decide +kernel
theorem msX4_soften_max : Cond.static Lib.Math.max.name ∈ wsX4_soften := by decide +kernel
theorem msX4_soften_min : Cond.static Lib.Math.min.name ∈ wsX4_soften := by decide +kernel
theorem mtX4_bringBack : Cond.static arraycopyName ∈ wsX4_bringBack := by decide +kernel
theorem mtX4_keep : Cond.static arraycopyName ∈ wsX4_keep := by decide +kernel
theorem myX4_bringBack : Cond.initialized "java/lang/System" ∈ wsX4_bringBack := by decide +kernel
theorem myX4_keep : Cond.initialized "java/lang/System" ∈ wsX4_keep := by decide +kernel
theorem pX4_ch : yX4_ch.cls = RX4 ∧ yX4_ch.cls ≠ "java/lang/invoke/MethodHandle" ∧ yX4_ch.cls ≠ "java/lang/invoke/VarHandle" ∧ (parseMethodDescriptor yX4_ch.desc).map (fun d => d.parameters.length) = some 2 := by decide +kernel
theorem pX4_firmUp : yX4_firmUp.cls = RX4 ∧ yX4_firmUp.cls ≠ "java/lang/invoke/MethodHandle" ∧ yX4_firmUp.cls ≠ "java/lang/invoke/VarHandle" ∧ (parseMethodDescriptor yX4_firmUp.desc).map (fun d => d.parameters.length) = some 2 := by decide +kernel
theorem pX4_heatNow : yX4_heatNow.cls = RX4 ∧ yX4_heatNow.cls ≠ "java/lang/invoke/MethodHandle" ∧ yX4_heatNow.cls ≠ "java/lang/invoke/VarHandle" ∧ (parseMethodDescriptor yX4_heatNow.desc).map (fun d => d.parameters.length) = some 0 := by decide +kernel
theorem pX4_isIn : yX4_isIn.cls ≠ "java/lang/invoke/MethodHandle" ∧ yX4_isIn.cls ≠ "java/lang/invoke/VarHandle" ∧ (parseMethodDescriptor yX4_isIn.desc).map (fun d => d.parameters.length) = some 3 := by decide +kernel
theorem pX4_nextTub : yX4_nextTub.cls = RX4 ∧ yX4_nextTub.cls ≠ "java/lang/invoke/MethodHandle" ∧ yX4_nextTub.cls ≠ "java/lang/invoke/VarHandle" ∧ (parseMethodDescriptor yX4_nextTub.desc).map (fun d => d.parameters.length) = some 0 := by decide +kernel
theorem pX4_sell : yX4_sell.cls = RX4 ∧ yX4_sell.cls ≠ "java/lang/invoke/MethodHandle" ∧ yX4_sell.cls ≠ "java/lang/invoke/VarHandle" ∧ (parseMethodDescriptor yX4_sell.desc).map (fun d => d.parameters.length) = some 0 := by decide +kernel
theorem pX4_setChurn : yX4_setChurn.cls = RX4 ∧ yX4_setChurn.cls ≠ "java/lang/invoke/MethodHandle" ∧ yX4_setChurn.cls ≠ "java/lang/invoke/VarHandle" ∧ (parseMethodDescriptor yX4_setChurn.desc).map (fun d => d.parameters.length) = some 3 := by decide +kernel
theorem pX4_setTub : yX4_setTub.cls = RX4 ∧ yX4_setTub.cls ≠ "java/lang/invoke/MethodHandle" ∧ yX4_setTub.cls ≠ "java/lang/invoke/VarHandle" ∧ (parseMethodDescriptor yX4_setTub.desc).map (fun d => d.parameters.length) = some 3 := by decide +kernel
theorem pX4_soften : yX4_soften.cls = RX4 ∧ yX4_soften.cls ≠ "java/lang/invoke/MethodHandle" ∧ yX4_soften.cls ≠ "java/lang/invoke/VarHandle" ∧ (parseMethodDescriptor yX4_soften.desc).map (fun d => d.parameters.length) = some 2 := by decide +kernel
theorem pX4_sum : yX4_sum.cls = RX4 ∧ yX4_sum.cls ≠ "java/lang/invoke/MethodHandle" ∧ yX4_sum.cls ≠ "java/lang/invoke/VarHandle" ∧ (parseMethodDescriptor yX4_sum.desc).map (fun d => d.parameters.length) = some 1 := by decide +kernel
theorem pX4_tu : yX4_tu.cls = RX4 ∧ yX4_tu.cls ≠ "java/lang/invoke/MethodHandle" ∧ yX4_tu.cls ≠ "java/lang/invoke/VarHandle" ∧ (parseMethodDescriptor yX4_tu.desc).map (fun d => d.parameters.length) = some 2 := by decide +kernel
