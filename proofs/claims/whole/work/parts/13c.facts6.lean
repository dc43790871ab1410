theorem acX4_counted_int : Cond.arrayClass .int ∈ wsX4_counted := by decide +kernel
theorem acX4_init_int : Cond.arrayClass .int ∈ wsX4_init := by decide +kernel
theorem clX3_init_7 : Cond.classLink RX3 7 RX0 ∈ wsX3_init := by decide +kernel
theorem fX3_init_10 : Cond.fieldLink RX3 10 "ColdCreamery" "cellar" "LColdCreamery$Cellar;" ∈ wsX3_init := by decide +kernel
theorem fX3_init_16 : Cond.fieldLink RX3 16 "ColdCreamery" "foreseen" "LColdCreamery$Cellar;" ∈ wsX3_init := by decide +kernel
theorem fX3_share_10 : Cond.fieldLink RX3 10 "ColdCreamery" "cellar" "LColdCreamery$Cellar;" ∈ wsX3_share := by decide +kernel
theorem fX4_about_19 : Cond.fieldLink RX4 19 "ColdCreameryModel" "thrown" "I" ∈ wsX4_about := by decide +kernel
theorem fX4_bringBack_13 : Cond.fieldLink RX4 13 "ColdCreameryModel" "kept" "[I" ∈ wsX4_bringBack := by decide +kernel
theorem fX4_bringBack_9 : Cond.fieldLink RX4 9 "ColdCreameryModel" "s" "[I" ∈ wsX4_bringBack := by decide +kernel
theorem fX4_bring_19 : Cond.fieldLink RX4 19 "ColdCreameryModel" "thrown" "I" ∈ wsX4_bring := by decide +kernel
theorem fX4_bring_37 : Cond.fieldLink RX4 37 "ColdCreameryModel" "MOST" "[I" ∈ wsX4_bring := by decide +kernel
theorem fX4_bring_9 : Cond.fieldLink RX4 9 "ColdCreameryModel" "s" "[I" ∈ wsX4_bring := by decide +kernel
theorem fX4_ch_9 : Cond.fieldLink RX4 9 "ColdCreameryModel" "s" "[I" ∈ wsX4_ch := by decide +kernel
theorem fX4_churn_19 : Cond.fieldLink RX4 19 "ColdCreameryModel" "thrown" "I" ∈ wsX4_churn := by decide +kernel
theorem fX4_churn_23 : Cond.fieldLink RX4 23 "ColdCreameryModel" "churns" "I" ∈ wsX4_churn := by decide +kernel
theorem fX4_count_19 : Cond.fieldLink RX4 19 "ColdCreameryModel" "thrown" "I" ∈ wsX4_count := by decide +kernel
theorem fX4_counted_9 : Cond.fieldLink RX4 9 "ColdCreameryModel" "s" "[I" ∈ wsX4_counted := by decide +kernel
theorem fX4_digest_16 : Cond.fieldLink RX4 16 "ColdCreameryModel" "heat" "[I" ∈ wsX4_digest := by decide +kernel
theorem fX4_digest_19 : Cond.fieldLink RX4 19 "ColdCreameryModel" "thrown" "I" ∈ wsX4_digest := by decide +kernel
theorem fX4_digest_23 : Cond.fieldLink RX4 23 "ColdCreameryModel" "churns" "I" ∈ wsX4_digest := by decide +kernel
theorem fX4_digest_30 : Cond.fieldLink RX4 30 "ColdCreameryModel" "tubs" "I" ∈ wsX4_digest := by decide +kernel
theorem fX4_digest_9 : Cond.fieldLink RX4 9 "ColdCreameryModel" "s" "[I" ∈ wsX4_digest := by decide +kernel
theorem fX4_done_19 : Cond.fieldLink RX4 19 "ColdCreameryModel" "thrown" "I" ∈ wsX4_done := by decide +kernel
theorem fX4_foresee_19 : Cond.fieldLink RX4 19 "ColdCreameryModel" "thrown" "I" ∈ wsX4_foresee := by decide +kernel
theorem fX4_heatNow_16 : Cond.fieldLink RX4 16 "ColdCreameryModel" "heat" "[I" ∈ wsX4_heatNow := by decide +kernel
theorem fX4_heatNow_9 : Cond.fieldLink RX4 9 "ColdCreameryModel" "s" "[I" ∈ wsX4_heatNow := by decide +kernel
theorem fX4_hourOn_23 : Cond.fieldLink RX4 23 "ColdCreameryModel" "churns" "I" ∈ wsX4_hourOn := by decide +kernel
theorem fX4_hourOn_30 : Cond.fieldLink RX4 30 "ColdCreameryModel" "tubs" "I" ∈ wsX4_hourOn := by decide +kernel
theorem fX4_hourOn_9 : Cond.fieldLink RX4 9 "ColdCreameryModel" "s" "[I" ∈ wsX4_hourOn := by decide +kernel
theorem fX4_init_13 : Cond.fieldLink RX4 13 "ColdCreameryModel" "kept" "[I" ∈ wsX4_init := by decide +kernel
theorem fX4_init_16 : Cond.fieldLink RX4 16 "ColdCreameryModel" "heat" "[I" ∈ wsX4_init := by decide +kernel
theorem fX4_init_9 : Cond.fieldLink RX4 9 "ColdCreameryModel" "s" "[I" ∈ wsX4_init := by decide +kernel
theorem fX4_isChurn_23 : Cond.fieldLink RX4 23 "ColdCreameryModel" "churns" "I" ∈ wsX4_isChurn := by decide +kernel
theorem fX4_isTub_30 : Cond.fieldLink RX4 30 "ColdCreameryModel" "tubs" "I" ∈ wsX4_isTub := by decide +kernel
theorem fX4_keep_13 : Cond.fieldLink RX4 13 "ColdCreameryModel" "kept" "[I" ∈ wsX4_keep := by decide +kernel
theorem fX4_keep_9 : Cond.fieldLink RX4 9 "ColdCreameryModel" "s" "[I" ∈ wsX4_keep := by decide +kernel
theorem fX4_lasts_16 : Cond.fieldLink RX4 16 "ColdCreameryModel" "heat" "[I" ∈ wsX4_lasts := by decide +kernel
theorem fX4_lasts_19 : Cond.fieldLink RX4 19 "ColdCreameryModel" "thrown" "I" ∈ wsX4_lasts := by decide +kernel
theorem fX4_lasts_9 : Cond.fieldLink RX4 9 "ColdCreameryModel" "s" "[I" ∈ wsX4_lasts := by decide +kernel
theorem fX4_nextTub_30 : Cond.fieldLink RX4 30 "ColdCreameryModel" "tubs" "I" ∈ wsX4_nextTub := by decide +kernel
theorem fX4_next_19 : Cond.fieldLink RX4 19 "ColdCreameryModel" "thrown" "I" ∈ wsX4_next := by decide +kernel
theorem fX4_no_19 : Cond.fieldLink RX4 19 "ColdCreameryModel" "thrown" "I" ∈ wsX4_no := by decide +kernel
theorem fX4_pack_19 : Cond.fieldLink RX4 19 "ColdCreameryModel" "thrown" "I" ∈ wsX4_pack := by decide +kernel
theorem fX4_pack_9 : Cond.fieldLink RX4 9 "ColdCreameryModel" "s" "[I" ∈ wsX4_pack := by decide +kernel
theorem fX4_pass_19 : Cond.fieldLink RX4 19 "ColdCreameryModel" "thrown" "I" ∈ wsX4_pass := by decide +kernel
theorem fX4_pass_9 : Cond.fieldLink RX4 9 "ColdCreameryModel" "s" "[I" ∈ wsX4_pass := by decide +kernel
theorem fX4_pour_19 : Cond.fieldLink RX4 19 "ColdCreameryModel" "thrown" "I" ∈ wsX4_pour := by decide +kernel
theorem fX4_pour_9 : Cond.fieldLink RX4 9 "ColdCreameryModel" "s" "[I" ∈ wsX4_pour := by decide +kernel
theorem fX4_salt_19 : Cond.fieldLink RX4 19 "ColdCreameryModel" "thrown" "I" ∈ wsX4_salt := by decide +kernel
theorem fX4_scoop_19 : Cond.fieldLink RX4 19 "ColdCreameryModel" "thrown" "I" ∈ wsX4_scoop := by decide +kernel
theorem fX4_sell_9 : Cond.fieldLink RX4 9 "ColdCreameryModel" "s" "[I" ∈ wsX4_sell := by decide +kernel
theorem fX4_setChurn_9 : Cond.fieldLink RX4 9 "ColdCreameryModel" "s" "[I" ∈ wsX4_setChurn := by decide +kernel
theorem fX4_setHeat_16 : Cond.fieldLink RX4 16 "ColdCreameryModel" "heat" "[I" ∈ wsX4_setHeat := by decide +kernel
theorem fX4_setHeat_19 : Cond.fieldLink RX4 19 "ColdCreameryModel" "thrown" "I" ∈ wsX4_setHeat := by decide +kernel
theorem fX4_setTub_9 : Cond.fieldLink RX4 9 "ColdCreameryModel" "s" "[I" ∈ wsX4_setTub := by decide +kernel
theorem fX4_share_19 : Cond.fieldLink RX4 19 "ColdCreameryModel" "thrown" "I" ∈ wsX4_share := by decide +kernel
theorem fX4_share_9 : Cond.fieldLink RX4 9 "ColdCreameryModel" "s" "[I" ∈ wsX4_share := by decide +kernel
theorem fX4_soften_9 : Cond.fieldLink RX4 9 "ColdCreameryModel" "s" "[I" ∈ wsX4_soften := by decide +kernel
theorem fX4_sum_30 : Cond.fieldLink RX4 30 "ColdCreameryModel" "tubs" "I" ∈ wsX4_sum := by decide +kernel
theorem fX4_thrown_19 : Cond.fieldLink RX4 19 "ColdCreameryModel" "thrown" "I" ∈ wsX4_thrown := by decide +kernel
theorem fX4_told_19 : Cond.fieldLink RX4 19 "ColdCreameryModel" "thrown" "I" ∈ wsX4_told := by decide +kernel
theorem fX4_tu_9 : Cond.fieldLink RX4 9 "ColdCreameryModel" "s" "[I" ∈ wsX4_tu := by decide +kernel
theorem fX4_tub_19 : Cond.fieldLink RX4 19 "ColdCreameryModel" "thrown" "I" ∈ wsX4_tub := by decide +kernel
theorem fX4_tub_30 : Cond.fieldLink RX4 30 "ColdCreameryModel" "tubs" "I" ∈ wsX4_tub := by decide +kernel
theorem iX3_init_X0 : ∀ w ∈ u_ws RX0 TX0 9, w ∈ wsX3_init := by decide +kernel
theorem iX3_init_X3 : ∀ w ∈ u_ws RX3 TX3 2, w ∈ wsX3_init := by decide +kernel
theorem iX3_share_X0 : ∀ w ∈ u_ws RX0 TX0 9, w ∈ wsX3_share := by decide +kernel
theorem iX3_share_X3 : ∀ w ∈ u_ws RX3 TX3 2, w ∈ wsX3_share := by decide +kernel
theorem iX4_about_X4 : ∀ w ∈ u_ws RX4 TX4 6, w ∈ wsX4_about := by decide +kernel
theorem iX4_bringBack_X4 : ∀ w ∈ u_ws RX4 TX4 6, w ∈ wsX4_bringBack := by decide +kernel
theorem iX4_bring_X4 : ∀ w ∈ u_ws RX4 TX4 6, w ∈ wsX4_bring := by decide +kernel
theorem iX4_ch_X4 : ∀ w ∈ u_ws RX4 TX4 6, w ∈ wsX4_ch := by decide +kernel
theorem iX4_churn_X4 : ∀ w ∈ u_ws RX4 TX4 6, w ∈ wsX4_churn := by decide +kernel
theorem iX4_count_X4 : ∀ w ∈ u_ws RX4 TX4 6, w ∈ wsX4_count := by decide +kernel
theorem iX4_counted_X4 : ∀ w ∈ u_ws RX4 TX4 6, w ∈ wsX4_counted := by decide +kernel
theorem iX4_digest_X4 : ∀ w ∈ u_ws RX4 TX4 6, w ∈ wsX4_digest := by decide +kernel
theorem iX4_done_X4 : ∀ w ∈ u_ws RX4 TX4 6, w ∈ wsX4_done := by decide +kernel
theorem iX4_foresee_X4 : ∀ w ∈ u_ws RX4 TX4 6, w ∈ wsX4_foresee := by decide +kernel
theorem iX4_heatNow_X4 : ∀ w ∈ u_ws RX4 TX4 6, w ∈ wsX4_heatNow := by decide +kernel
theorem iX4_hourOn_X4 : ∀ w ∈ u_ws RX4 TX4 6, w ∈ wsX4_hourOn := by decide +kernel
theorem iX4_init_X4 : ∀ w ∈ u_ws RX4 TX4 6, w ∈ wsX4_init := by decide +kernel
theorem iX4_isChurn_X4 : ∀ w ∈ u_ws RX4 TX4 6, w ∈ wsX4_isChurn := by decide +kernel
theorem iX4_isTub_X4 : ∀ w ∈ u_ws RX4 TX4 6, w ∈ wsX4_isTub := by decide +kernel
theorem iX4_keep_X4 : ∀ w ∈ u_ws RX4 TX4 6, w ∈ wsX4_keep := by decide +kernel
theorem iX4_lasts_X4 : ∀ w ∈ u_ws RX4 TX4 6, w ∈ wsX4_lasts := by decide +kernel
theorem iX4_nextTub_X4 : ∀ w ∈ u_ws RX4 TX4 6, w ∈ wsX4_nextTub := by decide +kernel
theorem iX4_next_X4 : ∀ w ∈ u_ws RX4 TX4 6, w ∈ wsX4_next := by decide +kernel
theorem iX4_no_X4 : ∀ w ∈ u_ws RX4 TX4 6, w ∈ wsX4_no := by decide +kernel
theorem iX4_pack_X4 : ∀ w ∈ u_ws RX4 TX4 6, w ∈ wsX4_pack := by decide +kernel
theorem iX4_pass_X4 : ∀ w ∈ u_ws RX4 TX4 6, w ∈ wsX4_pass := by decide +kernel
theorem iX4_pour_X4 : ∀ w ∈ u_ws RX4 TX4 6, w ∈ wsX4_pour := by decide +kernel
theorem iX4_salt_X4 : ∀ w ∈ u_ws RX4 TX4 6, w ∈ wsX4_salt := by decide +kernel
theorem iX4_scoop_X4 : ∀ w ∈ u_ws RX4 TX4 6, w ∈ wsX4_scoop := by decide +kernel
theorem iX4_sell_X4 : ∀ w ∈ u_ws RX4 TX4 6, w ∈ wsX4_sell := by decide +kernel
theorem iX4_setChurn_X4 : ∀ w ∈ u_ws RX4 TX4 6, w ∈ wsX4_setChurn := by decide +kernel
theorem iX4_setHeat_X4 : ∀ w ∈ u_ws RX4 TX4 6, w ∈ wsX4_setHeat := by decide +kernel
theorem iX4_setTub_X4 : ∀ w ∈ u_ws RX4 TX4 6, w ∈ wsX4_setTub := by decide +kernel
theorem iX4_share_X4 : ∀ w ∈ u_ws RX4 TX4 6, w ∈ wsX4_share := by decide +kernel
theorem iX4_soften_X4 : ∀ w ∈ u_ws RX4 TX4 6, w ∈ wsX4_soften := by decide +kernel
theorem iX4_sum_X4 : ∀ w ∈ u_ws RX4 TX4 6, w ∈ wsX4_sum := by decide +kernel
theorem iX4_thrown_X4 : ∀ w ∈ u_ws RX4 TX4 6, w ∈ wsX4_thrown := by decide +kernel
theorem iX4_told_X4 : ∀ w ∈ u_ws RX4 TX4 6, w ∈ wsX4_told := by decide +kernel
theorem iX4_tu_X4 : ∀ w ∈ u_ws RX4 TX4 6, w ∈ wsX4_tu := by decide +kernel
theorem iX4_tub_X4 : ∀ w ∈ u_ws RX4 TX4 6, w ∈ wsX4_tub := by decide +kernel
theorem imX3_init_X0_init : Cond.instanceMethod yX0_init ∈ wsX3_init := by decide +kernel
theorem inX3_init_X0 : Cond.initialized RX0 ∈ wsX3_init := by decide +kernel
theorem itX3_init_X0 : Cond.instantiable RX0 9 ∈ wsX3_init := by decide +kernel
theorem kX4_digest_111 : Cond.constantLong RX4 111 (1103) ∈ wsX4_digest := by decide +kernel
theorem kX4_digest_113 : Cond.constantLong RX4 113 (31) ∈ wsX4_digest := by decide +kernel
theorem lkX3_init_9 : Cond.methodLink RX3 9 yX0_init ∈ wsX3_init := by decide +kernel
theorem mcX4_bring_min : Cond.code Lib.Math.min.name Lib.Math.min.code 2 (some .int) ∈ wsX4_bring := by decide +kernel
theorem mcX4_firmUp_max : Cond.code Lib.Math.max.name Lib.Math.max.code 2 (some .int) ∈ wsX4_firmUp := by decide +kernel
theorem mcX4_firmUp_min : Cond.code Lib.Math.min.name Lib.Math.min.code 2 (some .int) ∈ wsX4_firmUp := by decide +kernel
theorem mcX4_hourOn_max : Cond.code Lib.Math.max.name Lib.Math.max.code 2 (some .int) ∈ wsX4_hourOn := by decide +kernel
theorem mcX4_packed_min : Cond.code Lib.Math.min.name Lib.Math.min.code 2 (some .int) ∈ wsX4_packed := by decide +kernel
theorem mcX4_scoop_max : Cond.code Lib.Math.max.name Lib.Math.max.code 2 (some .int) ∈ wsX4_scoop := by decide +kernel
theorem mcX4_scoop_min : Cond.code Lib.Math.min.name Lib.Math.min.code 2 (some .int) ∈ wsX4_scoop := by decide +kernel
theorem mcX4_soften_max : Cond.code Lib.Math.max.name Lib.Math.max.code 2 (some .int) ∈ wsX4_soften := by decide +kernel
theorem mcX4_soften_min : Cond.code Lib.Math.min.name Lib.Math.min.code 2 (some .int) ∈ wsX4_soften := by decide +kernel
theorem miX4_bring : Cond.initialized "java/lang/Math" ∈ wsX4_bring := by decide +kernel
theorem miX4_firmUp : Cond.initialized "java/lang/Math" ∈ wsX4_firmUp := by decide +kernel
theorem miX4_hourOn : Cond.initialized "java/lang/Math" ∈ wsX4_hourOn := by decide +kernel
theorem miX4_packed : Cond.initialized "java/lang/Math" ∈ wsX4_packed := by decide +kernel
theorem miX4_scoop : Cond.initialized "java/lang/Math" ∈ wsX4_scoop := by decide +kernel
theorem miX4_soften : Cond.initialized "java/lang/Math" ∈ wsX4_soften := by decide +kernel
theorem mlX4_bringBack_99 : Cond.methodLink RX4 99 arraycopyName ∈ wsX4_bringBack := by decide +kernel
theorem mlX4_bring_40 : Cond.methodLink RX4 40 Lib.Math.min.name ∈ wsX4_bring := by decide +kernel
theorem mlX4_firmUp_40 : Cond.methodLink RX4 40 Lib.Math.min.name ∈ wsX4_firmUp := by decide +kernel
theorem mlX4_firmUp_70 : Cond.methodLink RX4 70 Lib.Math.max.name ∈ wsX4_firmUp := by decide +kernel
theorem mlX4_hourOn_70 : Cond.methodLink RX4 70 Lib.Math.max.name ∈ wsX4_hourOn := by decide +kernel
theorem mlX4_keep_99 : Cond.methodLink RX4 99 arraycopyName ∈ wsX4_keep := by decide +kernel
theorem mlX4_packed_40 : Cond.methodLink RX4 40 Lib.Math.min.name ∈ wsX4_packed := by decide +kernel
theorem mlX4_scoop_40 : Cond.methodLink RX4 40 Lib.Math.min.name ∈ wsX4_scoop := by decide +kernel
theorem mlX4_scoop_70 : Cond.methodLink RX4 70 Lib.Math.max.name ∈ wsX4_scoop := by decide +kernel
theorem mlX4_soften_40 : Cond.methodLink RX4 40 Lib.Math.min.name ∈ wsX4_soften := by decide +kernel
theorem mlX4_soften_70 : Cond.methodLink RX4 70 Lib.Math.max.name ∈ wsX4_soften := by decide +kernel
theorem mnX4_bringBack : Cond.native arraycopyName ∈ wsX4_bringBack := by decide +kernel
theorem mnX4_keep : Cond.native arraycopyName ∈ wsX4_keep := by decide +kernel
theorem msX4_bring_min : Cond.static Lib.Math.min.name ∈ wsX4_bring := by decide +kernel
theorem msX4_firmUp_max : Cond.static Lib.Math.max.name ∈ wsX4_firmUp := by decide +kernel
theorem msX4_firmUp_min : Cond.static Lib.Math.min.name ∈ wsX4_firmUp := by decide +kernel
theorem msX4_hourOn_max : Cond.static Lib.Math.max.name ∈ wsX4_hourOn := by decide +kernel
theorem msX4_packed_min : Cond.static Lib.Math.min.name ∈ wsX4_packed := by decide +kernel
theorem msX4_scoop_max : Cond.static Lib.Math.max.name ∈ wsX4_scoop := by decide +kernel
theorem msX4_scoop_min : Cond.static Lib.Math.min.name ∈ wsX4_scoop := by decide +kernel
theorem msX4_soften_max : Cond.static Lib.Math.max.name ∈ wsX4_soften := by decide +kernel
theorem msX4_soften_min : Cond.static Lib.Math.min.name ∈ wsX4_soften := by decide +kernel
theorem mtX4_bringBack : Cond.static arraycopyName ∈ wsX4_bringBack := by decide +kernel
theorem mtX4_keep : Cond.static arraycopyName ∈ wsX4_keep := by decide +kernel
theorem myX4_bringBack : Cond.initialized "java/lang/System" ∈ wsX4_bringBack := by decide +kernel
theorem myX4_keep : Cond.initialized "java/lang/System" ∈ wsX4_keep := by decide +kernel
theorem oiX3_init : Cond.methodLink RX3 1 objectInit ∈ wsX3_init := by decide +kernel
theorem oiX4_init : Cond.methodLink RX4 3 objectInit ∈ wsX4_init := by decide +kernel
theorem ojX3_init : Cond.instanceMethod objectInit ∈ wsX3_init := by decide +kernel
theorem ojX4_init : Cond.instanceMethod objectInit ∈ wsX4_init := by decide +kernel
theorem okX3_init : Cond.code objectInit ⟨#[0xb1]⟩ 1 none ∈ wsX3_init := by decide +kernel
theorem okX4_init : Cond.code objectInit ⟨#[0xb1]⟩ 1 none ∈ wsX4_init := by decide +kernel
theorem pX0_init : yX0_init.cls ≠ "java/lang/invoke/MethodHandle" ∧ yX0_init.cls ≠ "java/lang/invoke/VarHandle" ∧ (parseMethodDescriptor yX0_init.desc).map (fun d => d.parameters.length) = some 0 := by decide +kernel
theorem pX4_bringBack : yX4_bringBack.cls = RX4 ∧ yX4_bringBack.cls ≠ "java/lang/invoke/MethodHandle" ∧ yX4_bringBack.cls ≠ "java/lang/invoke/VarHandle" ∧ (parseMethodDescriptor yX4_bringBack.desc).map (fun d => d.parameters.length) = some 0 := by decide +kernel
theorem pX4_ch : yX4_ch.cls = RX4 ∧ yX4_ch.cls ≠ "java/lang/invoke/MethodHandle" ∧ yX4_ch.cls ≠ "java/lang/invoke/VarHandle" ∧ (parseMethodDescriptor yX4_ch.desc).map (fun d => d.parameters.length) = some 2 := by decide +kernel
theorem pX4_counted : yX4_counted.cls = RX4 ∧ yX4_counted.cls ≠ "java/lang/invoke/MethodHandle" ∧ yX4_counted.cls ≠ "java/lang/invoke/VarHandle" ∧ (parseMethodDescriptor yX4_counted.desc).map (fun d => d.parameters.length) = some 1 := by decide +kernel
theorem pX4_firmUp : yX4_firmUp.cls = RX4 ∧ yX4_firmUp.cls ≠ "java/lang/invoke/MethodHandle" ∧ yX4_firmUp.cls ≠ "java/lang/invoke/VarHandle" ∧ (parseMethodDescriptor yX4_firmUp.desc).map (fun d => d.parameters.length) = some 2 := by decide +kernel
theorem pX4_heatNow : yX4_heatNow.cls = RX4 ∧ yX4_heatNow.cls ≠ "java/lang/invoke/MethodHandle" ∧ yX4_heatNow.cls ≠ "java/lang/invoke/VarHandle" ∧ (parseMethodDescriptor yX4_heatNow.desc).map (fun d => d.parameters.length) = some 0 := by decide +kernel
theorem pX4_hourOn : yX4_hourOn.cls = RX4 ∧ yX4_hourOn.cls ≠ "java/lang/invoke/MethodHandle" ∧ yX4_hourOn.cls ≠ "java/lang/invoke/VarHandle" ∧ (parseMethodDescriptor yX4_hourOn.desc).map (fun d => d.parameters.length) = some 0 := by decide +kernel
theorem pX4_isChurn : yX4_isChurn.cls = RX4 ∧ yX4_isChurn.cls ≠ "java/lang/invoke/MethodHandle" ∧ yX4_isChurn.cls ≠ "java/lang/invoke/VarHandle" ∧ (parseMethodDescriptor yX4_isChurn.desc).map (fun d => d.parameters.length) = some 1 := by decide +kernel
theorem pX4_isIn : yX4_isIn.cls ≠ "java/lang/invoke/MethodHandle" ∧ yX4_isIn.cls ≠ "java/lang/invoke/VarHandle" ∧ (parseMethodDescriptor yX4_isIn.desc).map (fun d => d.parameters.length) = some 3 := by decide +kernel
theorem pX4_isTub : yX4_isTub.cls = RX4 ∧ yX4_isTub.cls ≠ "java/lang/invoke/MethodHandle" ∧ yX4_isTub.cls ≠ "java/lang/invoke/VarHandle" ∧ (parseMethodDescriptor yX4_isTub.desc).map (fun d => d.parameters.length) = some 1 := by decide +kernel
theorem pX4_keep : yX4_keep.cls = RX4 ∧ yX4_keep.cls ≠ "java/lang/invoke/MethodHandle" ∧ yX4_keep.cls ≠ "java/lang/invoke/VarHandle" ∧ (parseMethodDescriptor yX4_keep.desc).map (fun d => d.parameters.length) = some 0 := by decide +kernel
theorem pX4_nextTub : yX4_nextTub.cls = RX4 ∧ yX4_nextTub.cls ≠ "java/lang/invoke/MethodHandle" ∧ yX4_nextTub.cls ≠ "java/lang/invoke/VarHandle" ∧ (parseMethodDescriptor yX4_nextTub.desc).map (fun d => d.parameters.length) = some 0 := by decide +kernel
theorem pX4_no : yX4_no.cls = RX4 ∧ yX4_no.cls ≠ "java/lang/invoke/MethodHandle" ∧ yX4_no.cls ≠ "java/lang/invoke/VarHandle" ∧ (parseMethodDescriptor yX4_no.desc).map (fun d => d.parameters.length) = some 1 := by decide +kernel
theorem pX4_packed : yX4_packed.cls = RX4 ∧ yX4_packed.cls ≠ "java/lang/invoke/MethodHandle" ∧ yX4_packed.cls ≠ "java/lang/invoke/VarHandle" ∧ (parseMethodDescriptor yX4_packed.desc).map (fun d => d.parameters.length) = some 3 := by decide +kernel
theorem pX4_sell : yX4_sell.cls = RX4 ∧ yX4_sell.cls ≠ "java/lang/invoke/MethodHandle" ∧ yX4_sell.cls ≠ "java/lang/invoke/VarHandle" ∧ (parseMethodDescriptor yX4_sell.desc).map (fun d => d.parameters.length) = some 0 := by decide +kernel
theorem pX4_setChurn : yX4_setChurn.cls = RX4 ∧ yX4_setChurn.cls ≠ "java/lang/invoke/MethodHandle" ∧ yX4_setChurn.cls ≠ "java/lang/invoke/VarHandle" ∧ (parseMethodDescriptor yX4_setChurn.desc).map (fun d => d.parameters.length) = some 3 := by decide +kernel
theorem pX4_setTub : yX4_setTub.cls = RX4 ∧ yX4_setTub.cls ≠ "java/lang/invoke/MethodHandle" ∧ yX4_setTub.cls ≠ "java/lang/invoke/VarHandle" ∧ (parseMethodDescriptor yX4_setTub.desc).map (fun d => d.parameters.length) = some 3 := by decide +kernel
theorem pX4_soften : yX4_soften.cls = RX4 ∧ yX4_soften.cls ≠ "java/lang/invoke/MethodHandle" ∧ yX4_soften.cls ≠ "java/lang/invoke/VarHandle" ∧ (parseMethodDescriptor yX4_soften.desc).map (fun d => d.parameters.length) = some 2 := by decide +kernel
theorem pX4_sum : yX4_sum.cls = RX4 ∧ yX4_sum.cls ≠ "java/lang/invoke/MethodHandle" ∧ yX4_sum.cls ≠ "java/lang/invoke/VarHandle" ∧ (parseMethodDescriptor yX4_sum.desc).map (fun d => d.parameters.length) = some 1 := by decide +kernel
theorem pX4_tu : yX4_tu.cls = RX4 ∧ yX4_tu.cls ≠ "java/lang/invoke/MethodHandle" ∧ yX4_tu.cls ≠ "java/lang/invoke/VarHandle" ∧ (parseMethodDescriptor yX4_tu.desc).map (fun d => d.parameters.length) = some 2 := by decide +kernel
