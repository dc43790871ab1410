/-! the law's words among the tables' -/
set_option maxRecDepth 100000 in
theorem wl_r1 : ∀ w ∈ wsL_law0_r1, w ∈ lw_tbl := by decide +kernel
set_option maxRecDepth 100000 in
theorem wl_r2 : ∀ w ∈ wsL_law0_r2, w ∈ lw_tbl := by decide +kernel
set_option maxRecDepth 100000 in
theorem wl_r3 : ∀ w ∈ wsL_law0_r3, w ∈ lw_tbl := by decide +kernel
set_option maxRecDepth 100000 in
theorem wl_r4_0 : ∀ w ∈ ([Cond.constant RL 7 (2147483647), Cond.methodLink RL 33 yX3_bring, Cond.instanceMethod yX3_bring, Cond.selects RX3 yX3_bring yX3_bring, Cond.code yX3_bring cX3_bring 3 (some .int), Cond.classLink RX3 19 "java/lang/IndexOutOfBoundsException", Cond.initialized "java/lang/IndexOutOfBoundsException", Cond.classLink RX3 26 "java/lang/IllegalArgumentException", Cond.initialized "java/lang/IllegalArgumentException", Cond.fieldLink RX3 35 "ColdCreamery" "STOCK_LIMITS" "[I", Cond.methodLink RX3 38 Lib.Math.min.name, Cond.methodLink RL 75 yL_act, Cond.static yL_act] : List Cond), w ∈ lw_tbl := by decide +kernel
set_option maxRecDepth 100000 in
theorem wl_r4_13w : ∀ w ∈ ([Cond.codeWith yL_act cL_act 10 (some .boolean) [(508, 519, 522, 59), (658, 667, 670, 59), (814, 823, 826, 59)]] : List Cond), w ∈ lw_tbl := fun w h => by rw [List.mem_singleton.mp h]; exact List.mem_of_getElem? (i := 418) rfl
set_option maxRecDepth 100000 in
theorem wl_r4_14 : ∀ w ∈ ([Cond.classLink RL 59 "java/lang/IllegalStateException", Cond.fieldLink RL 38 "ColdCreameryLaw$Sim" "heat" "[I", Cond.methodLink RL 41 yX3_setHeat, Cond.instanceMethod yX3_setHeat, Cond.selects RX3 yX3_setHeat yX3_setHeat, Cond.code yX3_setHeat cX3_setHeat 4 (some .int), Cond.methodLink RL 44 yX4_more, Cond.static yX4_more, Cond.code yX4_more cX4_more 3 (some (.array (.array .int))), Cond.methodLink RL 48 yX3_churn] : List Cond), w ∈ lw_tbl := by decide +kernel
