/-! the law's words among the tables' -/
set_option maxRecDepth 100000 in
theorem wl_r10_0w : ∀ w ∈ ([Cond.code yX4_pass cX4_pass 8 (some .int)] : List Cond), w ∈ lw_tbl := fun w h => by rw [List.mem_singleton.mp h]; exact List.mem_of_getElem? (i := 377) rfl
set_option maxRecDepth 100000 in
theorem wl_r10_1 : ∀ w ∈ ([Cond.fieldLink RX4 32 "ColdCreameryLaw$Sim" "coins" "I", Cond.fieldLink RX4 24 "ColdCreameryLaw$Sim" "hour" "I", Cond.fieldLink RX4 38 "ColdCreameryLaw$Sim" "away" "I", Cond.methodLink RX4 41 Lib.Math.max.name, Cond.methodLink RX4 28 yX4_hot, Cond.instanceMethod yX4_hot, Cond.selects RX4 yX4_hot yX4_hot, Cond.code yX4_hot cX4_hot 1 (some .int), Cond.methodLink RX4 35 yX4_next, Cond.instanceMethod yX4_next, Cond.selects RX4 yX4_next yX4_next, Cond.code yX4_next cX4_next 3 (some .int), Cond.methodLink RL 91 yX3_told, Cond.instanceMethod yX3_told, Cond.selects RX3 yX3_told yX3_told, Cond.code yX3_told cX3_told 4 (some .int), Cond.methodLink RX3 116 yX1_number, Cond.instanceMethod yX1_number, Cond.selects RX1 yX1_number yX1_number, Cond.code yX1_number cX1_number 2 (some .int), Cond.methodLink RL 94 yX3_about, Cond.instanceMethod yX3_about, Cond.selects RX3 yX3_about yX3_about] : List Cond), w ∈ lw_tbl := by decide +kernel
theorem wl_r10 : ∀ w ∈ wsL_law0_r10, w ∈ lw_tbl := (List.forall_mem_append.mpr ⟨wl_r10_0w, wl_r10_1⟩)
set_option maxRecDepth 100000 in
theorem wl_r11 : ∀ w ∈ wsL_law0_r11, w ∈ lw_tbl := by decide +kernel
set_option maxRecDepth 100000 in
theorem wl_r12 : ∀ w ∈ wsL_law0_r12, w ∈ lw_tbl := by decide +kernel
set_option maxRecDepth 100000 in
theorem wl_r13 : ∀ w ∈ wsL_law0_r13, w ∈ lw_tbl := by decide +kernel
set_option maxRecDepth 100000 in
theorem wl_r14 : ∀ w ∈ wsL_law0_r14, w ∈ lw_tbl := by decide +kernel
