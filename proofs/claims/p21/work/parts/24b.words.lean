/-! the law's words among the tables' -/
theorem wl_r4 : ∀ w ∈ wsL_law0_r4, w ∈ lw_tbl := (List.forall_mem_append.mpr ⟨wl_r4_0, (List.forall_mem_append.mpr ⟨wl_r4_13w, wl_r4_14⟩)⟩)
set_option maxRecDepth 100000 in
theorem wl_r5 : ∀ w ∈ wsL_law0_r5, w ∈ lw_tbl := by decide +kernel
set_option maxRecDepth 100000 in
theorem wl_r6 : ∀ w ∈ wsL_law0_r6, w ∈ lw_tbl := by decide +kernel
set_option maxRecDepth 100000 in
theorem wl_r7 : ∀ w ∈ wsL_law0_r7, w ∈ lw_tbl := by decide +kernel
set_option maxRecDepth 100000 in
theorem wl_r8 : ∀ w ∈ wsL_law0_r8, w ∈ lw_tbl := by decide +kernel
set_option maxRecDepth 100000 in
theorem wl_r9 : ∀ w ∈ wsL_law0_r9, w ∈ lw_tbl := by decide +kernel
