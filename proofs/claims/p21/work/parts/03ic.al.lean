set_option maxRecDepth 20000 in
theorem al_h : GoodIn wsL_law [(.codeWith yL_act cL_act 10 (some .boolean) [(508, 519, 522, 59), (658, 667, 670, 59), (814, 823, 826, 59)] : Cond)] := goodIn_sub (fun w h => by rw [List.mem_singleton.mp h]; exact List.mem_of_getElem? (i := 85) rfl) (by decide +kernel)
set_option maxRecDepth 20000 in
theorem al_q1 : GoodIn wsL_law (wsL_act_r1) := goodIn_r _ [86, 4, 5, 56, 11, 12, 9, 13, 87, 7, 8, 10, 69, 70, 51, 71, 72, 73, 74, 75, 2, 76, 77, 78] (by decide +kernel) (by decide +kernel)
theorem al_r1 : GoodIn wsL_law ((.codeWith yL_act cL_act 10 (some .boolean) [(508, 519, 522, 59), (658, 667, 670, 59), (814, 823, 826, 59)] : Cond) :: wsL_act_r1) := goodIn_app al_h al_q1
set_option maxRecDepth 20000 in
theorem al_r2 : GoodIn wsL_law (wsL_act_r2) := goodIn_r _ [79, 80, 23, 81, 82, 88, 89, 90, 91, 92, 93, 55, 94, 62, 3, 95, 96, 97, 98, 99, 100, 101, 102, 103] (by decide +kernel) (by decide +kernel)
set_option maxRecDepth 20000 in
theorem al_r3 : GoodIn wsL_law (wsL_act_r3) := goodIn_r _ [104, 105, 106, 107, 108, 109, 110, 111, 112, 113, 114, 115, 116, 117, 118, 119, 120, 121, 122, 123, 124, 125, 126, 127] (by decide +kernel) (by decide +kernel)
set_option maxRecDepth 20000 in
theorem al_r4 : GoodIn wsL_law (wsL_act_r4) := goodIn_r _ [128, 36, 129, 130, 131, 132, 133, 134, 135, 136, 137, 138, 139, 140, 141, 142, 38, 143, 144, 145, 146, 147] (by decide +kernel) (by decide +kernel)
set_option maxRecDepth 20000 in
theorem al_wsX40 : GoodIn wsL_law (wsX40) := goodIn_r _ [334, 335, 336, 337, 338, 339, 340] (by decide +kernel) (by decide +kernel)
set_option maxRecDepth 20000 in
theorem al_wsX30 : GoodIn wsL_law (wsX30) := goodIn_r _ [332, 333] (by decide +kernel) (by decide +kernel)
set_option maxRecDepth 20000 in
theorem al_wsX00 : GoodIn wsL_law (wsX00) := goodIn_r _ [341, 342, 343, 344, 345, 346, 347, 348, 349] (by decide +kernel) (by decide +kernel)
set_option maxRecDepth 20000 in
theorem al_wsX10 : GoodIn wsL_law (wsX10) := goodIn_r _ [350, 351, 352] (by decide +kernel) (by decide +kernel)
set_option maxRecDepth 20000 in
theorem al_wsX20 : GoodIn wsL_law (wsX20) := goodIn_r _ [353, 354, 355] (by decide +kernel) (by decide +kernel)
