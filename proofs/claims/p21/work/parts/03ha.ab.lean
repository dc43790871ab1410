set_option maxRecDepth 20000 in
theorem ab_h : GoodIn wsL_build [(.codeWith yL_act cL_act 10 (some .boolean) [(508, 519, 522, 59), (658, 667, 670, 59), (814, 823, 826, 59)] : Cond)] := goodIn_sub (fun w h => by rw [List.mem_singleton.mp h]; exact List.mem_of_getElem? (i := 43) rfl) (by decide +kernel)
set_option maxRecDepth 20000 in
theorem ab_q1 : GoodIn wsL_build (wsL_act_r1) := goodIn_r _ [44, 45, 46, 4, 5, 6, 7, 8, 47, 48, 49, 50, 25, 26, 22, 27, 28, 29, 30, 31, 32, 33, 34, 35] (by decide +kernel) (by decide +kernel)
theorem ab_r1 : GoodIn wsL_build ((.codeWith yL_act cL_act 10 (some .boolean) [(508, 519, 522, 59), (658, 667, 670, 59), (814, 823, 826, 59)] : Cond) :: wsL_act_r1) := goodIn_app ab_h ab_q1
set_option maxRecDepth 20000 in
theorem ab_r2 : GoodIn wsL_build (wsL_act_r2) := goodIn_r _ [36, 37, 38, 39, 40, 51, 52, 53, 54, 55, 56, 3, 57, 17, 14, 58, 59, 60, 61, 62, 63, 64, 65, 66] (by decide +kernel) (by decide +kernel)
set_option maxRecDepth 20000 in
theorem ab_r3 : GoodIn wsL_build (wsL_act_r3) := goodIn_r _ [67, 68, 69, 70, 71, 72, 73, 74, 75, 76, 77, 78, 79, 80, 81, 82, 83, 84, 85, 86, 87, 88, 89, 90] (by decide +kernel) (by decide +kernel)
set_option maxRecDepth 20000 in
theorem ab_r4 : GoodIn wsL_build (wsL_act_r4) := goodIn_r _ [91, 92, 93, 94, 95, 96, 97, 98, 99, 100, 101, 102, 103, 104, 105, 106, 107, 108, 109, 110, 111, 112] (by decide +kernel) (by decide +kernel)
set_option maxRecDepth 20000 in
theorem ab_wsX40 : GoodIn wsL_build (wsX40) := goodIn_r _ [199, 200, 201, 202, 203, 204, 205] (by decide +kernel) (by decide +kernel)
set_option maxRecDepth 20000 in
theorem ab_wsX30 : GoodIn wsL_build (wsX30) := goodIn_r _ [206, 207] (by decide +kernel) (by decide +kernel)
set_option maxRecDepth 20000 in
theorem ab_wsX00 : GoodIn wsL_build (wsX00) := goodIn_r _ [208, 209, 210, 211, 212, 213, 214, 215, 216] (by decide +kernel) (by decide +kernel)
set_option maxRecDepth 20000 in
theorem ab_wsX10 : GoodIn wsL_build (wsX10) := goodIn_r _ [217, 218, 219] (by decide +kernel) (by decide +kernel)
set_option maxRecDepth 20000 in
theorem ab_wsX20 : GoodIn wsL_build (wsX20) := goodIn_r _ [220, 221, 222] (by decide +kernel) (by decide +kernel)
