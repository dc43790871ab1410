set_option maxRecDepth 20000 in
theorem bl_h : GoodIn wsL_law [(.code yL_build cL_build 5 (some (.object "ColdCreameryLaw$Sim")) : Cond)] := goodIn_sub (fun w h => by rw [List.mem_singleton.mp h]; exact List.mem_of_getElem? (i := 52) rfl) (by decide +kernel)
set_option maxRecDepth 20000 in
theorem bl_q1 : GoodIn wsL_law (wsL_build_r1) := goodIn_r _ [53, 54, 55, 56, 11, 12, 9, 13, 57, 58, 59, 18, 19, 3, 60, 61, 62, 63, 64, 65, 66, 51, 67, 68] (by decide +kernel) (by decide +kernel)
theorem bl_r1 : GoodIn wsL_law ((.code yL_build cL_build 5 (some (.object "ColdCreameryLaw$Sim")) : Cond) :: wsL_build_r1) := goodIn_app bl_h bl_q1
set_option maxRecDepth 20000 in
theorem bl_r2_0 : GoodIn wsL_law ([Cond.methodLink RL 15 yL_below, Cond.static yL_below, Cond.code yL_below cL_below 2 (some .int), Cond.constant RL 7 (2147483647), Cond.methodLink RL 33 yX3_bring, Cond.instanceMethod yX3_bring, Cond.selects RX3 yX3_bring yX3_bring, Cond.initialized RX3, Cond.code yX3_bring cX3_bring 3 (some .int), Cond.classLink RX3 19 "java/lang/IndexOutOfBoundsException", Cond.initialized "java/lang/IndexOutOfBoundsException", Cond.classLink RX3 26 "java/lang/IllegalArgumentException", Cond.initialized "java/lang/IllegalArgumentException", Cond.fieldLink RX3 10 "ColdCreamery" "cellar" "LColdCreamery$Cellar;", Cond.fieldLink RX3 35 "ColdCreamery" "STOCK_LIMITS" "[I", Cond.methodLink RX3 38 Lib.Math.min.name, Cond.methodLink RL 75 yL_act, Cond.static yL_act]) := goodIn_r _ [69, 70, 71, 72, 73, 74, 75, 2, 76, 77, 78, 79, 80, 23, 81, 82, 83, 84] (by decide +kernel) (by decide +kernel)
set_option maxRecDepth 20000 in
theorem bl_r2_18w : GoodIn wsL_law [(Cond.codeWith yL_act cL_act 10 (some .boolean) [(508, 519, 522, 59), (658, 667, 670, 59), (814, 823, 826, 59)] : Cond)] := goodIn_sub (fun w h => by rw [List.mem_singleton.mp h]; exact List.mem_of_getElem? (i := 85) rfl) (by decide +kernel)
set_option maxRecDepth 20000 in
theorem bl_r2_19 : GoodIn wsL_law ([Cond.classLink RL 59 "java/lang/IllegalStateException", Cond.fieldLink RL 9 "ColdCreameryLaw$Sim" "churns" "[[I", Cond.fieldLink RL 21 "ColdCreameryLaw$Sim" "tubs" "[[I", Cond.fieldLink RL 38 "ColdCreameryLaw$Sim" "heat" "[I", Cond.methodLink RL 64 Lib.Math.max.name]) := goodIn_r _ [86, 4, 5, 87, 7] (by decide +kernel) (by decide +kernel)
theorem bl_r2 : GoodIn wsL_law wsL_build_r2 := (goodIn_app bl_r2_0 (goodIn_app bl_r2_18w bl_r2_19))
set_option maxRecDepth 20000 in
theorem bl_r3 : GoodIn wsL_law (wsL_build_r3) := goodIn_r _ [8, 10, 88, 89, 90, 91, 92, 93, 94, 95, 96, 97, 98, 99, 100, 101, 102, 103, 104, 105, 106, 107, 108, 109] (by decide +kernel) (by decide +kernel)
set_option maxRecDepth 20000 in
theorem bl_r4 : GoodIn wsL_law (wsL_build_r4) := goodIn_r _ [110, 111, 112, 113, 114, 115, 116, 117, 118, 119, 120, 121, 122, 123, 124, 125, 126, 127, 128, 36, 129, 130, 131, 132] (by decide +kernel) (by decide +kernel)
set_option maxRecDepth 20000 in
theorem bl_r5 : GoodIn wsL_law (wsL_build_r5) := goodIn_r _ [133, 134, 135, 136, 137, 138, 139, 140, 141, 142, 38, 143, 144, 145, 146, 147, 148, 149, 150, 151, 152, 153, 154, 155] (by decide +kernel) (by decide +kernel)
set_option maxRecDepth 20000 in
theorem bl_r6 : GoodIn wsL_law (wsL_build_r6) := goodIn_r _ [156, 157, 22, 158, 159, 160, 161, 162, 163, 164, 32, 165, 34, 29, 166, 167, 168, 169, 30, 170, 171, 172, 173, 174] (by decide +kernel) (by decide +kernel)
