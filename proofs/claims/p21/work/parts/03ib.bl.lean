set_option maxRecDepth 20000 in
theorem bl_r7 : GoodIn wsL_law (wsL_build_r7) := goodIn_r _ [175, 176, 177, 178, 179, 180, 181, 182, 183, 184, 185, 186, 187, 188, 189, 190, 191, 192, 193, 194, 195, 196, 197, 198] (by decide +kernel) (by decide +kernel)
set_option maxRecDepth 20000 in
theorem bl_r8_0 : GoodIn wsL_law ([Cond.instanceMethod yX0_sellingTub, Cond.selects RX0 yX0_sellingTub yX0_sellingTub, Cond.code yX0_sellingTub cX0_sellingTub 4 (some .int), Cond.methodLink RX0 110 yX2_sellScoop, Cond.instanceMethod yX2_sellScoop, Cond.selects RX2 yX2_sellScoop yX2_sellScoop, Cond.code yX2_sellScoop cX2_sellScoop 1 (some .int), Cond.fieldLink RX2 18 "ColdCreamery$Tub" "sold" "I", Cond.static yX3_iceAfterHour, Cond.code yX3_iceAfterHour cX3_iceAfterHour 3 (some .int), Cond.methodLink RX0 101 yX2_forgetSoftnessIfEmpty, Cond.instanceMethod yX2_forgetSoftnessIfEmpty, Cond.selects RX2 yX2_forgetSoftnessIfEmpty yX2_forgetSoftnessIfEmpty, Cond.code yX2_forgetSoftnessIfEmpty cX2_forgetSoftnessIfEmpty 1 none, Cond.methodLink RL 83 yX4_pass, Cond.instanceMethod yX4_pass, Cond.selects RX4 yX4_pass yX4_pass]) := goodIn_r _ [199, 200, 201, 202, 203, 204, 205, 206, 207, 208, 209, 210, 211, 212, 213, 214, 215] (by decide +kernel) (by decide +kernel)
set_option maxRecDepth 20000 in
theorem bl_r8_17w : GoodIn wsL_law [(Cond.code yX4_pass cX4_pass 8 (some .int) : Cond)] := goodIn_sub (fun w h => by rw [List.mem_singleton.mp h]; exact List.mem_of_getElem? (i := 216) rfl) (by decide +kernel)
set_option maxRecDepth 20000 in
theorem bl_r8_18 : GoodIn wsL_law ([Cond.fieldLink RX4 32 "ColdCreameryLaw$Sim" "coins" "I", Cond.fieldLink RX4 24 "ColdCreameryLaw$Sim" "hour" "I", Cond.fieldLink RX4 38 "ColdCreameryLaw$Sim" "away" "I", Cond.methodLink RX4 41 Lib.Math.max.name, Cond.methodLink RX4 28 yX4_hot, Cond.instanceMethod yX4_hot]) := goodIn_r _ [217, 218, 219, 220, 221, 222] (by decide +kernel) (by decide +kernel)
theorem bl_r8 : GoodIn wsL_law wsL_build_r8 := (goodIn_app bl_r8_0 (goodIn_app bl_r8_17w bl_r8_18))
set_option maxRecDepth 20000 in
theorem bl_r9 : GoodIn wsL_law (wsL_build_r9) := goodIn_r _ [223, 224, 225, 226, 227, 228] (by decide +kernel) (by decide +kernel)
set_option maxRecDepth 20000 in
theorem bl_wsX40 : GoodIn wsL_law (wsX40) := goodIn_r _ [334, 335, 336, 337, 338, 339, 340] (by decide +kernel) (by decide +kernel)
set_option maxRecDepth 20000 in
theorem bl_wsX30 : GoodIn wsL_law (wsX30) := goodIn_r _ [332, 333] (by decide +kernel) (by decide +kernel)
set_option maxRecDepth 20000 in
theorem bl_wsX00 : GoodIn wsL_law (wsX00) := goodIn_r _ [341, 342, 343, 344, 345, 346, 347, 348, 349] (by decide +kernel) (by decide +kernel)
set_option maxRecDepth 20000 in
theorem bl_wsX10 : GoodIn wsL_law (wsX10) := goodIn_r _ [350, 351, 352] (by decide +kernel) (by decide +kernel)
set_option maxRecDepth 20000 in
theorem bl_wsX20 : GoodIn wsL_law (wsX20) := goodIn_r _ [353, 354, 355] (by decide +kernel) (by decide +kernel)
