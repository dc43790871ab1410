set_option maxRecDepth 20000 in
theorem ggL_law_X3_init : GoodIn wsL_law wsX3_init := goodIn_r _ [16, 17, 18, 19, 20, 21, 22, 23, 24, 25, 26, 27, 28, 3, 29, 30, 31, 32, 33, 34, 35, 36, 37, 38, 39, 40, 41, 42, 43, 44, 45, 46, 47, 48, 341, 342, 343, 344, 345, 346, 347, 348, 349, 332, 333, 350, 351, 352, 353, 354, 355] (by decide +kernel) (by decide +kernel)
set_option maxRecDepth 20000 in
theorem gL_law_X3_init : GoodIn wsL_law (wsX3_init) := ggL_law_X3_init
theorem ggL_law_L_build : GoodIn wsL_law wsL_build := goodIn_ca (goodIn_ca (goodIn_ca (goodIn_ca (goodIn_ca (goodIn_ca (goodIn_ca (goodIn_ca (goodIn_ca bl_r1 (goodIn_app bl_r2 (goodIn_app bl_r3 (goodIn_app bl_r4 (goodIn_app bl_r5 (goodIn_app bl_r6 (goodIn_app bl_r7 (goodIn_app bl_r8 bl_r9)))))))) bl_wsX40) bl_wsX30) bl_wsX00) bl_wsX10) bl_wsX20) (goodIn_sub (fun _ h => List.mem_append_left _ (List.mem_append_left _ (List.mem_append_right _ h))) (by decide +kernel))) (goodIn_sub (fun _ h => List.mem_append_left _ (List.mem_append_right _ h)) (by decide +kernel))) (goodIn_sub (fun _ h => List.mem_append_right _ h) (by decide +kernel))
set_option maxRecDepth 20000 in
theorem gL_law_L_build : GoodIn wsL_law (va_wsS RL 86 yL_build wsL_build) := goodIn_app (goodIn_of _ (by decide +kernel)) ggL_law_L_build
set_option maxRecDepth 20000 in
theorem ggL_law_L_cell : GoodIn wsL_law wsL_cell := goodIn_r _ [67, 68] (by decide +kernel) (by decide +kernel)
set_option maxRecDepth 20000 in
theorem gL_law_L_cell : GoodIn wsL_law (va_wsS RL 71 yL_cell wsL_cell) := goodIn_app (goodIn_of _ (by decide +kernel)) ggL_law_L_cell
set_option maxRecDepth 20000 in
theorem ggL_law_L_below : GoodIn wsL_law wsL_below := goodIn_r _ [71, 72] (by decide +kernel) (by decide +kernel)
set_option maxRecDepth 20000 in
theorem gL_law_L_below : GoodIn wsL_law (va_wsS RL 15 yL_below wsL_below) := goodIn_app (goodIn_of _ (by decide +kernel)) ggL_law_L_below
theorem ggL_law_L_act : GoodIn wsL_law wsL_act := goodIn_ca (goodIn_ca (goodIn_ca (goodIn_ca (goodIn_ca (goodIn_ca (goodIn_ca (goodIn_ca (goodIn_ca al_r1 (goodIn_app al_r2 (goodIn_app al_r3 al_r4))) al_wsX40) al_wsX30) al_wsX00) al_wsX10) al_wsX20) (goodIn_sub (fun _ h => List.mem_append_left _ (List.mem_append_left _ (List.mem_append_right _ h))) (by decide +kernel))) (goodIn_sub (fun _ h => List.mem_append_left _ (List.mem_append_right _ h)) (by decide +kernel))) (goodIn_sub (fun _ h => List.mem_append_right _ h) (by decide +kernel))
set_option maxRecDepth 20000 in
theorem gL_law_L_act : GoodIn wsL_law (va_wsS RL 75 yL_act wsL_act) := goodIn_app (goodIn_of _ (by decide +kernel)) ggL_law_L_act
set_option maxRecDepth 20000 in
theorem ggL_law_X3_told : GoodIn wsL_law wsX3_told := goodIn_ca (goodIn_r _ [232, 77, 78, 109, 110, 111, 2, 112, 23, 233, 234, 235, 36, 236, 178, 130, 131, 332, 333, 341, 342, 343, 344, 345, 346, 347, 348, 349, 350, 351, 352] (by decide +kernel) (by decide +kernel)) (goodIn_sub (fun _ h => List.mem_append_left _ (List.mem_append_left _ (List.mem_append_right _ h))) (by decide +kernel))
set_option maxRecDepth 20000 in
theorem gL_law_X3_told : GoodIn wsL_law (wsV RL 91 RX3 yX3_told wsX3_told) := goodIn_app (goodIn_of _ (by decide +kernel)) ggL_law_X3_told
set_option maxRecDepth 20000 in
theorem ggL_law_X3_about : GoodIn wsL_law wsX3_about := goodIn_ca (goodIn_r _ [240, 77, 78, 136, 137, 138, 2, 139, 23, 241, 242, 243, 38, 244, 144, 146, 206, 332, 333, 341, 342, 343, 344, 345, 346, 347, 348, 349, 353, 354, 355] (by decide +kernel) (by decide +kernel)) (goodIn_sub (fun _ h => List.mem_append_left _ (List.mem_append_left _ (List.mem_append_right _ h))) (by decide +kernel))
set_option maxRecDepth 20000 in
theorem gL_law_X3_about : GoodIn wsL_law (wsV RL 94 RX3 yX3_about wsX3_about) := goodIn_app (goodIn_of _ (by decide +kernel)) ggL_law_X3_about
set_option maxRecDepth 20000 in
theorem ggL_law_X3_count : GoodIn wsL_law wsX3_count := goodIn_ca (goodIn_r _ [248, 77, 78, 23, 249, 250, 251, 22, 252, 163, 29, 197, 196, 166, 167, 168, 169, 30, 170, 171, 172, 173, 253, 254, 255, 256, 165, 34, 257, 258, 259, 260, 332, 333, 341, 342, 343, 344, 345, 346, 347, 348, 349, 353, 354, 355] (by decide +kernel) (by decide +kernel)) (goodIn_sub (fun _ h => List.mem_append_left _ (List.mem_append_left _ (List.mem_append_right _ h))) (by decide +kernel))
set_option maxRecDepth 20000 in
theorem gL_law_X3_count : GoodIn wsL_law (wsV RL 97 RX3 yX3_count wsX3_count) := goodIn_app (goodIn_of _ (by decide +kernel)) ggL_law_X3_count
set_option maxRecDepth 20000 in
theorem ggL_law_X3_digest : GoodIn wsL_law wsX3_digest := goodIn_r _ [264, 265, 23, 249, 250, 251, 22, 252, 163, 29, 197, 196, 166, 167, 168, 169, 30, 170, 171, 172, 173, 253, 254, 255, 256, 165, 34, 257, 258, 259, 260, 266, 267, 2, 268, 269, 233, 234, 235, 36, 236, 178, 130, 131, 241, 242, 243, 38, 244, 144, 146, 206, 332, 333, 341, 342, 343, 344, 345, 346, 347, 348, 349, 353, 354, 355, 350, 351, 352] (by decide +kernel) (by decide +kernel)
set_option maxRecDepth 20000 in
theorem gL_law_X3_digest : GoodIn wsL_law (wsV RL 100 RX3 yX3_digest wsX3_digest) := goodIn_app (goodIn_of _ (by decide +kernel)) ggL_law_X3_digest
set_option maxRecDepth 20000 in
theorem ggL_law_X3_foresee : GoodIn wsL_law wsX3_foresee := goodIn_ca (goodIn_ca (goodIn_r _ [273, 77, 78, 24, 23, 152, 153, 2, 154, 79, 80, 274, 275, 276, 22, 277, 29, 278, 279, 280, 281, 30, 32, 34, 164, 165, 163, 197, 196, 282, 283, 284, 36, 285, 178, 130, 131, 286, 287, 288, 38, 289, 144, 146, 206, 155, 156, 157, 158, 159, 160, 161, 162, 166, 167, 168, 169, 170, 171, 172, 173, 174, 175, 176, 177, 179, 180, 82, 12, 9, 13, 181, 182, 183, 8, 10, 184, 185, 186, 187, 145, 147, 188, 189, 190, 191, 192, 193, 194, 195, 198, 199, 200, 201, 202, 203, 204, 205, 207, 208, 209, 210, 211, 212, 249, 250, 251, 252, 253, 254, 255, 256, 257, 258, 259, 260, 332, 333, 341, 342, 343, 344, 345, 346, 347, 348, 349, 350, 351, 352, 353, 354, 355] (by decide +kernel) (by decide +kernel)) (goodIn_sub (fun _ h => List.mem_append_left _ (List.mem_append_left _ (List.mem_append_right _ h))) (by decide +kernel))) (goodIn_sub (fun _ h => List.mem_append_left _ (List.mem_append_right _ h)) (by decide +kernel))
set_option maxRecDepth 20000 in
theorem gL_law_X3_foresee : GoodIn wsL_law (wsV RL 104 RX3 yX3_foresee wsX3_foresee) := goodIn_app (goodIn_of _ (by decide +kernel)) ggL_law_X3_foresee
set_option maxRecDepth 20000 in
theorem ggL_law_X3_next : GoodIn wsL_law wsX3_next := goodIn_r _ [293, 23, 294, 199, 200, 22, 201, 165, 34, 332, 333, 341, 342, 343, 344, 345, 346, 347, 348, 349, 353, 354, 355] (by decide +kernel) (by decide +kernel)
set_option maxRecDepth 20000 in
theorem gL_law_X3_next : GoodIn wsL_law (wsV RL 107 RX3 yX3_next wsX3_next) := goodIn_app (goodIn_of _ (by decide +kernel)) ggL_law_X3_next
set_option maxRecDepth 20000 in
theorem ggL_law_X3_lasts : GoodIn wsL_law wsX3_lasts := goodIn_r _ [298, 23, 299, 300, 301, 22, 302, 29, 163, 166, 167, 168, 169, 30, 170, 171, 172, 173, 207, 2, 208, 183, 8, 9, 10, 332, 333, 341, 342, 343, 344, 345, 346, 347, 348, 349] (by decide +kernel) (by decide +kernel)
set_option maxRecDepth 20000 in
theorem gL_law_X3_lasts : GoodIn wsL_law (wsV RL 110 RX3 yX3_lasts wsX3_lasts) := goodIn_app (goodIn_of _ (by decide +kernel)) ggL_law_X3_lasts
set_option maxRecDepth 20000 in
theorem ggL_law_X3_done : GoodIn wsL_law wsX3_done := goodIn_ca (goodIn_r _ [306, 23, 109, 110, 111, 2, 112, 77, 78, 307, 308, 309, 22, 310, 163, 179, 180, 82, 12, 9, 13, 166, 167, 168, 169, 30, 170, 171, 172, 173, 181, 182, 183, 8, 10, 332, 333, 341, 342, 343, 344, 345, 346, 347, 348, 349, 350, 351, 352] (by decide +kernel) (by decide +kernel)) (goodIn_sub (fun _ h => List.mem_append_left _ (List.mem_append_left _ (List.mem_append_right _ h))) (by decide +kernel))
set_option maxRecDepth 20000 in
theorem gL_law_X3_done : GoodIn wsL_law (wsV RL 113 RX3 yX3_done wsX3_done) := goodIn_app (goodIn_of _ (by decide +kernel)) ggL_law_X3_done
set_option maxRecDepth 20000 in
theorem ggL_law_X3_pass : GoodIn wsL_law wsX3_pass := goodIn_ca (goodIn_r _ [151, 23, 152, 153, 2, 154, 79, 80, 155, 156, 157, 22, 158, 159, 160, 161, 162, 163, 164, 32, 165, 34, 29, 166, 167, 168, 169, 30, 170, 171, 172, 173, 174, 175, 176, 36, 177, 130, 131, 178, 179, 180, 82, 12, 9, 13, 181, 182, 183, 8, 10, 184, 185, 186, 38, 187, 144, 146, 145, 147, 188, 189, 190, 191, 192, 193, 194, 195, 196, 197, 198, 199, 200, 201, 202, 203, 204, 205, 206, 207, 208, 209, 210, 211, 212, 332, 333, 341, 342, 343, 344, 345, 346, 347, 348, 349, 350, 351, 352, 353, 354, 355] (by decide +kernel) (by decide +kernel)) (goodIn_sub (fun _ h => List.mem_append_left _ (List.mem_append_right _ h)) (by decide +kernel))
set_option maxRecDepth 20000 in
theorem gL_law_X3_pass : GoodIn wsL_law (wsV RL 79 RX3 yX3_pass wsX3_pass) := goodIn_app (goodIn_of _ (by decide +kernel)) ggL_law_X3_pass
set_option maxRecDepth 20000 in
theorem ggL_law_X4_pass : GoodIn wsL_law wsX4_pass := goodIn_r _ [216, 217, 63, 64, 60, 218, 219, 220, 8, 9, 10, 221, 222, 223, 55, 224, 61, 225, 226, 227, 228, 334, 335, 336, 337, 338, 339, 340] (by decide +kernel) (by decide +kernel)
set_option maxRecDepth 20000 in
theorem gL_law_X4_pass : GoodIn wsL_law (wsV RL 83 RX4 yX4_pass wsX4_pass) := goodIn_app (goodIn_of _ (by decide +kernel)) ggL_law_X4_pass
set_option maxRecDepth 20000 in
theorem ggL_law_X4_isSame : GoodIn wsL_law wsX4_isSame := goodIn_ca (goodIn_r _ [314, 63, 64, 219, 315, 230, 231, 2, 232, 77, 78, 109, 110, 111, 112, 23, 233, 234, 235, 36, 236, 178, 130, 131, 316, 238, 239, 240, 136, 137, 138, 139, 241, 242, 243, 38, 244, 144, 146, 206, 317, 318, 319, 55, 320, 3, 218, 60, 217, 221, 222, 223, 224, 61, 321, 322, 323, 324, 325, 246, 247, 248, 249, 250, 251, 22, 252, 163, 29, 197, 196, 166, 167, 168, 169, 30, 170, 171, 172, 173, 253, 254, 255, 256, 165, 34, 257, 258, 259, 260, 326, 291, 292, 293, 294, 199, 200, 201, 225, 226, 227, 228, 327, 328, 329, 330, 331, 334, 335, 336, 337, 338, 339, 340, 332, 333, 341, 342, 343, 344, 345, 346, 347, 348, 349, 350, 351, 352, 353, 354, 355] (by decide +kernel) (by decide +kernel)) (goodIn_sub (fun _ h => List.mem_append_left _ (List.mem_append_left _ (List.mem_append_right _ h))) (by decide +kernel))
set_option maxRecDepth 20000 in
theorem gL_law_X4_isSame : GoodIn wsL_law (wsV RL 116 RX4 yX4_isSame wsX4_isSame) := goodIn_app (goodIn_of _ (by decide +kernel)) ggL_law_X4_isSame
theorem dL_law_0 : decode cL_law 0 = .ok (.new 34, 3) := by decide +kernel
theorem dL_law_3 : decode cL_law 3 = .ok (.dup, 1) := by decide +kernel
theorem dL_law_4 : decode cL_law 4 = .ok (.invokespecial 85, 3) := by decide +kernel
theorem dL_law_7 : decode cL_law 7 = .ok (.astore_n 1, 1) := by decide +kernel
theorem dL_law_8 : decode cL_law 8 = .ok (.aload_n 1, 1) := by decide +kernel
theorem dL_law_9 : decode cL_law 9 = .ok (.aload_n 0, 1) := by decide +kernel
theorem dL_law_10 : decode cL_law 10 = .ok (.invokestatic 86, 3) := by decide +kernel
theorem dL_law_13 : decode cL_law 13 = .ok (.astore_n 2, 1) := by decide +kernel
theorem dL_law_14 : decode cL_law 14 = .ok (.aload_n 2, 1) := by decide +kernel
theorem dL_law_15 : decode cL_law 15 = .ok (.ifnonnull 5, 3) := by decide +kernel
theorem dL_law_18 : decode cL_law 18 = .ok (.iconst 0, 1) := by decide +kernel
theorem dL_law_19 : decode cL_law 19 = .ok (.ireturn, 1) := by decide +kernel
theorem dL_law_20 : decode cL_law 20 = .ok (.bipush 6, 2) := by decide +kernel
theorem dL_law_22 : decode cL_law 22 = .ok (.newarray .int, 2) := by decide +kernel
theorem dL_law_24 : decode cL_law 24 = .ok (.dup, 1) := by decide +kernel
theorem dL_law_25 : decode cL_law 25 = .ok (.iconst 0, 1) := by decide +kernel
theorem dL_law_26 : decode cL_law 26 = .ok (.iconst 0, 1) := by decide +kernel
theorem dL_law_27 : decode cL_law 27 = .ok (.iastore, 1) := by decide +kernel
theorem dL_law_28 : decode cL_law 28 = .ok (.dup, 1) := by decide +kernel
theorem dL_law_29 : decode cL_law 29 = .ok (.iconst 1, 1) := by decide +kernel
theorem dL_law_30 : decode cL_law 30 = .ok (.iconst 0, 1) := by decide +kernel
theorem dL_law_31 : decode cL_law 31 = .ok (.iastore, 1) := by decide +kernel
theorem dL_law_32 : decode cL_law 32 = .ok (.dup, 1) := by decide +kernel
theorem dL_law_33 : decode cL_law 33 = .ok (.iconst 2, 1) := by decide +kernel
theorem dL_law_34 : decode cL_law 34 = .ok (.sipush 900, 3) := by decide +kernel
theorem dL_law_37 : decode cL_law 37 = .ok (.iastore, 1) := by decide +kernel
theorem dL_law_38 : decode cL_law 38 = .ok (.dup, 1) := by decide +kernel
theorem dL_law_39 : decode cL_law 39 = .ok (.iconst 3, 1) := by decide +kernel
theorem dL_law_40 : decode cL_law 40 = .ok (.sipush 300, 3) := by decide +kernel
theorem dL_law_43 : decode cL_law 43 = .ok (.iastore, 1) := by decide +kernel
theorem dL_law_44 : decode cL_law 44 = .ok (.dup, 1) := by decide +kernel
theorem dL_law_45 : decode cL_law 45 = .ok (.iconst 4, 1) := by decide +kernel
theorem dL_law_46 : decode cL_law 46 = .ok (.sipush 300, 3) := by decide +kernel
theorem dL_law_49 : decode cL_law 49 = .ok (.iastore, 1) := by decide +kernel
theorem dL_law_50 : decode cL_law 50 = .ok (.dup, 1) := by decide +kernel
theorem dL_law_51 : decode cL_law 51 = .ok (.iconst 5, 1) := by decide +kernel
theorem dL_law_52 : decode cL_law 52 = .ok (.sipush 300, 3) := by decide +kernel
theorem dL_law_55 : decode cL_law 55 = .ok (.iastore, 1) := by decide +kernel
theorem dL_law_56 : decode cL_law 56 = .ok (.astore_n 3, 1) := by decide +kernel
theorem dL_law_57 : decode cL_law 57 = .ok (.iconst 5, 1) := by decide +kernel
theorem dL_law_58 : decode cL_law 58 = .ok (.newarray .int, 2) := by decide +kernel
theorem dL_law_60 : decode cL_law 60 = .ok (.dup, 1) := by decide +kernel
theorem dL_law_61 : decode cL_law 61 = .ok (.iconst 0, 1) := by decide +kernel
theorem dL_law_62 : decode cL_law 62 = .ok (.iconst 2, 1) := by decide +kernel
theorem dL_law_63 : decode cL_law 63 = .ok (.iastore, 1) := by decide +kernel
theorem dL_law_64 : decode cL_law 64 = .ok (.dup, 1) := by decide +kernel
theorem dL_law_65 : decode cL_law 65 = .ok (.iconst 1, 1) := by decide +kernel
theorem dL_law_66 : decode cL_law 66 = .ok (.bipush 6, 2) := by decide +kernel
theorem dL_law_68 : decode cL_law 68 = .ok (.iastore, 1) := by decide +kernel
theorem dL_law_69 : decode cL_law 69 = .ok (.dup, 1) := by decide +kernel
theorem dL_law_70 : decode cL_law 70 = .ok (.iconst 2, 1) := by decide +kernel
theorem dL_law_71 : decode cL_law 71 = .ok (.bipush 7, 2) := by decide +kernel
theorem dL_law_73 : decode cL_law 73 = .ok (.iastore, 1) := by decide +kernel
theorem dL_law_74 : decode cL_law 74 = .ok (.dup, 1) := by decide +kernel
theorem dL_law_75 : decode cL_law 75 = .ok (.iconst 3, 1) := by decide +kernel
theorem dL_law_76 : decode cL_law 76 = .ok (.bipush 8, 2) := by decide +kernel
theorem dL_law_78 : decode cL_law 78 = .ok (.iastore, 1) := by decide +kernel
theorem dL_law_79 : decode cL_law 79 = .ok (.dup, 1) := by decide +kernel
theorem dL_law_80 : decode cL_law 80 = .ok (.iconst 4, 1) := by decide +kernel
theorem dL_law_81 : decode cL_law 81 = .ok (.bipush 9, 2) := by decide +kernel
theorem dL_law_83 : decode cL_law 83 = .ok (.iastore, 1) := by decide +kernel
theorem dL_law_84 : decode cL_law 84 = .ok (.astore 4, 2) := by decide +kernel
theorem dL_law_86 : decode cL_law 86 = .ok (.iconst 0, 1) := by decide +kernel
theorem dL_law_87 : decode cL_law 87 = .ok (.istore 5, 2) := by decide +kernel
theorem dL_law_89 : decode cL_law 89 = .ok (.iload 5, 2) := by decide +kernel
theorem dL_law_91 : decode cL_law 91 = .ok (.bipush 60, 2) := by decide +kernel
theorem dL_law_93 : decode cL_law 93 = .ok (.if_icmp .ge 1231, 3) := by decide +kernel
theorem dL_law_96 : decode cL_law 96 = .ok (.aload_n 0, 1) := by decide +kernel
theorem dL_law_97 : decode cL_law 97 = .ok (.iload 5, 2) := by decide +kernel
theorem dL_law_99 : decode cL_law 99 = .ok (.bipush 16, 2) := by decide +kernel
theorem dL_law_101 : decode cL_law 101 = .ok (.irem, 1) := by decide +kernel
theorem dL_law_102 : decode cL_law 102 = .ok (.invokestatic 71, 3) := by decide +kernel
theorem dL_law_105 : decode cL_law 105 = .ok (.iload 5, 2) := by decide +kernel
theorem dL_law_107 : decode cL_law 107 = .ok (.bipush 16, 2) := by decide +kernel
theorem dL_law_109 : decode cL_law 109 = .ok (.idiv, 1) := by decide +kernel
theorem dL_law_110 : decode cL_law 110 = .ok (.iconst 5, 1) := by decide +kernel
theorem dL_law_111 : decode cL_law 111 = .ok (.imul, 1) := by decide +kernel
theorem dL_law_112 : decode cL_law 112 = .ok (.ishr, 1) := by decide +kernel
theorem dL_law_113 : decode cL_law 113 = .ok (.bipush 47, 2) := by decide +kernel
theorem dL_law_115 : decode cL_law 115 = .ok (.iload 5, 2) := by decide +kernel
theorem dL_law_117 : decode cL_law 117 = .ok (.imul, 1) := by decide +kernel
theorem dL_law_118 : decode cL_law 118 = .ok (.iadd, 1) := by decide +kernel
theorem dL_law_119 : decode cL_law 119 = .ok (.istore 6, 2) := by decide +kernel
theorem dL_law_121 : decode cL_law 121 = .ok (.iload 6, 2) := by decide +kernel
theorem dL_law_123 : decode cL_law 123 = .ok (.iconst 3, 1) := by decide +kernel
theorem dL_law_124 : decode cL_law 124 = .ok (.invokestatic 15, 3) := by decide +kernel
theorem dL_law_127 : decode cL_law 127 = .ok (.ifCond .le 17, 3) := by decide +kernel
theorem dL_law_130 : decode cL_law 130 = .ok (.aload_n 1, 1) := by decide +kernel
theorem dL_law_131 : decode cL_law 131 = .ok (.aload_n 2, 1) := by decide +kernel
theorem dL_law_132 : decode cL_law 132 = .ok (.iload 6, 2) := by decide +kernel
theorem dL_law_134 : decode cL_law 134 = .ok (.iconst 3, 1) := by decide +kernel
theorem dL_law_135 : decode cL_law 135 = .ok (.idiv, 1) := by decide +kernel
theorem dL_law_136 : decode cL_law 136 = .ok (.invokestatic 75, 3) := by decide +kernel
theorem dL_law_139 : decode cL_law 139 = .ok (.ifCond .ne 5, 3) := by decide +kernel
theorem dL_law_142 : decode cL_law 142 = .ok (.iconst 0, 1) := by decide +kernel
theorem dL_law_143 : decode cL_law 143 = .ok (.ireturn, 1) := by decide +kernel
theorem dL_law_144 : decode cL_law 144 = .ok (.aload_n 2, 1) := by decide +kernel
theorem dL_law_145 : decode cL_law 145 = .ok (.getfield 9, 3) := by decide +kernel
theorem dL_law_148 : decode cL_law 148 = .ok (.arraylength, 1) := by decide +kernel
theorem dL_law_149 : decode cL_law 149 = .ok (.istore 7, 2) := by decide +kernel
theorem dL_law_151 : decode cL_law 151 = .ok (.aload_n 2, 1) := by decide +kernel
theorem dL_law_152 : decode cL_law 152 = .ok (.getfield 21, 3) := by decide +kernel
theorem dL_law_155 : decode cL_law 155 = .ok (.arraylength, 1) := by decide +kernel
theorem dL_law_156 : decode cL_law 156 = .ok (.istore 8, 2) := by decide +kernel
theorem dL_law_158 : decode cL_law 158 = .ok (.iload 7, 2) := by decide +kernel
theorem dL_law_160 : decode cL_law 160 = .ok (.iconst 3, 1) := by decide +kernel
theorem dL_law_161 : decode cL_law 161 = .ok (.multianewarray 90 2, 4) := by decide +kernel
theorem dL_law_165 : decode cL_law 165 = .ok (.astore 9, 2) := by decide +kernel
theorem dL_law_167 : decode cL_law 167 = .ok (.iconst 0, 1) := by decide +kernel
theorem dL_law_168 : decode cL_law 168 = .ok (.istore 10, 2) := by decide +kernel
theorem dL_law_170 : decode cL_law 170 = .ok (.iload 10, 2) := by decide +kernel
theorem dL_law_172 : decode cL_law 172 = .ok (.iload 7, 2) := by decide +kernel
theorem dL_law_174 : decode cL_law 174 = .ok (.if_icmp .ge 40, 3) := by decide +kernel
theorem dL_law_177 : decode cL_law 177 = .ok (.iconst 0, 1) := by decide +kernel
theorem dL_law_178 : decode cL_law 178 = .ok (.istore 11, 2) := by decide +kernel
theorem dL_law_180 : decode cL_law 180 = .ok (.iload 11, 2) := by decide +kernel
theorem dL_law_182 : decode cL_law 182 = .ok (.iconst 3, 1) := by decide +kernel
theorem dL_law_183 : decode cL_law 183 = .ok (.if_icmp .ge 25, 3) := by decide +kernel
theorem dL_law_186 : decode cL_law 186 = .ok (.aload 9, 2) := by decide +kernel
theorem dL_law_188 : decode cL_law 188 = .ok (.iload 10, 2) := by decide +kernel
theorem dL_law_190 : decode cL_law 190 = .ok (.aaload, 1) := by decide +kernel
theorem dL_law_191 : decode cL_law 191 = .ok (.iload 11, 2) := by decide +kernel
theorem dL_law_193 : decode cL_law 193 = .ok (.aload_n 1, 1) := by decide +kernel
theorem dL_law_194 : decode cL_law 194 = .ok (.iload 10, 2) := by decide +kernel
theorem dL_law_196 : decode cL_law 196 = .ok (.iload 11, 2) := by decide +kernel
theorem dL_law_198 : decode cL_law 198 = .ok (.invokevirtual 91, 3) := by decide +kernel
theorem dL_law_201 : decode cL_law 201 = .ok (.iastore, 1) := by decide +kernel
theorem dL_law_202 : decode cL_law 202 = .ok (.iinc 11 1, 3) := by decide +kernel
theorem dL_law_205 : decode cL_law 205 = .ok (.goto (-25), 3) := by decide +kernel
theorem dL_law_208 : decode cL_law 208 = .ok (.iinc 10 1, 3) := by decide +kernel
theorem dL_law_211 : decode cL_law 211 = .ok (.goto (-41), 3) := by decide +kernel
theorem dL_law_214 : decode cL_law 214 = .ok (.iload 8, 2) := by decide +kernel
theorem dL_law_216 : decode cL_law 216 = .ok (.iconst 3, 1) := by decide +kernel
theorem dL_law_217 : decode cL_law 217 = .ok (.multianewarray 90 2, 4) := by decide +kernel
theorem dL_law_221 : decode cL_law 221 = .ok (.astore 10, 2) := by decide +kernel
theorem dL_law_223 : decode cL_law 223 = .ok (.iconst 0, 1) := by decide +kernel
theorem dL_law_224 : decode cL_law 224 = .ok (.istore 11, 2) := by decide +kernel
theorem dL_law_226 : decode cL_law 226 = .ok (.iload 11, 2) := by decide +kernel
theorem dL_law_228 : decode cL_law 228 = .ok (.iload 8, 2) := by decide +kernel
theorem dL_law_230 : decode cL_law 230 = .ok (.if_icmp .ge 40, 3) := by decide +kernel
theorem dL_law_233 : decode cL_law 233 = .ok (.iconst 0, 1) := by decide +kernel
theorem dL_law_234 : decode cL_law 234 = .ok (.istore 12, 2) := by decide +kernel
theorem dL_law_236 : decode cL_law 236 = .ok (.iload 12, 2) := by decide +kernel
theorem dL_law_238 : decode cL_law 238 = .ok (.iconst 3, 1) := by decide +kernel
theorem dL_law_239 : decode cL_law 239 = .ok (.if_icmp .ge 25, 3) := by decide +kernel
theorem dL_law_242 : decode cL_law 242 = .ok (.aload 10, 2) := by decide +kernel
theorem dL_law_244 : decode cL_law 244 = .ok (.iload 11, 2) := by decide +kernel
theorem dL_law_246 : decode cL_law 246 = .ok (.aaload, 1) := by decide +kernel
theorem dL_law_247 : decode cL_law 247 = .ok (.iload 12, 2) := by decide +kernel
theorem dL_law_249 : decode cL_law 249 = .ok (.aload_n 1, 1) := by decide +kernel
theorem dL_law_250 : decode cL_law 250 = .ok (.iload 11, 2) := by decide +kernel
theorem dL_law_252 : decode cL_law 252 = .ok (.iload 12, 2) := by decide +kernel
theorem dL_law_254 : decode cL_law 254 = .ok (.invokevirtual 94, 3) := by decide +kernel
theorem dL_law_257 : decode cL_law 257 = .ok (.iastore, 1) := by decide +kernel
theorem dL_law_258 : decode cL_law 258 = .ok (.iinc 12 1, 3) := by decide +kernel
theorem dL_law_261 : decode cL_law 261 = .ok (.goto (-25), 3) := by decide +kernel
theorem dL_law_264 : decode cL_law 264 = .ok (.iinc 11 1, 3) := by decide +kernel
theorem dL_law_267 : decode cL_law 267 = .ok (.goto (-41), 3) := by decide +kernel
theorem dL_law_270 : decode cL_law 270 = .ok (.bipush 10, 2) := by decide +kernel
theorem dL_law_272 : decode cL_law 272 = .ok (.newarray .int, 2) := by decide +kernel
theorem dL_law_274 : decode cL_law 274 = .ok (.astore 11, 2) := by decide +kernel
theorem dL_law_276 : decode cL_law 276 = .ok (.iconst 0, 1) := by decide +kernel
theorem dL_law_277 : decode cL_law 277 = .ok (.istore 12, 2) := by decide +kernel
theorem dL_law_279 : decode cL_law 279 = .ok (.iload 12, 2) := by decide +kernel
theorem dL_law_281 : decode cL_law 281 = .ok (.bipush 10, 2) := by decide +kernel
theorem dL_law_283 : decode cL_law 283 = .ok (.if_icmp .ge 20, 3) := by decide +kernel
theorem dL_law_286 : decode cL_law 286 = .ok (.aload 11, 2) := by decide +kernel
theorem dL_law_288 : decode cL_law 288 = .ok (.iload 12, 2) := by decide +kernel
theorem dL_law_290 : decode cL_law 290 = .ok (.aload_n 1, 1) := by decide +kernel
theorem dL_law_291 : decode cL_law 291 = .ok (.iload 12, 2) := by decide +kernel
theorem dL_law_293 : decode cL_law 293 = .ok (.invokevirtual 97, 3) := by decide +kernel
theorem dL_law_296 : decode cL_law 296 = .ok (.iastore, 1) := by decide +kernel
theorem dL_law_297 : decode cL_law 297 = .ok (.iinc 12 1, 3) := by decide +kernel
theorem dL_law_300 : decode cL_law 300 = .ok (.goto (-21), 3) := by decide +kernel
theorem dL_law_303 : decode cL_law 303 = .ok (.iconst 2, 1) := by decide +kernel
theorem dL_law_304 : decode cL_law 304 = .ok (.istore 12, 2) := by decide +kernel
theorem dL_law_306 : decode cL_law 306 = .ok (.iload 12, 2) := by decide +kernel
theorem dL_law_308 : decode cL_law 308 = .ok (.bipush 6, 2) := by decide +kernel
theorem dL_law_310 : decode cL_law 310 = .ok (.if_icmp .ge 31, 3) := by decide +kernel
theorem dL_law_313 : decode cL_law 313 = .ok (.aload 11, 2) := by decide +kernel
theorem dL_law_315 : decode cL_law 315 = .ok (.iload 12, 2) := by decide +kernel
theorem dL_law_317 : decode cL_law 317 = .ok (.iaload, 1) := by decide +kernel
theorem dL_law_318 : decode cL_law 318 = .ok (.ifCond .lt 15, 3) := by decide +kernel
theorem dL_law_321 : decode cL_law 321 = .ok (.aload 11, 2) := by decide +kernel
theorem dL_law_323 : decode cL_law 323 = .ok (.iload 12, 2) := by decide +kernel
theorem dL_law_325 : decode cL_law 325 = .ok (.iaload, 1) := by decide +kernel
theorem dL_law_326 : decode cL_law 326 = .ok (.aload_n 3, 1) := by decide +kernel
theorem dL_law_327 : decode cL_law 327 = .ok (.iload 12, 2) := by decide +kernel
theorem dL_law_329 : decode cL_law 329 = .ok (.iaload, 1) := by decide +kernel
theorem dL_law_330 : decode cL_law 330 = .ok (.if_icmp .le 5, 3) := by decide +kernel
theorem dL_law_333 : decode cL_law 333 = .ok (.iconst 0, 1) := by decide +kernel
theorem dL_law_334 : decode cL_law 334 = .ok (.ireturn, 1) := by decide +kernel
theorem dL_law_335 : decode cL_law 335 = .ok (.iinc 12 1, 3) := by decide +kernel
theorem dL_law_338 : decode cL_law 338 = .ok (.goto (-32), 3) := by decide +kernel
theorem dL_law_341 : decode cL_law 341 = .ok (.aload_n 1, 1) := by decide +kernel
theorem dL_law_342 : decode cL_law 342 = .ok (.invokevirtual 100, 3) := by decide +kernel
theorem dL_law_345 : decode cL_law 345 = .ok (.lstore 12, 2) := by decide +kernel
theorem dL_law_347 : decode cL_law 347 = .ok (.bipush 10, 2) := by decide +kernel
theorem dL_law_349 : decode cL_law 349 = .ok (.newarray .int, 2) := by decide +kernel
theorem dL_law_351 : decode cL_law 351 = .ok (.astore 14, 2) := by decide +kernel
theorem dL_law_353 : decode cL_law 353 = .ok (.aload 4, 2) := by decide +kernel
theorem dL_law_355 : decode cL_law 355 = .ok (.astore 15, 2) := by decide +kernel
theorem dL_law_357 : decode cL_law 357 = .ok (.aload 15, 2) := by decide +kernel
theorem dL_law_359 : decode cL_law 359 = .ok (.arraylength, 1) := by decide +kernel
theorem dL_law_360 : decode cL_law 360 = .ok (.istore 16, 2) := by decide +kernel
theorem dL_law_362 : decode cL_law 362 = .ok (.iconst 0, 1) := by decide +kernel
theorem dL_law_363 : decode cL_law 363 = .ok (.istore 17, 2) := by decide +kernel
theorem dL_law_365 : decode cL_law 365 = .ok (.iload 17, 2) := by decide +kernel
theorem dL_law_367 : decode cL_law 367 = .ok (.iload 16, 2) := by decide +kernel
theorem dL_law_369 : decode cL_law 369 = .ok (.if_icmp .ge 28, 3) := by decide +kernel
theorem dL_law_372 : decode cL_law 372 = .ok (.aload 15, 2) := by decide +kernel
theorem dL_law_374 : decode cL_law 374 = .ok (.iload 17, 2) := by decide +kernel
theorem dL_law_376 : decode cL_law 376 = .ok (.iaload, 1) := by decide +kernel
theorem dL_law_377 : decode cL_law 377 = .ok (.istore 18, 2) := by decide +kernel
theorem dL_law_379 : decode cL_law 379 = .ok (.aload 14, 2) := by decide +kernel
theorem dL_law_381 : decode cL_law 381 = .ok (.iload 18, 2) := by decide +kernel
theorem dL_law_383 : decode cL_law 383 = .ok (.aload_n 1, 1) := by decide +kernel
theorem dL_law_384 : decode cL_law 384 = .ok (.iconst 1, 1) := by decide +kernel
theorem dL_law_385 : decode cL_law 385 = .ok (.iload 18, 2) := by decide +kernel
theorem dL_law_387 : decode cL_law 387 = .ok (.invokevirtual 104, 3) := by decide +kernel
theorem dL_law_390 : decode cL_law 390 = .ok (.iastore, 1) := by decide +kernel
theorem dL_law_391 : decode cL_law 391 = .ok (.iinc 17 1, 3) := by decide +kernel
theorem dL_law_394 : decode cL_law 394 = .ok (.goto (-29), 3) := by decide +kernel
theorem dL_law_397 : decode cL_law 397 = .ok (.aload_n 1, 1) := by decide +kernel
theorem dL_law_398 : decode cL_law 398 = .ok (.invokevirtual 107, 3) := by decide +kernel
theorem dL_law_401 : decode cL_law 401 = .ok (.istore 15, 2) := by decide +kernel
theorem dL_law_403 : decode cL_law 403 = .ok (.aload_n 1, 1) := by decide +kernel
theorem dL_law_404 : decode cL_law 404 = .ok (.invokevirtual 110, 3) := by decide +kernel
theorem dL_law_407 : decode cL_law 407 = .ok (.istore 16, 2) := by decide +kernel
theorem dL_law_409 : decode cL_law 409 = .ok (.iload 7, 2) := by decide +kernel
theorem dL_law_411 : decode cL_law 411 = .ok (.newarray .int, 2) := by decide +kernel
theorem dL_law_413 : decode cL_law 413 = .ok (.astore 17, 2) := by decide +kernel
theorem dL_law_415 : decode cL_law 415 = .ok (.iconst 0, 1) := by decide +kernel
theorem dL_law_416 : decode cL_law 416 = .ok (.istore 18, 2) := by decide +kernel
theorem dL_law_418 : decode cL_law 418 = .ok (.iload 18, 2) := by decide +kernel
theorem dL_law_420 : decode cL_law 420 = .ok (.iload 7, 2) := by decide +kernel
theorem dL_law_422 : decode cL_law 422 = .ok (.if_icmp .ge 20, 3) := by decide +kernel
theorem dL_law_425 : decode cL_law 425 = .ok (.aload 17, 2) := by decide +kernel
theorem dL_law_427 : decode cL_law 427 = .ok (.iload 18, 2) := by decide +kernel
theorem dL_law_429 : decode cL_law 429 = .ok (.aload_n 1, 1) := by decide +kernel
theorem dL_law_430 : decode cL_law 430 = .ok (.iload 18, 2) := by decide +kernel
theorem dL_law_432 : decode cL_law 432 = .ok (.invokevirtual 113, 3) := by decide +kernel
theorem dL_law_435 : decode cL_law 435 = .ok (.iastore, 1) := by decide +kernel
theorem dL_law_436 : decode cL_law 436 = .ok (.iinc 18 1, 3) := by decide +kernel
theorem dL_law_439 : decode cL_law 439 = .ok (.goto (-21), 3) := by decide +kernel
theorem dL_law_442 : decode cL_law 442 = .ok (.aload_n 1, 1) := by decide +kernel
