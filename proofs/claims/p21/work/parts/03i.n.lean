set_option maxRecDepth 20000 in
theorem ggL_build_X4_init : GoodIn wsL_build wsX4_init := goodIn_r _ [10, 11, 12, 13, 14, 15, 16, 17, 18, 19, 199, 200, 201, 202, 203, 204, 205] (by decide +kernel) (by decide +kernel)
set_option maxRecDepth 20000 in
theorem gL_build_X4_init_n70 : GoodIn wsL_build (wsX4_init) := ggL_build_X4_init
set_option maxRecDepth 20000 in
theorem ggL_build_L_cell : GoodIn wsL_build wsL_cell := goodIn_r _ [23, 24] (by decide +kernel) (by decide +kernel)
set_option maxRecDepth 20000 in
theorem gL_build_L_cell : GoodIn wsL_build (va_wsS RL 71 yL_cell wsL_cell) := goodIn_app (goodIn_of _ (by decide +kernel)) ggL_build_L_cell
set_option maxRecDepth 20000 in
theorem ggL_build_L_below : GoodIn wsL_build wsL_below := goodIn_r _ [27, 28] (by decide +kernel) (by decide +kernel)
set_option maxRecDepth 20000 in
theorem gL_build_L_below : GoodIn wsL_build (va_wsS RL 15 yL_below wsL_below) := goodIn_app (goodIn_of _ (by decide +kernel)) ggL_build_L_below
set_option maxRecDepth 20000 in
theorem ggL_build_X3_bring : GoodIn wsL_build wsX3_bring := goodIn_ca (goodIn_ca (goodIn_r _ [33, 34, 35, 36, 37, 38, 39, 40, 6, 7, 8, 206, 207, 208, 209, 210, 211, 212, 213, 214, 215, 216] (by decide +kernel) (by decide +kernel)) (goodIn_sub (fun _ h => List.mem_cons_of_mem _ (List.mem_append_left _ (List.mem_append_left _ (List.mem_append_right _ h)))) (by decide +kernel))) (goodIn_sub (fun _ h => List.mem_cons_of_mem _ (List.mem_append_left _ (List.mem_append_right _ h))) (by decide +kernel))
set_option maxRecDepth 20000 in
theorem gL_build_X3_bring : GoodIn wsL_build (wsV RL 33 RX3 yX3_bring wsX3_bring) := goodIn_app (goodIn_of _ (by decide +kernel)) ggL_build_X3_bring
theorem ggL_build_L_act : GoodIn wsL_build wsL_act := goodIn_ca (goodIn_ca (goodIn_ca (goodIn_ca (goodIn_ca (goodIn_ca (goodIn_ca (goodIn_ca (goodIn_ca ab_r1 (goodIn_app ab_r2 (goodIn_app ab_r3 ab_r4))) ab_wsX40) ab_wsX30) ab_wsX00) ab_wsX10) ab_wsX20) (goodIn_sub (fun _ h => List.mem_cons_of_mem _ (List.mem_append_left _ (List.mem_append_left _ (List.mem_append_right _ h)))) (by decide +kernel))) (goodIn_sub (fun _ h => List.mem_cons_of_mem _ (List.mem_append_left _ (List.mem_append_right _ h))) (by decide +kernel))) (goodIn_sub (fun _ h => List.mem_cons_of_mem _ (List.mem_append_right _ h)) (by decide +kernel))
set_option maxRecDepth 20000 in
theorem gL_build_L_act : GoodIn wsL_build (va_wsS RL 75 yL_act wsL_act) := goodIn_app (goodIn_of _ (by decide +kernel)) ggL_build_L_act
set_option maxRecDepth 20000 in
theorem ggL_build_X3_pass : GoodIn wsL_build wsX3_pass := goodIn_ca (goodIn_r _ [116, 38, 117, 118, 32, 119, 36, 37, 120, 121, 122, 123, 124, 125, 126, 127, 128, 129, 130, 131, 132, 133, 134, 135, 136, 137, 138, 139, 140, 141, 142, 143, 144, 145, 146, 92, 147, 94, 95, 148, 149, 150, 40, 6, 7, 8, 151, 152, 153, 49, 50, 154, 155, 156, 107, 157, 109, 111, 110, 112, 158, 159, 160, 161, 162, 163, 164, 165, 166, 167, 168, 169, 170, 171, 172, 173, 174, 175, 176, 177, 178, 179, 180, 181, 182, 206, 207, 208, 209, 210, 211, 212, 213, 214, 215, 216, 217, 218, 219, 220, 221, 222] (by decide +kernel) (by decide +kernel)) (goodIn_sub (fun _ h => List.mem_cons_of_mem _ (List.mem_append_left _ (List.mem_append_right _ h))) (by decide +kernel))
set_option maxRecDepth 20000 in
theorem gL_build_X3_pass : GoodIn wsL_build (wsV RL 79 RX3 yX3_pass wsX3_pass) := goodIn_app (goodIn_of _ (by decide +kernel)) ggL_build_X3_pass
set_option maxRecDepth 20000 in
theorem ggL_build_X4_pass : GoodIn wsL_build wsX4_pass := goodIn_r _ [186, 187, 18, 19, 15, 188, 189, 190, 49, 7, 50, 191, 192, 193, 3, 194, 16, 195, 196, 197, 198, 199, 200, 201, 202, 203, 204, 205] (by decide +kernel) (by decide +kernel)
set_option maxRecDepth 20000 in
theorem gL_build_X4_pass : GoodIn wsL_build (wsV RL 83 RX4 yX4_pass wsX4_pass) := goodIn_app (goodIn_of _ (by decide +kernel)) ggL_build_X4_pass
theorem dL_build_0 : decode cL_build 0 = .ok (.new 10, 3) := by decide +kernel
theorem dL_build_3 : decode cL_build 3 = .ok (.dup, 1) := by decide +kernel
theorem dL_build_4 : decode cL_build 4 = .ok (.invokespecial 70, 3) := by decide +kernel
theorem dL_build_7 : decode cL_build 7 = .ok (.astore_n 2, 1) := by decide +kernel
theorem dL_build_8 : decode cL_build 8 = .ok (.iconst 0, 1) := by decide +kernel
theorem dL_build_9 : decode cL_build 9 = .ok (.istore_n 3, 1) := by decide +kernel
theorem dL_build_10 : decode cL_build 10 = .ok (.iload_n 3, 1) := by decide +kernel
theorem dL_build_11 : decode cL_build 11 = .ok (.iconst 4, 1) := by decide +kernel
theorem dL_build_12 : decode cL_build 12 = .ok (.if_icmp .ge 75, 3) := by decide +kernel
theorem dL_build_15 : decode cL_build 15 = .ok (.aload_n 1, 1) := by decide +kernel
theorem dL_build_16 : decode cL_build 16 = .ok (.iload_n 3, 1) := by decide +kernel
theorem dL_build_17 : decode cL_build 17 = .ok (.invokestatic 71, 3) := by decide +kernel
theorem dL_build_20 : decode cL_build 20 = .ok (.iconst 4, 1) := by decide +kernel
theorem dL_build_21 : decode cL_build 21 = .ok (.invokestatic 15, 3) := by decide +kernel
theorem dL_build_24 : decode cL_build 24 = .ok (.istore 4, 2) := by decide +kernel
theorem dL_build_26 : decode cL_build 26 = .ok (.iload 4, 2) := by decide +kernel
theorem dL_build_28 : decode cL_build 28 = .ok (.ifCond .le 53, 3) := by decide +kernel
theorem dL_build_31 : decode cL_build 31 = .ok (.aload_n 0, 1) := by decide +kernel
theorem dL_build_32 : decode cL_build 32 = .ok (.iload_n 3, 1) := by decide +kernel
theorem dL_build_33 : decode cL_build 33 = .ok (.bipush 120, 2) := by decide +kernel
theorem dL_build_35 : decode cL_build 35 = .ok (.invokevirtual 33, 3) := by decide +kernel
theorem dL_build_38 : decode cL_build 38 = .ok (.aload_n 2, 1) := by decide +kernel
theorem dL_build_39 : decode cL_build 39 = .ok (.getfield 24, 3) := by decide +kernel
theorem dL_build_42 : decode cL_build 42 = .ok (.iload_n 3, 1) := by decide +kernel
theorem dL_build_43 : decode cL_build 43 = .ok (.iload_n 3, 1) := by decide +kernel
theorem dL_build_44 : decode cL_build 44 = .ok (.ifCond .ne 9, 3) := by decide +kernel
theorem dL_build_47 : decode cL_build 47 = .ok (.sipush 900, 3) := by decide +kernel
theorem dL_build_50 : decode cL_build 50 = .ok (.goto 6, 3) := by decide +kernel
theorem dL_build_53 : decode cL_build 53 = .ok (.sipush 300, 3) := by decide +kernel
theorem dL_build_56 : decode cL_build 56 = .ok (.aload_n 2, 1) := by decide +kernel
theorem dL_build_57 : decode cL_build 57 = .ok (.getfield 24, 3) := by decide +kernel
theorem dL_build_60 : decode cL_build 60 = .ok (.iload_n 3, 1) := by decide +kernel
theorem dL_build_61 : decode cL_build 61 = .ok (.iaload, 1) := by decide +kernel
theorem dL_build_62 : decode cL_build 62 = .ok (.bipush 120, 2) := by decide +kernel
theorem dL_build_64 : decode cL_build 64 = .ok (.iadd, 1) := by decide +kernel
theorem dL_build_65 : decode cL_build 65 = .ok (.invokestatic 28, 3) := by decide +kernel
theorem dL_build_68 : decode cL_build 68 = .ok (.dup_x2, 1) := by decide +kernel
theorem dL_build_69 : decode cL_build 69 = .ok (.iastore, 1) := by decide +kernel
theorem dL_build_70 : decode cL_build 70 = .ok (.if_icmp .eq 5, 3) := by decide +kernel
theorem dL_build_73 : decode cL_build 73 = .ok (.aconst_null, 1) := by decide +kernel
theorem dL_build_74 : decode cL_build 74 = .ok (.areturn, 1) := by decide +kernel
theorem dL_build_75 : decode cL_build 75 = .ok (.iinc 4 (-1), 3) := by decide +kernel
theorem dL_build_78 : decode cL_build 78 = .ok (.goto (-52), 3) := by decide +kernel
theorem dL_build_81 : decode cL_build 81 = .ok (.iinc 3 1, 3) := by decide +kernel
theorem dL_build_84 : decode cL_build 84 = .ok (.goto (-74), 3) := by decide +kernel
theorem dL_build_87 : decode cL_build 87 = .ok (.iconst 0, 1) := by decide +kernel
theorem dL_build_88 : decode cL_build 88 = .ok (.istore_n 3, 1) := by decide +kernel
theorem dL_build_89 : decode cL_build 89 = .ok (.iload_n 3, 1) := by decide +kernel
theorem dL_build_90 : decode cL_build 90 = .ok (.bipush 60, 2) := by decide +kernel
theorem dL_build_92 : decode cL_build 92 = .ok (.if_icmp .ge 99, 3) := by decide +kernel
theorem dL_build_95 : decode cL_build 95 = .ok (.aload_n 1, 1) := by decide +kernel
theorem dL_build_96 : decode cL_build 96 = .ok (.iload_n 3, 1) := by decide +kernel
theorem dL_build_97 : decode cL_build 97 = .ok (.bipush 16, 2) := by decide +kernel
theorem dL_build_99 : decode cL_build 99 = .ok (.irem, 1) := by decide +kernel
theorem dL_build_100 : decode cL_build 100 = .ok (.invokestatic 71, 3) := by decide +kernel
theorem dL_build_103 : decode cL_build 103 = .ok (.iload_n 3, 1) := by decide +kernel
theorem dL_build_104 : decode cL_build 104 = .ok (.bipush 16, 2) := by decide +kernel
theorem dL_build_106 : decode cL_build 106 = .ok (.idiv, 1) := by decide +kernel
theorem dL_build_107 : decode cL_build 107 = .ok (.iconst 4, 1) := by decide +kernel
theorem dL_build_108 : decode cL_build 108 = .ok (.imul, 1) := by decide +kernel
theorem dL_build_109 : decode cL_build 109 = .ok (.ishr, 1) := by decide +kernel
theorem dL_build_110 : decode cL_build 110 = .ok (.bipush 53, 2) := by decide +kernel
theorem dL_build_112 : decode cL_build 112 = .ok (.iload_n 3, 1) := by decide +kernel
theorem dL_build_113 : decode cL_build 113 = .ok (.imul, 1) := by decide +kernel
theorem dL_build_114 : decode cL_build 114 = .ok (.iadd, 1) := by decide +kernel
theorem dL_build_115 : decode cL_build 115 = .ok (.istore 4, 2) := by decide +kernel
theorem dL_build_117 : decode cL_build 117 = .ok (.iload_n 3, 1) := by decide +kernel
theorem dL_build_118 : decode cL_build 118 = .ok (.iconst 5, 1) := by decide +kernel
theorem dL_build_119 : decode cL_build 119 = .ok (.if_icmp .ge 22, 3) := by decide +kernel
theorem dL_build_122 : decode cL_build 122 = .ok (.iload 4, 2) := by decide +kernel
theorem dL_build_124 : decode cL_build 124 = .ok (.sipush 10000, 3) := by decide +kernel
theorem dL_build_127 : decode cL_build 127 = .ok (.invokestatic 15, 3) := by decide +kernel
theorem dL_build_130 : decode cL_build 130 = .ok (.bipush 12, 2) := by decide +kernel
theorem dL_build_132 : decode cL_build 132 = .ok (.imul, 1) := by decide +kernel
theorem dL_build_133 : decode cL_build 133 = .ok (.iconst 3, 1) := by decide +kernel
theorem dL_build_134 : decode cL_build 134 = .ok (.iadd, 1) := by decide +kernel
theorem dL_build_135 : decode cL_build 135 = .ok (.iload_n 3, 1) := by decide +kernel
theorem dL_build_136 : decode cL_build 136 = .ok (.iconst 2, 1) := by decide +kernel
theorem dL_build_137 : decode cL_build 137 = .ok (.irem, 1) := by decide +kernel
theorem dL_build_138 : decode cL_build 138 = .ok (.iadd, 1) := by decide +kernel
theorem dL_build_139 : decode cL_build 139 = .ok (.istore 4, 2) := by decide +kernel
theorem dL_build_141 : decode cL_build 141 = .ok (.aload_n 0, 1) := by decide +kernel
theorem dL_build_142 : decode cL_build 142 = .ok (.aload_n 2, 1) := by decide +kernel
theorem dL_build_143 : decode cL_build 143 = .ok (.iload 4, 2) := by decide +kernel
theorem dL_build_145 : decode cL_build 145 = .ok (.invokestatic 75, 3) := by decide +kernel
theorem dL_build_148 : decode cL_build 148 = .ok (.ifCond .ne 5, 3) := by decide +kernel
theorem dL_build_151 : decode cL_build 151 = .ok (.aconst_null, 1) := by decide +kernel
theorem dL_build_152 : decode cL_build 152 = .ok (.areturn, 1) := by decide +kernel
theorem dL_build_153 : decode cL_build 153 = .ok (.iload_n 3, 1) := by decide +kernel
theorem dL_build_154 : decode cL_build 154 = .ok (.bipush 6, 2) := by decide +kernel
theorem dL_build_156 : decode cL_build 156 = .ok (.if_icmp .le 29, 3) := by decide +kernel
theorem dL_build_159 : decode cL_build 159 = .ok (.iload 4, 2) := by decide +kernel
theorem dL_build_161 : decode cL_build 161 = .ok (.bipush 9, 2) := by decide +kernel
theorem dL_build_163 : decode cL_build 163 = .ok (.ishr, 1) := by decide +kernel
theorem dL_build_164 : decode cL_build 164 = .ok (.iconst 2, 1) := by decide +kernel
theorem dL_build_165 : decode cL_build 165 = .ok (.invokestatic 15, 3) := by decide +kernel
theorem dL_build_168 : decode cL_build 168 = .ok (.ifCond .ne 17, 3) := by decide +kernel
theorem dL_build_171 : decode cL_build 171 = .ok (.aload_n 0, 1) := by decide +kernel
theorem dL_build_172 : decode cL_build 172 = .ok (.iconst 1, 1) := by decide +kernel
theorem dL_build_173 : decode cL_build 173 = .ok (.invokevirtual 79, 3) := by decide +kernel
theorem dL_build_176 : decode cL_build 176 = .ok (.aload_n 2, 1) := by decide +kernel
theorem dL_build_177 : decode cL_build 177 = .ok (.invokevirtual 83, 3) := by decide +kernel
theorem dL_build_180 : decode cL_build 180 = .ok (.if_icmp .eq 5, 3) := by decide +kernel
theorem dL_build_183 : decode cL_build 183 = .ok (.aconst_null, 1) := by decide +kernel
theorem dL_build_184 : decode cL_build 184 = .ok (.areturn, 1) := by decide +kernel
theorem dL_build_185 : decode cL_build 185 = .ok (.iinc 3 1, 3) := by decide +kernel
theorem dL_build_188 : decode cL_build 188 = .ok (.goto (-99), 3) := by decide +kernel
theorem dL_build_191 : decode cL_build 191 = .ok (.aload_n 2, 1) := by decide +kernel
theorem dL_build_192 : decode cL_build 192 = .ok (.areturn, 1) := by decide +kernel
