theorem dL_below_0 : decode cL_below 0 = .ok (.iload_n 0, 1) := by decide +kernel
theorem dL_below_1 : decode cL_below 1 = .ok (.ldc 7, 2) := by decide +kernel
theorem dL_below_3 : decode cL_below 3 = .ok (.iand, 1) := by decide +kernel
theorem dL_below_4 : decode cL_below 4 = .ok (.iload_n 1, 1) := by decide +kernel
theorem dL_below_5 : decode cL_below 5 = .ok (.irem, 1) := by decide +kernel
theorem dL_below_6 : decode cL_below 6 = .ok (.ireturn, 1) := by decide +kernel
theorem dL_cell_0 : decode cL_cell 0 = .ok (.iload_n 1, 1) := by decide +kernel
theorem dL_cell_1 : decode cL_cell 1 = .ok (.aload_n 0, 1) := by decide +kernel
theorem dL_cell_2 : decode cL_cell 2 = .ok (.arraylength, 1) := by decide +kernel
theorem dL_cell_3 : decode cL_cell 3 = .ok (.if_icmp .ge 9, 3) := by decide +kernel
theorem dL_cell_6 : decode cL_cell 6 = .ok (.aload_n 0, 1) := by decide +kernel
theorem dL_cell_7 : decode cL_cell 7 = .ok (.iload_n 1, 1) := by decide +kernel
theorem dL_cell_8 : decode cL_cell 8 = .ok (.iaload, 1) := by decide +kernel
theorem dL_cell_9 : decode cL_cell 9 = .ok (.goto 9, 3) := by decide +kernel
theorem dL_cell_12 : decode cL_cell 12 = .ok (.ldc 8, 2) := by decide +kernel
theorem dL_cell_14 : decode cL_cell 14 = .ok (.iload_n 1, 1) := by decide +kernel
theorem dL_cell_15 : decode cL_cell 15 = .ok (.iconst 3, 1) := by decide +kernel
theorem dL_cell_16 : decode cL_cell 16 = .ok (.iadd, 1) := by decide +kernel
theorem dL_cell_17 : decode cL_cell 17 = .ok (.imul, 1) := by decide +kernel
theorem dL_cell_18 : decode cL_cell 18 = .ok (.ireturn, 1) := by decide +kernel
set_option maxRecDepth 20000 in
theorem ggL_act_L_below : GoodIn wsL_act wsL_below := goodIn_r _ [16, 17] (by decide +kernel) (by decide +kernel)
set_option maxRecDepth 20000 in
theorem gL_act_L_below : GoodIn wsL_act (va_wsS RL 15 yL_below wsL_below) := goodIn_app (goodIn_of _ (by decide +kernel)) ggL_act_L_below
set_option maxRecDepth 20000 in
theorem ggL_act_X3_bring : GoodIn wsL_act wsX3_bring := goodIn_ca (goodIn_ca (goodIn_r _ [22, 23, 24, 25, 26, 27, 28, 29, 6, 7, 8, 102, 103, 104, 105, 106, 107, 108, 109, 110, 111, 112] (by decide +kernel) (by decide +kernel)) (goodIn_sub (fun _ h => List.mem_cons_of_mem _ (List.mem_append_left _ (List.mem_append_left _ (List.mem_append_right _ h)))) (by decide +kernel))) (goodIn_sub (fun _ h => List.mem_cons_of_mem _ (List.mem_append_left _ (List.mem_append_right _ h))) (by decide +kernel))
set_option maxRecDepth 20000 in
theorem gL_act_X3_bring : GoodIn wsL_act (wsV RL 33 RX3 yX3_bring wsX3_bring) := goodIn_app (goodIn_of _ (by decide +kernel)) ggL_act_X3_bring
set_option maxRecDepth 20000 in
theorem ggL_act_X3_setHeat : GoodIn wsL_act wsX3_setHeat := goodIn_ca (goodIn_ca (goodIn_r _ [33, 23, 24, 25, 26, 27, 102, 103, 104, 105, 106, 107, 108, 109, 110, 111, 112] (by decide +kernel) (by decide +kernel)) (goodIn_sub (fun _ h => List.mem_cons_of_mem _ (List.mem_append_left _ (List.mem_append_left _ (List.mem_append_right _ h)))) (by decide +kernel))) (goodIn_sub (fun _ h => List.mem_cons_of_mem _ (List.mem_append_left _ (List.mem_append_right _ h))) (by decide +kernel))
set_option maxRecDepth 20000 in
theorem gL_act_X3_setHeat : GoodIn wsL_act (wsV RL 41 RX3 yX3_setHeat wsX3_setHeat) := goodIn_app (goodIn_of _ (by decide +kernel)) ggL_act_X3_setHeat
set_option maxRecDepth 20000 in
theorem ggL_act_X4_more : GoodIn wsL_act wsX4_more := goodIn_r _ [37, 38, 39] (by decide +kernel) (by decide +kernel)
set_option maxRecDepth 20000 in
theorem gL_act_X4_more : GoodIn wsL_act (va_wsS RL 44 yX4_more wsX4_more) := goodIn_app (goodIn_of _ (by decide +kernel)) ggL_act_X4_more
set_option maxRecDepth 20000 in
theorem ggL_act_X3_churn : GoodIn wsL_act wsX3_churn := goodIn_ca (goodIn_r _ [43, 44, 45, 27, 102, 103, 104, 105, 106, 107, 108, 109, 110, 111, 112] (by decide +kernel) (by decide +kernel)) (goodIn_sub (fun _ h => List.mem_cons_of_mem _ (List.mem_append_right _ h)) (by decide +kernel))
set_option maxRecDepth 20000 in
theorem gL_act_X3_churn : GoodIn wsL_act (wsV RL 48 RX3 yX3_churn wsX3_churn) := goodIn_app (goodIn_of _ (by decide +kernel)) ggL_act_X3_churn
set_option maxRecDepth 20000 in
theorem ggL_act_X3_tub : GoodIn wsL_act wsX3_tub := goodIn_ca (goodIn_r _ [49, 44, 45, 27, 102, 103, 104, 105, 106, 107, 108, 109, 110, 111, 112] (by decide +kernel) (by decide +kernel)) (goodIn_sub (fun _ h => List.mem_cons_of_mem _ (List.mem_append_right _ h)) (by decide +kernel))
set_option maxRecDepth 20000 in
theorem gL_act_X3_tub : GoodIn wsL_act (wsV RL 52 RX3 yX3_tub wsX3_tub) := goodIn_app (goodIn_of _ (by decide +kernel)) ggL_act_X3_tub
set_option maxRecDepth 20000 in
theorem ggL_act_X3_pack : GoodIn wsL_act wsX3_pack := goodIn_ca (goodIn_ca (goodIn_ca (goodIn_r _ [53, 44, 45, 27, 54, 55, 56, 21, 57, 23, 24, 58, 59, 60, 25, 26, 61, 62, 63, 29, 6, 7, 8, 64, 65, 66, 102, 103, 104, 105, 106, 107, 108, 109, 110, 111, 112, 113, 114, 115] (by decide +kernel) (by decide +kernel)) (goodIn_sub (fun _ h => List.mem_cons_of_mem _ (List.mem_append_right _ h)) (by decide +kernel))) (goodIn_sub (fun _ h => List.mem_cons_of_mem _ (List.mem_append_left _ (List.mem_append_left _ (List.mem_append_right _ h)))) (by decide +kernel))) (goodIn_sub (fun _ h => List.mem_cons_of_mem _ (List.mem_append_left _ (List.mem_append_right _ h))) (by decide +kernel))
set_option maxRecDepth 20000 in
theorem gL_act_X3_pack : GoodIn wsL_act (wsV RL 55 RX3 yX3_pack wsX3_pack) := goodIn_app (goodIn_of _ (by decide +kernel)) ggL_act_X3_pack
set_option maxRecDepth 20000 in
theorem ggL_act_X3_pour : GoodIn wsL_act wsX3_pour := goodIn_ca (goodIn_ca (goodIn_ca (goodIn_r _ [70, 25, 26, 44, 45, 27, 54, 55, 56, 21, 57, 23, 24, 71, 72, 73, 74, 75, 76, 77, 102, 103, 104, 105, 106, 107, 108, 109, 110, 111, 112, 113, 114, 115] (by decide +kernel) (by decide +kernel)) (goodIn_sub (fun _ h => List.mem_cons_of_mem _ (List.mem_append_left _ (List.mem_append_right _ h))) (by decide +kernel))) (goodIn_sub (fun _ h => List.mem_cons_of_mem _ (List.mem_append_right _ h)) (by decide +kernel))) (goodIn_sub (fun _ h => List.mem_cons_of_mem _ (List.mem_append_left _ (List.mem_append_left _ (List.mem_append_right _ h)))) (by decide +kernel))
set_option maxRecDepth 20000 in
theorem gL_act_X3_pour : GoodIn wsL_act (wsV RL 61 RX3 yX3_pour wsX3_pour) := goodIn_app (goodIn_of _ (by decide +kernel)) ggL_act_X3_pour
set_option maxRecDepth 20000 in
theorem ggL_act_X3_scoop : GoodIn wsL_act wsX3_scoop := goodIn_ca (goodIn_ca (goodIn_r _ [81, 44, 45, 54, 55, 56, 21, 57, 23, 24, 27, 82, 83, 84, 85, 86, 87, 88, 89, 90, 91, 92, 6, 7, 8, 93, 94, 11, 12, 113, 114, 115, 116, 117, 118, 102, 103, 104, 105, 106, 107, 108, 109, 110, 111, 112] (by decide +kernel) (by decide +kernel)) (goodIn_sub (fun _ h => List.mem_cons_of_mem _ (List.mem_append_right _ h)) (by decide +kernel))) (goodIn_sub (fun _ h => List.mem_cons_of_mem _ (List.mem_append_left _ (List.mem_append_left _ (List.mem_append_right _ h)))) (by decide +kernel))
set_option maxRecDepth 20000 in
theorem gL_act_X3_scoop : GoodIn wsL_act (wsV RL 67 RX3 yX3_scoop wsX3_scoop) := goodIn_app (goodIn_of _ (by decide +kernel)) ggL_act_X3_scoop
theorem dL_act_0 : decode cL_act 0 = .ok (.aload_n 1, 1) := by decide +kernel
theorem dL_act_1 : decode cL_act 1 = .ok (.getfield 9, 3) := by decide +kernel
theorem dL_act_4 : decode cL_act 4 = .ok (.arraylength, 1) := by decide +kernel
theorem dL_act_5 : decode cL_act 5 = .ok (.ifCond .ne 7, 3) := by decide +kernel
theorem dL_act_8 : decode cL_act 8 = .ok (.iconst (-1), 1) := by decide +kernel
theorem dL_act_9 : decode cL_act 9 = .ok (.goto 14, 3) := by decide +kernel
theorem dL_act_12 : decode cL_act 12 = .ok (.iload_n 2, 1) := by decide +kernel
theorem dL_act_13 : decode cL_act 13 = .ok (.iconst 3, 1) := by decide +kernel
theorem dL_act_14 : decode cL_act 14 = .ok (.ishr, 1) := by decide +kernel
theorem dL_act_15 : decode cL_act 15 = .ok (.aload_n 1, 1) := by decide +kernel
theorem dL_act_16 : decode cL_act 16 = .ok (.getfield 9, 3) := by decide +kernel
theorem dL_act_19 : decode cL_act 19 = .ok (.arraylength, 1) := by decide +kernel
theorem dL_act_20 : decode cL_act 20 = .ok (.invokestatic 15, 3) := by decide +kernel
theorem dL_act_23 : decode cL_act 23 = .ok (.istore_n 3, 1) := by decide +kernel
theorem dL_act_24 : decode cL_act 24 = .ok (.aload_n 1, 1) := by decide +kernel
theorem dL_act_25 : decode cL_act 25 = .ok (.getfield 21, 3) := by decide +kernel
theorem dL_act_28 : decode cL_act 28 = .ok (.arraylength, 1) := by decide +kernel
theorem dL_act_29 : decode cL_act 29 = .ok (.ifCond .ne 7, 3) := by decide +kernel
theorem dL_act_32 : decode cL_act 32 = .ok (.iconst (-1), 1) := by decide +kernel
theorem dL_act_33 : decode cL_act 33 = .ok (.goto 14, 3) := by decide +kernel
theorem dL_act_36 : decode cL_act 36 = .ok (.iload_n 2, 1) := by decide +kernel
theorem dL_act_37 : decode cL_act 37 = .ok (.iconst 5, 1) := by decide +kernel
theorem dL_act_38 : decode cL_act 38 = .ok (.ishr, 1) := by decide +kernel
theorem dL_act_39 : decode cL_act 39 = .ok (.aload_n 1, 1) := by decide +kernel
theorem dL_act_40 : decode cL_act 40 = .ok (.getfield 21, 3) := by decide +kernel
theorem dL_act_43 : decode cL_act 43 = .ok (.arraylength, 1) := by decide +kernel
theorem dL_act_44 : decode cL_act 44 = .ok (.invokestatic 15, 3) := by decide +kernel
theorem dL_act_47 : decode cL_act 47 = .ok (.istore 4, 2) := by decide +kernel
theorem dL_act_49 : decode cL_act 49 = .ok (.iload_n 2, 1) := by decide +kernel
theorem dL_act_50 : decode cL_act 50 = .ok (.bipush 12, 2) := by decide +kernel
theorem dL_act_52 : decode cL_act 52 = .ok (.invokestatic 15, 3) := by decide +kernel
theorem dL_act_55 : decode cL_act 55 = .ok (.tableswitch 644 0 9 #[53, 53, 149, 207, 249, 292, 292, 292, 500, 500], 53) := by decide +kernel
theorem dL_act_108 : decode cL_act 108 = .ok (.iload_n 2, 1) := by decide +kernel
theorem dL_act_109 : decode cL_act 109 = .ok (.iconst 3, 1) := by decide +kernel
theorem dL_act_110 : decode cL_act 110 = .ok (.ishr, 1) := by decide +kernel
theorem dL_act_111 : decode cL_act 111 = .ok (.iconst 4, 1) := by decide +kernel
theorem dL_act_112 : decode cL_act 112 = .ok (.invokestatic 15, 3) := by decide +kernel
theorem dL_act_115 : decode cL_act 115 = .ok (.istore 6, 2) := by decide +kernel
theorem dL_act_117 : decode cL_act 117 = .ok (.iconst 1, 1) := by decide +kernel
theorem dL_act_118 : decode cL_act 118 = .ok (.iload_n 2, 1) := by decide +kernel
theorem dL_act_119 : decode cL_act 119 = .ok (.iconst 4, 1) := by decide +kernel
theorem dL_act_120 : decode cL_act 120 = .ok (.ishr, 1) := by decide +kernel
theorem dL_act_121 : decode cL_act 121 = .ok (.iload_n 2, 1) := by decide +kernel
theorem dL_act_122 : decode cL_act 122 = .ok (.bipush 8, 2) := by decide +kernel
theorem dL_act_124 : decode cL_act 124 = .ok (.ishr, 1) := by decide +kernel
theorem dL_act_125 : decode cL_act 125 = .ok (.iconst 3, 1) := by decide +kernel
theorem dL_act_126 : decode cL_act 126 = .ok (.invokestatic 15, 3) := by decide +kernel
theorem dL_act_129 : decode cL_act 129 = .ok (.ifCond .ne 9, 3) := by decide +kernel
theorem dL_act_132 : decode cL_act 132 = .ok (.sipush 300, 3) := by decide +kernel
theorem dL_act_135 : decode cL_act 135 = .ok (.goto 5, 3) := by decide +kernel
theorem dL_act_138 : decode cL_act 138 = .ok (.bipush 80, 2) := by decide +kernel
theorem dL_act_140 : decode cL_act 140 = .ok (.invokestatic 15, 3) := by decide +kernel
theorem dL_act_143 : decode cL_act 143 = .ok (.iadd, 1) := by decide +kernel
theorem dL_act_144 : decode cL_act 144 = .ok (.istore 7, 2) := by decide +kernel
theorem dL_act_146 : decode cL_act 146 = .ok (.aload_n 1, 1) := by decide +kernel
theorem dL_act_147 : decode cL_act 147 = .ok (.getfield 24, 3) := by decide +kernel
theorem dL_act_150 : decode cL_act 150 = .ok (.iload 6, 2) := by decide +kernel
theorem dL_act_152 : decode cL_act 152 = .ok (.iload 6, 2) := by decide +kernel
theorem dL_act_154 : decode cL_act 154 = .ok (.ifCond .ne 9, 3) := by decide +kernel
theorem dL_act_157 : decode cL_act 157 = .ok (.sipush 900, 3) := by decide +kernel
theorem dL_act_160 : decode cL_act 160 = .ok (.goto 6, 3) := by decide +kernel
theorem dL_act_163 : decode cL_act 163 = .ok (.sipush 300, 3) := by decide +kernel
theorem dL_act_166 : decode cL_act 166 = .ok (.aload_n 1, 1) := by decide +kernel
theorem dL_act_167 : decode cL_act 167 = .ok (.getfield 24, 3) := by decide +kernel
theorem dL_act_170 : decode cL_act 170 = .ok (.iload 6, 2) := by decide +kernel
theorem dL_act_172 : decode cL_act 172 = .ok (.iaload, 1) := by decide +kernel
theorem dL_act_173 : decode cL_act 173 = .ok (.iload 7, 2) := by decide +kernel
theorem dL_act_175 : decode cL_act 175 = .ok (.iadd, 1) := by decide +kernel
theorem dL_act_176 : decode cL_act 176 = .ok (.invokestatic 28, 3) := by decide +kernel
theorem dL_act_179 : decode cL_act 179 = .ok (.iastore, 1) := by decide +kernel
theorem dL_act_180 : decode cL_act 180 = .ok (.aload_n 0, 1) := by decide +kernel
theorem dL_act_181 : decode cL_act 181 = .ok (.iload 6, 2) := by decide +kernel
theorem dL_act_183 : decode cL_act 183 = .ok (.iload 7, 2) := by decide +kernel
theorem dL_act_185 : decode cL_act 185 = .ok (.invokevirtual 33, 3) := by decide +kernel
theorem dL_act_188 : decode cL_act 188 = .ok (.aload_n 1, 1) := by decide +kernel
theorem dL_act_189 : decode cL_act 189 = .ok (.getfield 24, 3) := by decide +kernel
theorem dL_act_192 : decode cL_act 192 = .ok (.iload 6, 2) := by decide +kernel
theorem dL_act_194 : decode cL_act 194 = .ok (.iaload, 1) := by decide +kernel
theorem dL_act_195 : decode cL_act 195 = .ok (.if_icmp .ne 7, 3) := by decide +kernel
theorem dL_act_198 : decode cL_act 198 = .ok (.iconst 1, 1) := by decide +kernel
theorem dL_act_199 : decode cL_act 199 = .ok (.goto 4, 3) := by decide +kernel
theorem dL_act_202 : decode cL_act 202 = .ok (.iconst 0, 1) := by decide +kernel
theorem dL_act_203 : decode cL_act 203 = .ok (.ireturn, 1) := by decide +kernel
theorem dL_act_204 : decode cL_act 204 = .ok (.iload_n 2, 1) := by decide +kernel
theorem dL_act_205 : decode cL_act 205 = .ok (.iconst 4, 1) := by decide +kernel
theorem dL_act_206 : decode cL_act 206 = .ok (.ishr, 1) := by decide +kernel
theorem dL_act_207 : decode cL_act 207 = .ok (.bipush 7, 2) := by decide +kernel
theorem dL_act_209 : decode cL_act 209 = .ok (.invokestatic 15, 3) := by decide +kernel
theorem dL_act_212 : decode cL_act 212 = .ok (.istore 6, 2) := by decide +kernel
theorem dL_act_214 : decode cL_act 214 = .ok (.aload_n 1, 1) := by decide +kernel
theorem dL_act_215 : decode cL_act 215 = .ok (.getfield 38, 3) := by decide +kernel
theorem dL_act_218 : decode cL_act 218 = .ok (.iload 6, 2) := by decide +kernel
theorem dL_act_220 : decode cL_act 220 = .ok (.iaload, 1) := by decide +kernel
theorem dL_act_221 : decode cL_act 221 = .ok (.istore 7, 2) := by decide +kernel
theorem dL_act_223 : decode cL_act 223 = .ok (.aload_n 1, 1) := by decide +kernel
theorem dL_act_224 : decode cL_act 224 = .ok (.getfield 38, 3) := by decide +kernel
theorem dL_act_227 : decode cL_act 227 = .ok (.iload 6, 2) := by decide +kernel
theorem dL_act_229 : decode cL_act 229 = .ok (.iload_n 2, 1) := by decide +kernel
theorem dL_act_230 : decode cL_act 230 = .ok (.iconst 5, 1) := by decide +kernel
theorem dL_act_231 : decode cL_act 231 = .ok (.ishr, 1) := by decide +kernel
theorem dL_act_232 : decode cL_act 232 = .ok (.bipush 41, 2) := by decide +kernel
theorem dL_act_234 : decode cL_act 234 = .ok (.invokestatic 15, 3) := by decide +kernel
theorem dL_act_237 : decode cL_act 237 = .ok (.iastore, 1) := by decide +kernel
theorem dL_act_238 : decode cL_act 238 = .ok (.aload_n 0, 1) := by decide +kernel
theorem dL_act_239 : decode cL_act 239 = .ok (.iload 6, 2) := by decide +kernel
theorem dL_act_241 : decode cL_act 241 = .ok (.aload_n 1, 1) := by decide +kernel
theorem dL_act_242 : decode cL_act 242 = .ok (.getfield 38, 3) := by decide +kernel
theorem dL_act_245 : decode cL_act 245 = .ok (.iload 6, 2) := by decide +kernel
theorem dL_act_247 : decode cL_act 247 = .ok (.iaload, 1) := by decide +kernel
theorem dL_act_248 : decode cL_act 248 = .ok (.invokevirtual 41, 3) := by decide +kernel
theorem dL_act_251 : decode cL_act 251 = .ok (.iload 7, 2) := by decide +kernel
theorem dL_act_253 : decode cL_act 253 = .ok (.if_icmp .ne 7, 3) := by decide +kernel
theorem dL_act_256 : decode cL_act 256 = .ok (.iconst 1, 1) := by decide +kernel
theorem dL_act_257 : decode cL_act 257 = .ok (.goto 4, 3) := by decide +kernel
theorem dL_act_260 : decode cL_act 260 = .ok (.iconst 0, 1) := by decide +kernel
theorem dL_act_261 : decode cL_act 261 = .ok (.ireturn, 1) := by decide +kernel
theorem dL_act_262 : decode cL_act 262 = .ok (.aload_n 1, 1) := by decide +kernel
theorem dL_act_263 : decode cL_act 263 = .ok (.getfield 9, 3) := by decide +kernel
theorem dL_act_266 : decode cL_act 266 = .ok (.arraylength, 1) := by decide +kernel
theorem dL_act_267 : decode cL_act 267 = .ok (.iconst 4, 1) := by decide +kernel
theorem dL_act_268 : decode cL_act 268 = .ok (.if_icmp .ne 5, 3) := by decide +kernel
theorem dL_act_271 : decode cL_act 271 = .ok (.iconst 1, 1) := by decide +kernel
theorem dL_act_272 : decode cL_act 272 = .ok (.ireturn, 1) := by decide +kernel
theorem dL_act_273 : decode cL_act 273 = .ok (.aload_n 1, 1) := by decide +kernel
theorem dL_act_274 : decode cL_act 274 = .ok (.aload_n 1, 1) := by decide +kernel
theorem dL_act_275 : decode cL_act 275 = .ok (.getfield 9, 3) := by decide +kernel
theorem dL_act_278 : decode cL_act 278 = .ok (.invokestatic 44, 3) := by decide +kernel
theorem dL_act_281 : decode cL_act 281 = .ok (.putfield 9, 3) := by decide +kernel
theorem dL_act_284 : decode cL_act 284 = .ok (.aload_n 0, 1) := by decide +kernel
theorem dL_act_285 : decode cL_act 285 = .ok (.invokevirtual 48, 3) := by decide +kernel
theorem dL_act_288 : decode cL_act 288 = .ok (.aload_n 1, 1) := by decide +kernel
theorem dL_act_289 : decode cL_act 289 = .ok (.getfield 9, 3) := by decide +kernel
theorem dL_act_292 : decode cL_act 292 = .ok (.arraylength, 1) := by decide +kernel
theorem dL_act_293 : decode cL_act 293 = .ok (.iconst 1, 1) := by decide +kernel
theorem dL_act_294 : decode cL_act 294 = .ok (.isub, 1) := by decide +kernel
theorem dL_act_295 : decode cL_act 295 = .ok (.if_icmp .ne 7, 3) := by decide +kernel
theorem dL_act_298 : decode cL_act 298 = .ok (.iconst 1, 1) := by decide +kernel
theorem dL_act_299 : decode cL_act 299 = .ok (.goto 4, 3) := by decide +kernel
theorem dL_act_302 : decode cL_act 302 = .ok (.iconst 0, 1) := by decide +kernel
theorem dL_act_303 : decode cL_act 303 = .ok (.ireturn, 1) := by decide +kernel
theorem dL_act_304 : decode cL_act 304 = .ok (.aload_n 1, 1) := by decide +kernel
theorem dL_act_305 : decode cL_act 305 = .ok (.getfield 21, 3) := by decide +kernel
theorem dL_act_308 : decode cL_act 308 = .ok (.arraylength, 1) := by decide +kernel
theorem dL_act_309 : decode cL_act 309 = .ok (.bipush 6, 2) := by decide +kernel
theorem dL_act_311 : decode cL_act 311 = .ok (.if_icmp .ne 5, 3) := by decide +kernel
theorem dL_act_314 : decode cL_act 314 = .ok (.iconst 1, 1) := by decide +kernel
theorem dL_act_315 : decode cL_act 315 = .ok (.ireturn, 1) := by decide +kernel
theorem dL_act_316 : decode cL_act 316 = .ok (.aload_n 1, 1) := by decide +kernel
theorem dL_act_317 : decode cL_act 317 = .ok (.aload_n 1, 1) := by decide +kernel
theorem dL_act_318 : decode cL_act 318 = .ok (.getfield 21, 3) := by decide +kernel
theorem dL_act_321 : decode cL_act 321 = .ok (.invokestatic 44, 3) := by decide +kernel
theorem dL_act_324 : decode cL_act 324 = .ok (.putfield 21, 3) := by decide +kernel
theorem dL_act_327 : decode cL_act 327 = .ok (.aload_n 0, 1) := by decide +kernel
theorem dL_act_328 : decode cL_act 328 = .ok (.invokevirtual 52, 3) := by decide +kernel
theorem dL_act_331 : decode cL_act 331 = .ok (.aload_n 1, 1) := by decide +kernel
theorem dL_act_332 : decode cL_act 332 = .ok (.getfield 21, 3) := by decide +kernel
theorem dL_act_335 : decode cL_act 335 = .ok (.arraylength, 1) := by decide +kernel
theorem dL_act_336 : decode cL_act 336 = .ok (.iconst 1, 1) := by decide +kernel
theorem dL_act_337 : decode cL_act 337 = .ok (.isub, 1) := by decide +kernel
theorem dL_act_338 : decode cL_act 338 = .ok (.if_icmp .ne 7, 3) := by decide +kernel
theorem dL_act_341 : decode cL_act 341 = .ok (.iconst 1, 1) := by decide +kernel
theorem dL_act_342 : decode cL_act 342 = .ok (.goto 4, 3) := by decide +kernel
theorem dL_act_345 : decode cL_act 345 = .ok (.iconst 0, 1) := by decide +kernel
theorem dL_act_346 : decode cL_act 346 = .ok (.ireturn, 1) := by decide +kernel
theorem dL_act_347 : decode cL_act 347 = .ok (.iload_n 3, 1) := by decide +kernel
theorem dL_act_348 : decode cL_act 348 = .ok (.ifCond .ge 5, 3) := by decide +kernel
theorem dL_act_351 : decode cL_act 351 = .ok (.iconst 1, 1) := by decide +kernel
theorem dL_act_352 : decode cL_act 352 = .ok (.ireturn, 1) := by decide +kernel
theorem dL_act_353 : decode cL_act 353 = .ok (.iload_n 2, 1) := by decide +kernel
theorem dL_act_354 : decode cL_act 354 = .ok (.iconst 5, 1) := by decide +kernel
theorem dL_act_355 : decode cL_act 355 = .ok (.ishr, 1) := by decide +kernel
theorem dL_act_356 : decode cL_act 356 = .ok (.bipush 61, 2) := by decide +kernel
theorem dL_act_358 : decode cL_act 358 = .ok (.invokestatic 15, 3) := by decide +kernel
theorem dL_act_361 : decode cL_act 361 = .ok (.istore 6, 2) := by decide +kernel
theorem dL_act_363 : decode cL_act 363 = .ok (.iload_n 2, 1) := by decide +kernel
theorem dL_act_364 : decode cL_act 364 = .ok (.bipush 7, 2) := by decide +kernel
theorem dL_act_366 : decode cL_act 366 = .ok (.ishr, 1) := by decide +kernel
theorem dL_act_367 : decode cL_act 367 = .ok (.iload_n 2, 1) := by decide +kernel
theorem dL_act_368 : decode cL_act 368 = .ok (.iconst 4, 1) := by decide +kernel
theorem dL_act_369 : decode cL_act 369 = .ok (.ishr, 1) := by decide +kernel
theorem dL_act_370 : decode cL_act 370 = .ok (.iconst 3, 1) := by decide +kernel
theorem dL_act_371 : decode cL_act 371 = .ok (.invokestatic 15, 3) := by decide +kernel
theorem dL_act_374 : decode cL_act 374 = .ok (.ifCond .ne 8, 3) := by decide +kernel
theorem dL_act_377 : decode cL_act 377 = .ok (.bipush 61, 2) := by decide +kernel
theorem dL_act_379 : decode cL_act 379 = .ok (.goto 5, 3) := by decide +kernel
theorem dL_act_382 : decode cL_act 382 = .ok (.bipush 20, 2) := by decide +kernel
theorem dL_act_384 : decode cL_act 384 = .ok (.invokestatic 15, 3) := by decide +kernel
theorem dL_act_387 : decode cL_act 387 = .ok (.istore 7, 2) := by decide +kernel
theorem dL_act_389 : decode cL_act 389 = .ok (.iload 6, 2) := by decide +kernel
theorem dL_act_391 : decode cL_act 391 = .ok (.aload_n 1, 1) := by decide +kernel
theorem dL_act_392 : decode cL_act 392 = .ok (.getfield 24, 3) := by decide +kernel
theorem dL_act_395 : decode cL_act 395 = .ok (.iconst 0, 1) := by decide +kernel
theorem dL_act_396 : decode cL_act 396 = .ok (.iaload, 1) := by decide +kernel
theorem dL_act_397 : decode cL_act 397 = .ok (.if_icmp .gt 18, 3) := by decide +kernel
theorem dL_act_400 : decode cL_act 400 = .ok (.iload 7, 2) := by decide +kernel
theorem dL_act_402 : decode cL_act 402 = .ok (.aload_n 1, 1) := by decide +kernel
theorem dL_act_403 : decode cL_act 403 = .ok (.getfield 24, 3) := by decide +kernel
theorem dL_act_406 : decode cL_act 406 = .ok (.iconst 1, 1) := by decide +kernel
theorem dL_act_407 : decode cL_act 407 = .ok (.iaload, 1) := by decide +kernel
theorem dL_act_408 : decode cL_act 408 = .ok (.if_icmp .gt 7, 3) := by decide +kernel
theorem dL_act_411 : decode cL_act 411 = .ok (.iconst 1, 1) := by decide +kernel
theorem dL_act_412 : decode cL_act 412 = .ok (.goto 4, 3) := by decide +kernel
theorem dL_act_415 : decode cL_act 415 = .ok (.iconst 0, 1) := by decide +kernel
theorem dL_act_416 : decode cL_act 416 = .ok (.istore 8, 2) := by decide +kernel
theorem dL_act_418 : decode cL_act 418 = .ok (.iload 8, 2) := by decide +kernel
theorem dL_act_420 : decode cL_act 420 = .ok (.ifCond .eq 88, 3) := by decide +kernel
theorem dL_act_423 : decode cL_act 423 = .ok (.aload_n 1, 1) := by decide +kernel
theorem dL_act_424 : decode cL_act 424 = .ok (.getfield 24, 3) := by decide +kernel
theorem dL_act_427 : decode cL_act 427 = .ok (.iconst 0, 1) := by decide +kernel
theorem dL_act_428 : decode cL_act 428 = .ok (.dup2, 1) := by decide +kernel
theorem dL_act_429 : decode cL_act 429 = .ok (.iaload, 1) := by decide +kernel
theorem dL_act_430 : decode cL_act 430 = .ok (.iload 6, 2) := by decide +kernel
theorem dL_act_432 : decode cL_act 432 = .ok (.isub, 1) := by decide +kernel
theorem dL_act_433 : decode cL_act 433 = .ok (.iastore, 1) := by decide +kernel
theorem dL_act_434 : decode cL_act 434 = .ok (.aload_n 1, 1) := by decide +kernel
theorem dL_act_435 : decode cL_act 435 = .ok (.getfield 24, 3) := by decide +kernel
theorem dL_act_438 : decode cL_act 438 = .ok (.iconst 1, 1) := by decide +kernel
theorem dL_act_439 : decode cL_act 439 = .ok (.dup2, 1) := by decide +kernel
theorem dL_act_440 : decode cL_act 440 = .ok (.iaload, 1) := by decide +kernel
theorem dL_act_441 : decode cL_act 441 = .ok (.iload 7, 2) := by decide +kernel
theorem dL_act_443 : decode cL_act 443 = .ok (.isub, 1) := by decide +kernel
theorem dL_act_444 : decode cL_act 444 = .ok (.iastore, 1) := by decide +kernel
theorem dL_act_445 : decode cL_act 445 = .ok (.iload 6, 2) := by decide +kernel
theorem dL_act_447 : decode cL_act 447 = .ok (.iconst 4, 1) := by decide +kernel
theorem dL_act_448 : decode cL_act 448 = .ok (.idiv, 1) := by decide +kernel
theorem dL_act_449 : decode cL_act 449 = .ok (.istore 9, 2) := by decide +kernel
theorem dL_act_451 : decode cL_act 451 = .ok (.aload_n 1, 1) := by decide +kernel
theorem dL_act_452 : decode cL_act 452 = .ok (.getfield 9, 3) := by decide +kernel
theorem dL_act_455 : decode cL_act 455 = .ok (.iload_n 3, 1) := by decide +kernel
theorem dL_act_456 : decode cL_act 456 = .ok (.aaload, 1) := by decide +kernel
theorem dL_act_457 : decode cL_act 457 = .ok (.iconst 0, 1) := by decide +kernel
theorem dL_act_458 : decode cL_act 458 = .ok (.dup2, 1) := by decide +kernel
theorem dL_act_459 : decode cL_act 459 = .ok (.iaload, 1) := by decide +kernel
theorem dL_act_460 : decode cL_act 460 = .ok (.iload 9, 2) := by decide +kernel
theorem dL_act_462 : decode cL_act 462 = .ok (.iload 7, 2) := by decide +kernel
theorem dL_act_464 : decode cL_act 464 = .ok (.iload 9, 2) := by decide +kernel
theorem dL_act_466 : decode cL_act 466 = .ok (.iload 9, 2) := by decide +kernel
theorem dL_act_468 : decode cL_act 468 = .ok (.iadd, 1) := by decide +kernel
theorem dL_act_469 : decode cL_act 469 = .ok (.if_icmp .le 11, 3) := by decide +kernel
theorem dL_act_472 : decode cL_act 472 = .ok (.iload 9, 2) := by decide +kernel
theorem dL_act_474 : decode cL_act 474 = .ok (.iload 9, 2) := by decide +kernel
theorem dL_act_476 : decode cL_act 476 = .ok (.iadd, 1) := by decide +kernel
theorem dL_act_477 : decode cL_act 477 = .ok (.goto 5, 3) := by decide +kernel
theorem dL_act_480 : decode cL_act 480 = .ok (.iload 7, 2) := by decide +kernel
theorem dL_act_482 : decode cL_act 482 = .ok (.iadd, 1) := by decide +kernel
theorem dL_act_483 : decode cL_act 483 = .ok (.iadd, 1) := by decide +kernel
theorem dL_act_484 : decode cL_act 484 = .ok (.iastore, 1) := by decide +kernel
theorem dL_act_485 : decode cL_act 485 = .ok (.aload_n 1, 1) := by decide +kernel
theorem dL_act_486 : decode cL_act 486 = .ok (.getfield 9, 3) := by decide +kernel
theorem dL_act_489 : decode cL_act 489 = .ok (.iload_n 3, 1) := by decide +kernel
theorem dL_act_490 : decode cL_act 490 = .ok (.aaload, 1) := by decide +kernel
theorem dL_act_491 : decode cL_act 491 = .ok (.iconst 0, 1) := by decide +kernel
theorem dL_act_492 : decode cL_act 492 = .ok (.iaload, 1) := by decide +kernel
theorem dL_act_493 : decode cL_act 493 = .ok (.bipush 30, 2) := by decide +kernel
theorem dL_act_495 : decode cL_act 495 = .ok (.if_icmp .le 13, 3) := by decide +kernel
theorem dL_act_498 : decode cL_act 498 = .ok (.aload_n 1, 1) := by decide +kernel
theorem dL_act_499 : decode cL_act 499 = .ok (.getfield 9, 3) := by decide +kernel
theorem dL_act_502 : decode cL_act 502 = .ok (.iload_n 3, 1) := by decide +kernel
theorem dL_act_503 : decode cL_act 503 = .ok (.aaload, 1) := by decide +kernel
theorem dL_act_504 : decode cL_act 504 = .ok (.iconst 0, 1) := by decide +kernel
theorem dL_act_505 : decode cL_act 505 = .ok (.bipush 30, 2) := by decide +kernel
theorem dL_act_507 : decode cL_act 507 = .ok (.iastore, 1) := by decide +kernel
theorem dL_act_508 : decode cL_act 508 = .ok (.aload_n 0, 1) := by decide +kernel
theorem dL_act_509 : decode cL_act 509 = .ok (.iload_n 3, 1) := by decide +kernel
theorem dL_act_510 : decode cL_act 510 = .ok (.iload 6, 2) := by decide +kernel
theorem dL_act_512 : decode cL_act 512 = .ok (.iload 7, 2) := by decide +kernel
theorem dL_act_514 : decode cL_act 514 = .ok (.invokevirtual 55, 3) := by decide +kernel
theorem dL_act_517 : decode cL_act 517 = .ok (.istore 5, 2) := by decide +kernel
theorem dL_act_519 : decode cL_act 519 = .ok (.goto 8, 3) := by decide +kernel
theorem dL_act_522 : decode cL_act 522 = .ok (.astore 9, 2) := by decide +kernel
theorem dL_act_524 : decode cL_act 524 = .ok (.iconst (-1), 1) := by decide +kernel
theorem dL_act_525 : decode cL_act 525 = .ok (.istore 5, 2) := by decide +kernel
theorem dL_act_527 : decode cL_act 527 = .ok (.iload 5, 2) := by decide +kernel
theorem dL_act_529 : decode cL_act 529 = .ok (.iload 8, 2) := by decide +kernel
theorem dL_act_531 : decode cL_act 531 = .ok (.ifCond .eq 14, 3) := by decide +kernel
theorem dL_act_534 : decode cL_act 534 = .ok (.aload_n 1, 1) := by decide +kernel
theorem dL_act_535 : decode cL_act 535 = .ok (.getfield 9, 3) := by decide +kernel
theorem dL_act_538 : decode cL_act 538 = .ok (.iload_n 3, 1) := by decide +kernel
theorem dL_act_539 : decode cL_act 539 = .ok (.aaload, 1) := by decide +kernel
theorem dL_act_540 : decode cL_act 540 = .ok (.iconst 0, 1) := by decide +kernel
theorem dL_act_541 : decode cL_act 541 = .ok (.iaload, 1) := by decide +kernel
theorem dL_act_542 : decode cL_act 542 = .ok (.goto 4, 3) := by decide +kernel
theorem dL_act_545 : decode cL_act 545 = .ok (.iconst (-1), 1) := by decide +kernel
theorem dL_act_546 : decode cL_act 546 = .ok (.if_icmp .ne 7, 3) := by decide +kernel
theorem dL_act_549 : decode cL_act 549 = .ok (.iconst 1, 1) := by decide +kernel
theorem dL_act_550 : decode cL_act 550 = .ok (.goto 4, 3) := by decide +kernel
theorem dL_act_553 : decode cL_act 553 = .ok (.iconst 0, 1) := by decide +kernel
theorem dL_act_554 : decode cL_act 554 = .ok (.ireturn, 1) := by decide +kernel
theorem dL_act_555 : decode cL_act 555 = .ok (.iload_n 3, 1) := by decide +kernel
theorem dL_act_556 : decode cL_act 556 = .ok (.ifCond .ge 5, 3) := by decide +kernel
theorem dL_act_559 : decode cL_act 559 = .ok (.iconst 1, 1) := by decide +kernel
theorem dL_act_560 : decode cL_act 560 = .ok (.ireturn, 1) := by decide +kernel
theorem dL_act_561 : decode cL_act 561 = .ok (.iconst 1, 1) := by decide +kernel
theorem dL_act_562 : decode cL_act 562 = .ok (.iload_n 2, 1) := by decide +kernel
theorem dL_act_563 : decode cL_act 563 = .ok (.bipush 6, 2) := by decide +kernel
theorem dL_act_565 : decode cL_act 565 = .ok (.ishr, 1) := by decide +kernel
theorem dL_act_566 : decode cL_act 566 = .ok (.bipush 20, 2) := by decide +kernel
theorem dL_act_568 : decode cL_act 568 = .ok (.invokestatic 15, 3) := by decide +kernel
theorem dL_act_571 : decode cL_act 571 = .ok (.iadd, 1) := by decide +kernel
theorem dL_act_572 : decode cL_act 572 = .ok (.istore 6, 2) := by decide +kernel
theorem dL_act_574 : decode cL_act 574 = .ok (.aload_n 1, 1) := by decide +kernel
theorem dL_act_575 : decode cL_act 575 = .ok (.getfield 9, 3) := by decide +kernel
theorem dL_act_578 : decode cL_act 578 = .ok (.iload_n 3, 1) := by decide +kernel
theorem dL_act_579 : decode cL_act 579 = .ok (.aaload, 1) := by decide +kernel
theorem dL_act_580 : decode cL_act 580 = .ok (.astore 7, 2) := by decide +kernel
theorem dL_act_582 : decode cL_act 582 = .ok (.iload 6, 2) := by decide +kernel
theorem dL_act_584 : decode cL_act 584 = .ok (.aload_n 1, 1) := by decide +kernel
theorem dL_act_585 : decode cL_act 585 = .ok (.getfield 24, 3) := by decide +kernel
theorem dL_act_588 : decode cL_act 588 = .ok (.iconst 2, 1) := by decide +kernel
theorem dL_act_589 : decode cL_act 589 = .ok (.iaload, 1) := by decide +kernel
theorem dL_act_590 : decode cL_act 590 = .ok (.if_icmp .gt 19, 3) := by decide +kernel
theorem dL_act_593 : decode cL_act 593 = .ok (.aload 7, 2) := by decide +kernel
theorem dL_act_595 : decode cL_act 595 = .ok (.iconst 1, 1) := by decide +kernel
theorem dL_act_596 : decode cL_act 596 = .ok (.iaload, 1) := by decide +kernel
theorem dL_act_597 : decode cL_act 597 = .ok (.iload 6, 2) := by decide +kernel
theorem dL_act_599 : decode cL_act 599 = .ok (.iadd, 1) := by decide +kernel
theorem dL_act_600 : decode cL_act 600 = .ok (.bipush 20, 2) := by decide +kernel
theorem dL_act_602 : decode cL_act 602 = .ok (.if_icmp .gt 7, 3) := by decide +kernel
theorem dL_act_605 : decode cL_act 605 = .ok (.iconst 1, 1) := by decide +kernel
theorem dL_act_606 : decode cL_act 606 = .ok (.goto 4, 3) := by decide +kernel
theorem dL_act_609 : decode cL_act 609 = .ok (.iconst 0, 1) := by decide +kernel
theorem dL_act_610 : decode cL_act 610 = .ok (.istore 8, 2) := by decide +kernel
theorem dL_act_612 : decode cL_act 612 = .ok (.iload 8, 2) := by decide +kernel
theorem dL_act_614 : decode cL_act 614 = .ok (.ifCond .eq 44, 3) := by decide +kernel
theorem dL_act_617 : decode cL_act 617 = .ok (.aload_n 1, 1) := by decide +kernel
theorem dL_act_618 : decode cL_act 618 = .ok (.getfield 24, 3) := by decide +kernel
theorem dL_act_621 : decode cL_act 621 = .ok (.iconst 2, 1) := by decide +kernel
theorem dL_act_622 : decode cL_act 622 = .ok (.dup2, 1) := by decide +kernel
theorem dL_act_623 : decode cL_act 623 = .ok (.iaload, 1) := by decide +kernel
theorem dL_act_624 : decode cL_act 624 = .ok (.iload 6, 2) := by decide +kernel
theorem dL_act_626 : decode cL_act 626 = .ok (.isub, 1) := by decide +kernel
theorem dL_act_627 : decode cL_act 627 = .ok (.iastore, 1) := by decide +kernel
theorem dL_act_628 : decode cL_act 628 = .ok (.aload 7, 2) := by decide +kernel
theorem dL_act_630 : decode cL_act 630 = .ok (.iconst 2, 1) := by decide +kernel
theorem dL_act_631 : decode cL_act 631 = .ok (.aload 7, 2) := by decide +kernel
theorem dL_act_633 : decode cL_act 633 = .ok (.iconst 2, 1) := by decide +kernel
theorem dL_act_634 : decode cL_act 634 = .ok (.iaload, 1) := by decide +kernel
theorem dL_act_635 : decode cL_act 635 = .ok (.aload 7, 2) := by decide +kernel
theorem dL_act_637 : decode cL_act 637 = .ok (.iconst 1, 1) := by decide +kernel
theorem dL_act_638 : decode cL_act 638 = .ok (.iaload, 1) := by decide +kernel
theorem dL_act_639 : decode cL_act 639 = .ok (.imul, 1) := by decide +kernel
theorem dL_act_640 : decode cL_act 640 = .ok (.aload 7, 2) := by decide +kernel
theorem dL_act_642 : decode cL_act 642 = .ok (.iconst 1, 1) := by decide +kernel
theorem dL_act_643 : decode cL_act 643 = .ok (.iaload, 1) := by decide +kernel
theorem dL_act_644 : decode cL_act 644 = .ok (.iload 6, 2) := by decide +kernel
theorem dL_act_646 : decode cL_act 646 = .ok (.iadd, 1) := by decide +kernel
theorem dL_act_647 : decode cL_act 647 = .ok (.idiv, 1) := by decide +kernel
theorem dL_act_648 : decode cL_act 648 = .ok (.iastore, 1) := by decide +kernel
theorem dL_act_649 : decode cL_act 649 = .ok (.aload 7, 2) := by decide +kernel
theorem dL_act_651 : decode cL_act 651 = .ok (.iconst 1, 1) := by decide +kernel
theorem dL_act_652 : decode cL_act 652 = .ok (.dup2, 1) := by decide +kernel
theorem dL_act_653 : decode cL_act 653 = .ok (.iaload, 1) := by decide +kernel
theorem dL_act_654 : decode cL_act 654 = .ok (.iload 6, 2) := by decide +kernel
theorem dL_act_656 : decode cL_act 656 = .ok (.iadd, 1) := by decide +kernel
theorem dL_act_657 : decode cL_act 657 = .ok (.iastore, 1) := by decide +kernel
theorem dL_act_658 : decode cL_act 658 = .ok (.aload_n 0, 1) := by decide +kernel
theorem dL_act_659 : decode cL_act 659 = .ok (.iload_n 3, 1) := by decide +kernel
theorem dL_act_660 : decode cL_act 660 = .ok (.iload 6, 2) := by decide +kernel
theorem dL_act_662 : decode cL_act 662 = .ok (.invokevirtual 61, 3) := by decide +kernel
theorem dL_act_665 : decode cL_act 665 = .ok (.istore 5, 2) := by decide +kernel
theorem dL_act_667 : decode cL_act 667 = .ok (.goto 8, 3) := by decide +kernel
theorem dL_act_670 : decode cL_act 670 = .ok (.astore 9, 2) := by decide +kernel
theorem dL_act_672 : decode cL_act 672 = .ok (.iconst (-1), 1) := by decide +kernel
theorem dL_act_673 : decode cL_act 673 = .ok (.istore 5, 2) := by decide +kernel
theorem dL_act_675 : decode cL_act 675 = .ok (.iload 5, 2) := by decide +kernel
theorem dL_act_677 : decode cL_act 677 = .ok (.iload 8, 2) := by decide +kernel
theorem dL_act_679 : decode cL_act 679 = .ok (.ifCond .eq 10, 3) := by decide +kernel
theorem dL_act_682 : decode cL_act 682 = .ok (.aload 7, 2) := by decide +kernel
theorem dL_act_684 : decode cL_act 684 = .ok (.iconst 2, 1) := by decide +kernel
theorem dL_act_685 : decode cL_act 685 = .ok (.iaload, 1) := by decide +kernel
theorem dL_act_686 : decode cL_act 686 = .ok (.goto 4, 3) := by decide +kernel
theorem dL_act_689 : decode cL_act 689 = .ok (.iconst (-1), 1) := by decide +kernel
theorem dL_act_690 : decode cL_act 690 = .ok (.if_icmp .ne 7, 3) := by decide +kernel
theorem dL_act_693 : decode cL_act 693 = .ok (.iconst 1, 1) := by decide +kernel
theorem dL_act_694 : decode cL_act 694 = .ok (.goto 4, 3) := by decide +kernel
theorem dL_act_697 : decode cL_act 697 = .ok (.iconst 0, 1) := by decide +kernel
theorem dL_act_698 : decode cL_act 698 = .ok (.ireturn, 1) := by decide +kernel
theorem dL_act_699 : decode cL_act 699 = .ok (.iload_n 3, 1) := by decide +kernel
theorem dL_act_700 : decode cL_act 700 = .ok (.ifCond .lt 8, 3) := by decide +kernel
theorem dL_act_703 : decode cL_act 703 = .ok (.iload 4, 2) := by decide +kernel
theorem dL_act_705 : decode cL_act 705 = .ok (.ifCond .ge 5, 3) := by decide +kernel
theorem dL_act_708 : decode cL_act 708 = .ok (.iconst 1, 1) := by decide +kernel
theorem dL_act_709 : decode cL_act 709 = .ok (.ireturn, 1) := by decide +kernel
theorem dL_act_710 : decode cL_act 710 = .ok (.aload_n 1, 1) := by decide +kernel
theorem dL_act_711 : decode cL_act 711 = .ok (.getfield 9, 3) := by decide +kernel
theorem dL_act_714 : decode cL_act 714 = .ok (.iload_n 3, 1) := by decide +kernel
theorem dL_act_715 : decode cL_act 715 = .ok (.aaload, 1) := by decide +kernel
theorem dL_act_716 : decode cL_act 716 = .ok (.astore 6, 2) := by decide +kernel
theorem dL_act_718 : decode cL_act 718 = .ok (.aload 6, 2) := by decide +kernel
theorem dL_act_720 : decode cL_act 720 = .ok (.iconst 1, 1) := by decide +kernel
theorem dL_act_721 : decode cL_act 721 = .ok (.iaload, 1) := by decide +kernel
theorem dL_act_722 : decode cL_act 722 = .ok (.ifCond .le 16, 3) := by decide +kernel
theorem dL_act_725 : decode cL_act 725 = .ok (.aload 6, 2) := by decide +kernel
theorem dL_act_727 : decode cL_act 727 = .ok (.iconst 2, 1) := by decide +kernel
theorem dL_act_728 : decode cL_act 728 = .ok (.iaload, 1) := by decide +kernel
theorem dL_act_729 : decode cL_act 729 = .ok (.bipush 50, 2) := by decide +kernel
theorem dL_act_731 : decode cL_act 731 = .ok (.if_icmp .lt 7, 3) := by decide +kernel
theorem dL_act_734 : decode cL_act 734 = .ok (.iconst 1, 1) := by decide +kernel
theorem dL_act_735 : decode cL_act 735 = .ok (.goto 4, 3) := by decide +kernel
theorem dL_act_738 : decode cL_act 738 = .ok (.iconst 0, 1) := by decide +kernel
theorem dL_act_739 : decode cL_act 739 = .ok (.istore 7, 2) := by decide +kernel
theorem dL_act_741 : decode cL_act 741 = .ok (.iload 7, 2) := by decide +kernel
theorem dL_act_743 : decode cL_act 743 = .ok (.ifCond .eq 71, 3) := by decide +kernel
theorem dL_act_746 : decode cL_act 746 = .ok (.aload_n 1, 1) := by decide +kernel
theorem dL_act_747 : decode cL_act 747 = .ok (.getfield 21, 3) := by decide +kernel
theorem dL_act_750 : decode cL_act 750 = .ok (.iload 4, 2) := by decide +kernel
theorem dL_act_752 : decode cL_act 752 = .ok (.aaload, 1) := by decide +kernel
theorem dL_act_753 : decode cL_act 753 = .ok (.iconst 0, 1) := by decide +kernel
theorem dL_act_754 : decode cL_act 754 = .ok (.bipush 60, 2) := by decide +kernel
theorem dL_act_756 : decode cL_act 756 = .ok (.aload_n 1, 1) := by decide +kernel
theorem dL_act_757 : decode cL_act 757 = .ok (.getfield 21, 3) := by decide +kernel
theorem dL_act_760 : decode cL_act 760 = .ok (.iload 4, 2) := by decide +kernel
theorem dL_act_762 : decode cL_act 762 = .ok (.aaload, 1) := by decide +kernel
theorem dL_act_763 : decode cL_act 763 = .ok (.iconst 0, 1) := by decide +kernel
theorem dL_act_764 : decode cL_act 764 = .ok (.iaload, 1) := by decide +kernel
theorem dL_act_765 : decode cL_act 765 = .ok (.iconst 2, 1) := by decide +kernel
theorem dL_act_766 : decode cL_act 766 = .ok (.aload 6, 2) := by decide +kernel
theorem dL_act_768 : decode cL_act 768 = .ok (.iconst 1, 1) := by decide +kernel
theorem dL_act_769 : decode cL_act 769 = .ok (.iaload, 1) := by decide +kernel
theorem dL_act_770 : decode cL_act 770 = .ok (.imul, 1) := by decide +kernel
theorem dL_act_771 : decode cL_act 771 = .ok (.iadd, 1) := by decide +kernel
theorem dL_act_772 : decode cL_act 772 = .ok (.invokestatic 28, 3) := by decide +kernel
theorem dL_act_775 : decode cL_act 775 = .ok (.iastore, 1) := by decide +kernel
theorem dL_act_776 : decode cL_act 776 = .ok (.aload_n 1, 1) := by decide +kernel
theorem dL_act_777 : decode cL_act 777 = .ok (.getfield 21, 3) := by decide +kernel
theorem dL_act_780 : decode cL_act 780 = .ok (.iload 4, 2) := by decide +kernel
theorem dL_act_782 : decode cL_act 782 = .ok (.aaload, 1) := by decide +kernel
theorem dL_act_783 : decode cL_act 783 = .ok (.iconst 1, 1) := by decide +kernel
theorem dL_act_784 : decode cL_act 784 = .ok (.aload_n 1, 1) := by decide +kernel
theorem dL_act_785 : decode cL_act 785 = .ok (.getfield 21, 3) := by decide +kernel
theorem dL_act_788 : decode cL_act 788 = .ok (.iload 4, 2) := by decide +kernel
theorem dL_act_790 : decode cL_act 790 = .ok (.aaload, 1) := by decide +kernel
theorem dL_act_791 : decode cL_act 791 = .ok (.iconst 1, 1) := by decide +kernel
theorem dL_act_792 : decode cL_act 792 = .ok (.iaload, 1) := by decide +kernel
theorem dL_act_793 : decode cL_act 793 = .ok (.bipush 100, 2) := by decide +kernel
theorem dL_act_795 : decode cL_act 795 = .ok (.aload 6, 2) := by decide +kernel
theorem dL_act_797 : decode cL_act 797 = .ok (.iconst 2, 1) := by decide +kernel
theorem dL_act_798 : decode cL_act 798 = .ok (.iaload, 1) := by decide +kernel
theorem dL_act_799 : decode cL_act 799 = .ok (.isub, 1) := by decide +kernel
theorem dL_act_800 : decode cL_act 800 = .ok (.invokestatic 64, 3) := by decide +kernel
theorem dL_act_803 : decode cL_act 803 = .ok (.iastore, 1) := by decide +kernel
theorem dL_act_804 : decode cL_act 804 = .ok (.aload 6, 2) := by decide +kernel
theorem dL_act_806 : decode cL_act 806 = .ok (.iconst 1, 1) := by decide +kernel
theorem dL_act_807 : decode cL_act 807 = .ok (.iconst 0, 1) := by decide +kernel
theorem dL_act_808 : decode cL_act 808 = .ok (.iastore, 1) := by decide +kernel
theorem dL_act_809 : decode cL_act 809 = .ok (.aload 6, 2) := by decide +kernel
theorem dL_act_811 : decode cL_act 811 = .ok (.iconst 2, 1) := by decide +kernel
theorem dL_act_812 : decode cL_act 812 = .ok (.iconst 0, 1) := by decide +kernel
theorem dL_act_813 : decode cL_act 813 = .ok (.iastore, 1) := by decide +kernel
theorem dL_act_814 : decode cL_act 814 = .ok (.aload_n 0, 1) := by decide +kernel
theorem dL_act_815 : decode cL_act 815 = .ok (.iload_n 3, 1) := by decide +kernel
theorem dL_act_816 : decode cL_act 816 = .ok (.iload 4, 2) := by decide +kernel
theorem dL_act_818 : decode cL_act 818 = .ok (.invokevirtual 67, 3) := by decide +kernel
theorem dL_act_821 : decode cL_act 821 = .ok (.istore 5, 2) := by decide +kernel
theorem dL_act_823 : decode cL_act 823 = .ok (.goto 8, 3) := by decide +kernel
theorem dL_act_826 : decode cL_act 826 = .ok (.astore 8, 2) := by decide +kernel
theorem dL_act_828 : decode cL_act 828 = .ok (.iconst (-1), 1) := by decide +kernel
theorem dL_act_829 : decode cL_act 829 = .ok (.istore 5, 2) := by decide +kernel
theorem dL_act_831 : decode cL_act 831 = .ok (.iload 5, 2) := by decide +kernel
theorem dL_act_833 : decode cL_act 833 = .ok (.iload 7, 2) := by decide +kernel
theorem dL_act_835 : decode cL_act 835 = .ok (.ifCond .eq 15, 3) := by decide +kernel
theorem dL_act_838 : decode cL_act 838 = .ok (.aload_n 1, 1) := by decide +kernel
theorem dL_act_839 : decode cL_act 839 = .ok (.getfield 21, 3) := by decide +kernel
theorem dL_act_842 : decode cL_act 842 = .ok (.iload 4, 2) := by decide +kernel
theorem dL_act_844 : decode cL_act 844 = .ok (.aaload, 1) := by decide +kernel
theorem dL_act_845 : decode cL_act 845 = .ok (.iconst 0, 1) := by decide +kernel
theorem dL_act_846 : decode cL_act 846 = .ok (.iaload, 1) := by decide +kernel
theorem dL_act_847 : decode cL_act 847 = .ok (.goto 4, 3) := by decide +kernel
theorem dL_act_850 : decode cL_act 850 = .ok (.iconst (-1), 1) := by decide +kernel
theorem dL_act_851 : decode cL_act 851 = .ok (.if_icmp .ne 7, 3) := by decide +kernel
theorem dL_act_854 : decode cL_act 854 = .ok (.iconst 1, 1) := by decide +kernel
theorem dL_act_855 : decode cL_act 855 = .ok (.goto 4, 3) := by decide +kernel
theorem dL_act_858 : decode cL_act 858 = .ok (.iconst 0, 1) := by decide +kernel
theorem dL_act_859 : decode cL_act 859 = .ok (.ireturn, 1) := by decide +kernel
