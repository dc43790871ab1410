theorem dX4_hourOn_28 : decode cX4_hourOn 28 = .ok (.istore_n 2, 1) := by decide +kernel
theorem dX4_hourOn_29 : decode cX4_hourOn 29 = .ok (.iload_n 2, 1) := by decide +kernel
theorem dX4_hourOn_30 : decode cX4_hourOn 30 = .ok (.aload_n 0, 1) := by decide +kernel
theorem dX4_hourOn_31 : decode cX4_hourOn 31 = .ok (.getfield 30, 3) := by decide +kernel
theorem dX4_hourOn_34 : decode cX4_hourOn 34 = .ok (.if_icmp .ge 15, 3) := by decide +kernel
theorem dX4_hourOn_37 : decode cX4_hourOn 37 = .ok (.aload_n 0, 1) := by decide +kernel
theorem dX4_hourOn_38 : decode cX4_hourOn 38 = .ok (.iload_n 2, 1) := by decide +kernel
theorem dX4_hourOn_39 : decode cX4_hourOn 39 = .ok (.iload_n 1, 1) := by decide +kernel
theorem dX4_hourOn_40 : decode cX4_hourOn 40 = .ok (.invokevirtual 90, 3) := by decide +kernel
theorem dX4_hourOn_43 : decode cX4_hourOn 43 = .ok (.iinc 2 1, 3) := by decide +kernel
theorem dX4_hourOn_46 : decode cX4_hourOn 46 = .ok (.goto (-17), 3) := by decide +kernel
theorem dX4_hourOn_49 : decode cX4_hourOn 49 = .ok (.aload_n 0, 1) := by decide +kernel
theorem dX4_hourOn_50 : decode cX4_hourOn 50 = .ok (.getfield 9, 3) := by decide +kernel
theorem dX4_hourOn_53 : decode cX4_hourOn 53 = .ok (.iconst 0, 1) := by decide +kernel
theorem dX4_hourOn_54 : decode cX4_hourOn 54 = .ok (.iaload, 1) := by decide +kernel
theorem dX4_hourOn_55 : decode cX4_hourOn 55 = .ok (.bipush 24, 2) := by decide +kernel
theorem dX4_hourOn_57 : decode cX4_hourOn 57 = .ok (.irem, 1) := by decide +kernel
theorem dX4_hourOn_58 : decode cX4_hourOn 58 = .ok (.bipush 10, 2) := by decide +kernel
theorem dX4_hourOn_60 : decode cX4_hourOn 60 = .ok (.bipush 18, 2) := by decide +kernel
theorem dX4_hourOn_62 : decode cX4_hourOn 62 = .ok (.invokestatic 26, 3) := by decide +kernel
theorem dX4_hourOn_65 : decode cX4_hourOn 65 = .ok (.ifCond .eq 22, 3) := by decide +kernel
theorem dX4_hourOn_68 : decode cX4_hourOn 68 = .ok (.iconst 0, 1) := by decide +kernel
theorem dX4_hourOn_69 : decode cX4_hourOn 69 = .ok (.istore_n 2, 1) := by decide +kernel
theorem dX4_hourOn_70 : decode cX4_hourOn 70 = .ok (.iload_n 2, 1) := by decide +kernel
theorem dX4_hourOn_71 : decode cX4_hourOn 71 = .ok (.iload_n 1, 1) := by decide +kernel
theorem dX4_hourOn_72 : decode cX4_hourOn 72 = .ok (.iconst 4, 1) := by decide +kernel
theorem dX4_hourOn_73 : decode cX4_hourOn 73 = .ok (.idiv, 1) := by decide +kernel
theorem dX4_hourOn_74 : decode cX4_hourOn 74 = .ok (.if_icmp .ge 13, 3) := by decide +kernel
theorem dX4_hourOn_77 : decode cX4_hourOn 77 = .ok (.aload_n 0, 1) := by decide +kernel
theorem dX4_hourOn_78 : decode cX4_hourOn 78 = .ok (.invokevirtual 93, 3) := by decide +kernel
theorem dX4_hourOn_81 : decode cX4_hourOn 81 = .ok (.iinc 2 1, 3) := by decide +kernel
theorem dX4_hourOn_84 : decode cX4_hourOn 84 = .ok (.goto (-14), 3) := by decide +kernel
theorem dX4_hourOn_87 : decode cX4_hourOn 87 = .ok (.aload_n 0, 1) := by decide +kernel
theorem dX4_hourOn_88 : decode cX4_hourOn 88 = .ok (.getfield 9, 3) := by decide +kernel
theorem dX4_hourOn_91 : decode cX4_hourOn 91 = .ok (.iconst 0, 1) := by decide +kernel
theorem dX4_hourOn_92 : decode cX4_hourOn 92 = .ok (.iaload, 1) := by decide +kernel
theorem dX4_hourOn_93 : decode cX4_hourOn 93 = .ok (.iconst 4, 1) := by decide +kernel
theorem dX4_hourOn_94 : decode cX4_hourOn 94 = .ok (.irem, 1) := by decide +kernel
theorem dX4_hourOn_95 : decode cX4_hourOn 95 = .ok (.ifCond .ne 23, 3) := by decide +kernel
theorem dX4_hourOn_98 : decode cX4_hourOn 98 = .ok (.aload_n 0, 1) := by decide +kernel
theorem dX4_hourOn_99 : decode cX4_hourOn 99 = .ok (.getfield 9, 3) := by decide +kernel
theorem dX4_hourOn_102 : decode cX4_hourOn 102 = .ok (.iconst 1, 1) := by decide +kernel
theorem dX4_hourOn_103 : decode cX4_hourOn 103 = .ok (.iconst 0, 1) := by decide +kernel
theorem dX4_hourOn_104 : decode cX4_hourOn 104 = .ok (.aload_n 0, 1) := by decide +kernel
theorem dX4_hourOn_105 : decode cX4_hourOn 105 = .ok (.getfield 9, 3) := by decide +kernel
theorem dX4_hourOn_108 : decode cX4_hourOn 108 = .ok (.iconst 1, 1) := by decide +kernel
theorem dX4_hourOn_109 : decode cX4_hourOn 109 = .ok (.iaload, 1) := by decide +kernel
theorem dX4_hourOn_110 : decode cX4_hourOn 110 = .ok (.iload_n 1, 1) := by decide +kernel
theorem dX4_hourOn_111 : decode cX4_hourOn 111 = .ok (.iconst 5, 1) := by decide +kernel
theorem dX4_hourOn_112 : decode cX4_hourOn 112 = .ok (.idiv, 1) := by decide +kernel
theorem dX4_hourOn_113 : decode cX4_hourOn 113 = .ok (.isub, 1) := by decide +kernel
theorem dX4_hourOn_114 : decode cX4_hourOn 114 = .ok (.invokestatic 70, 3) := by decide +kernel
theorem dX4_hourOn_117 : decode cX4_hourOn 117 = .ok (.iastore, 1) := by decide +kernel
theorem dX4_hourOn_118 : decode cX4_hourOn 118 = .ok (.aload_n 0, 1) := by decide +kernel
theorem dX4_hourOn_119 : decode cX4_hourOn 119 = .ok (.getfield 9, 3) := by decide +kernel
theorem dX4_hourOn_122 : decode cX4_hourOn 122 = .ok (.iconst 0, 1) := by decide +kernel
theorem dX4_hourOn_123 : decode cX4_hourOn 123 = .ok (.dup2, 1) := by decide +kernel
theorem dX4_hourOn_124 : decode cX4_hourOn 124 = .ok (.iaload, 1) := by decide +kernel
theorem dX4_hourOn_125 : decode cX4_hourOn 125 = .ok (.iconst 1, 1) := by decide +kernel
theorem dX4_hourOn_126 : decode cX4_hourOn 126 = .ok (.iadd, 1) := by decide +kernel
theorem dX4_hourOn_127 : decode cX4_hourOn 127 = .ok (.iastore, 1) := by decide +kernel
theorem dX4_hourOn_128 : decode cX4_hourOn 128 = .ok (.iconst 0, 1) := by decide +kernel
theorem dX4_hourOn_129 : decode cX4_hourOn 129 = .ok (.istore_n 2, 1) := by decide +kernel
theorem dX4_hourOn_130 : decode cX4_hourOn 130 = .ok (.iload_n 2, 1) := by decide +kernel
theorem dX4_hourOn_131 : decode cX4_hourOn 131 = .ok (.aload_n 0, 1) := by decide +kernel
theorem dX4_hourOn_132 : decode cX4_hourOn 132 = .ok (.getfield 30, 3) := by decide +kernel
theorem dX4_hourOn_135 : decode cX4_hourOn 135 = .ok (.if_icmp .ge 25, 3) := by decide +kernel
theorem dX4_hourOn_138 : decode cX4_hourOn 138 = .ok (.aload_n 0, 1) := by decide +kernel
theorem dX4_hourOn_139 : decode cX4_hourOn 139 = .ok (.iload_n 2, 1) := by decide +kernel
theorem dX4_hourOn_140 : decode cX4_hourOn 140 = .ok (.iconst 0, 1) := by decide +kernel
theorem dX4_hourOn_141 : decode cX4_hourOn 141 = .ok (.invokevirtual 64, 3) := by decide +kernel
theorem dX4_hourOn_144 : decode cX4_hourOn 144 = .ok (.ifCond .ne 10, 3) := by decide +kernel
theorem dX4_hourOn_147 : decode cX4_hourOn 147 = .ok (.aload_n 0, 1) := by decide +kernel
theorem dX4_hourOn_148 : decode cX4_hourOn 148 = .ok (.iload_n 2, 1) := by decide +kernel
theorem dX4_hourOn_149 : decode cX4_hourOn 149 = .ok (.iconst 1, 1) := by decide +kernel
theorem dX4_hourOn_150 : decode cX4_hourOn 150 = .ok (.iconst 0, 1) := by decide +kernel
theorem dX4_hourOn_151 : decode cX4_hourOn 151 = .ok (.invokevirtual 67, 3) := by decide +kernel
theorem dX4_hourOn_154 : decode cX4_hourOn 154 = .ok (.iinc 2 1, 3) := by decide +kernel
theorem dX4_hourOn_157 : decode cX4_hourOn 157 = .ok (.goto (-27), 3) := by decide +kernel
theorem dX4_hourOn_160 : decode cX4_hourOn 160 = .ok (.return_, 1) := by decide +kernel
set_option maxRecDepth 20000 in
theorem ggX4_pass_X4_isIn : GoodIn wsX4_pass wsX4_isIn := goodIn_r _ [6] (by decide +kernel) (by decide +kernel)
set_option maxRecDepth 20000 in
theorem gX4_pass_X4_isIn : GoodIn wsX4_pass (va_wsS RX4 26 yX4_isIn wsX4_isIn) := goodIn_app (goodIn_of _ (by decide +kernel)) ggX4_pass_X4_isIn
set_option maxRecDepth 20000 in
theorem ggX4_pass_X4_no : GoodIn wsX4_pass wsX4_no := goodIn_r _ [10, 1, 61, 62, 63, 64, 65, 66] (by decide +kernel) (by decide +kernel)
set_option maxRecDepth 20000 in
theorem gX4_pass_X4_no : GoodIn wsX4_pass (wsV RX4 33 RX4 yX4_no wsX4_no) := goodIn_app (goodIn_of _ (by decide +kernel)) ggX4_pass_X4_no
set_option maxRecDepth 20000 in
theorem ggX4_pass_X4_hourOn : GoodIn wsX4_pass wsX4_hourOn := goodIn_r _ [14, 15, 16, 2, 17, 18, 19, 20, 21, 22, 23, 5, 24, 25, 26, 27, 28, 29, 30, 31, 32, 33, 34, 35, 36, 37, 38, 39, 40, 41, 42, 43, 44, 45, 46, 47, 48, 49, 50, 51, 52, 3, 4, 6, 53, 54, 55, 56, 57, 58, 59, 60, 61, 62, 63, 64, 65, 66] (by decide +kernel) (by decide +kernel)
set_option maxRecDepth 20000 in
theorem gX4_pass_X4_hourOn : GoodIn wsX4_pass (wsV RX4 96 RX4 yX4_hourOn wsX4_hourOn) := goodIn_app (goodIn_of _ (by decide +kernel)) ggX4_pass_X4_hourOn
theorem dX4_pass_0 : decode cX4_pass 0 = .ok (.aload_n 0, 1) := by decide +kernel
theorem dX4_pass_1 : decode cX4_pass 1 = .ok (.iconst 0, 1) := by decide +kernel
theorem dX4_pass_2 : decode cX4_pass 2 = .ok (.putfield 19, 3) := by decide +kernel
theorem dX4_pass_5 : decode cX4_pass 5 = .ok (.iload_n 1, 1) := by decide +kernel
theorem dX4_pass_6 : decode cX4_pass 6 = .ok (.iconst 1, 1) := by decide +kernel
theorem dX4_pass_7 : decode cX4_pass 7 = .ok (.sipush 168, 3) := by decide +kernel
theorem dX4_pass_10 : decode cX4_pass 10 = .ok (.invokestatic 26, 3) := by decide +kernel
theorem dX4_pass_13 : decode cX4_pass 13 = .ok (.ifCond .ne 9, 3) := by decide +kernel
theorem dX4_pass_16 : decode cX4_pass 16 = .ok (.aload_n 0, 1) := by decide +kernel
theorem dX4_pass_17 : decode cX4_pass 17 = .ok (.iconst 1, 1) := by decide +kernel
theorem dX4_pass_18 : decode cX4_pass 18 = .ok (.invokevirtual 33, 3) := by decide +kernel
theorem dX4_pass_21 : decode cX4_pass 21 = .ok (.ireturn, 1) := by decide +kernel
theorem dX4_pass_22 : decode cX4_pass 22 = .ok (.aload_n 0, 1) := by decide +kernel
theorem dX4_pass_23 : decode cX4_pass 23 = .ok (.getfield 9, 3) := by decide +kernel
theorem dX4_pass_26 : decode cX4_pass 26 = .ok (.iconst 5, 1) := by decide +kernel
theorem dX4_pass_27 : decode cX4_pass 27 = .ok (.iaload, 1) := by decide +kernel
theorem dX4_pass_28 : decode cX4_pass 28 = .ok (.istore_n 2, 1) := by decide +kernel
theorem dX4_pass_29 : decode cX4_pass 29 = .ok (.iconst 0, 1) := by decide +kernel
theorem dX4_pass_30 : decode cX4_pass 30 = .ok (.istore_n 3, 1) := by decide +kernel
theorem dX4_pass_31 : decode cX4_pass 31 = .ok (.iload_n 3, 1) := by decide +kernel
theorem dX4_pass_32 : decode cX4_pass 32 = .ok (.iload_n 1, 1) := by decide +kernel
theorem dX4_pass_33 : decode cX4_pass 33 = .ok (.if_icmp .ge 13, 3) := by decide +kernel
theorem dX4_pass_36 : decode cX4_pass 36 = .ok (.aload_n 0, 1) := by decide +kernel
theorem dX4_pass_37 : decode cX4_pass 37 = .ok (.invokevirtual 96, 3) := by decide +kernel
theorem dX4_pass_40 : decode cX4_pass 40 = .ok (.iinc 3 1, 3) := by decide +kernel
theorem dX4_pass_43 : decode cX4_pass 43 = .ok (.goto (-12), 3) := by decide +kernel
theorem dX4_pass_46 : decode cX4_pass 46 = .ok (.aload_n 0, 1) := by decide +kernel
theorem dX4_pass_47 : decode cX4_pass 47 = .ok (.getfield 9, 3) := by decide +kernel
theorem dX4_pass_50 : decode cX4_pass 50 = .ok (.iconst 5, 1) := by decide +kernel
theorem dX4_pass_51 : decode cX4_pass 51 = .ok (.iaload, 1) := by decide +kernel
theorem dX4_pass_52 : decode cX4_pass 52 = .ok (.iload_n 2, 1) := by decide +kernel
theorem dX4_pass_53 : decode cX4_pass 53 = .ok (.isub, 1) := by decide +kernel
theorem dX4_pass_54 : decode cX4_pass 54 = .ok (.ireturn, 1) := by decide +kernel
theorem dX4_keep_0 : decode cX4_keep 0 = .ok (.aload_n 0, 1) := by decide +kernel
theorem dX4_keep_1 : decode cX4_keep 1 = .ok (.getfield 9, 3) := by decide +kernel
theorem dX4_keep_4 : decode cX4_keep 4 = .ok (.iconst 0, 1) := by decide +kernel
theorem dX4_keep_5 : decode cX4_keep 5 = .ok (.aload_n 0, 1) := by decide +kernel
theorem dX4_keep_6 : decode cX4_keep 6 = .ok (.getfield 13, 3) := by decide +kernel
theorem dX4_keep_9 : decode cX4_keep 9 = .ok (.iconst 0, 1) := by decide +kernel
theorem dX4_keep_10 : decode cX4_keep 10 = .ok (.bipush 37, 2) := by decide +kernel
theorem dX4_keep_12 : decode cX4_keep 12 = .ok (.invokestatic 99, 3) := by decide +kernel
theorem dX4_keep_15 : decode cX4_keep 15 = .ok (.return_, 1) := by decide +kernel
theorem dX4_bringBack_0 : decode cX4_bringBack 0 = .ok (.aload_n 0, 1) := by decide +kernel
theorem dX4_bringBack_1 : decode cX4_bringBack 1 = .ok (.getfield 13, 3) := by decide +kernel
theorem dX4_bringBack_4 : decode cX4_bringBack 4 = .ok (.iconst 0, 1) := by decide +kernel
theorem dX4_bringBack_5 : decode cX4_bringBack 5 = .ok (.aload_n 0, 1) := by decide +kernel
theorem dX4_bringBack_6 : decode cX4_bringBack 6 = .ok (.getfield 9, 3) := by decide +kernel
theorem dX4_bringBack_9 : decode cX4_bringBack 9 = .ok (.iconst 0, 1) := by decide +kernel
theorem dX4_bringBack_10 : decode cX4_bringBack 10 = .ok (.bipush 37, 2) := by decide +kernel
theorem dX4_bringBack_12 : decode cX4_bringBack 12 = .ok (.invokestatic 99, 3) := by decide +kernel
theorem dX4_bringBack_15 : decode cX4_bringBack 15 = .ok (.return_, 1) := by decide +kernel
set_option maxRecDepth 20000 in
theorem ggX4_done_X4_isChurn : GoodIn wsX4_done wsX4_isChurn := goodIn_r _ [6, 7, 8, 9, 5, 10, 78, 79, 80, 81, 82, 83] (by decide +kernel) (by decide +kernel)
set_option maxRecDepth 20000 in
theorem gX4_done_X4_isChurn : GoodIn wsX4_done (wsV RX4 49 RX4 yX4_isChurn wsX4_isChurn) := goodIn_app (goodIn_of _ (by decide +kernel)) ggX4_done_X4_isChurn
set_option maxRecDepth 20000 in
theorem ggX4_done_X4_no : GoodIn wsX4_done wsX4_no := goodIn_r _ [14, 1, 78, 79, 80, 81, 82, 83] (by decide +kernel) (by decide +kernel)
set_option maxRecDepth 20000 in
theorem gX4_done_X4_no : GoodIn wsX4_done (wsV RX4 33 RX4 yX4_no wsX4_no) := goodIn_app (goodIn_of _ (by decide +kernel)) ggX4_done_X4_no
set_option maxRecDepth 20000 in
theorem ggX4_done_X4_ch : GoodIn wsX4_done wsX4_ch := goodIn_r _ [18, 19, 78, 79, 80, 81, 82, 83] (by decide +kernel) (by decide +kernel)
set_option maxRecDepth 20000 in
theorem gX4_done_X4_ch : GoodIn wsX4_done (wsV RX4 46 RX4 yX4_ch wsX4_ch) := goodIn_app (goodIn_of _ (by decide +kernel)) ggX4_done_X4_ch
set_option maxRecDepth 20000 in
theorem ggX4_done_X4_keep : GoodIn wsX4_done wsX4_keep := goodIn_r _ [23, 19, 24, 25, 26, 27, 28, 78, 79, 80, 81, 82, 83] (by decide +kernel) (by decide +kernel)
set_option maxRecDepth 20000 in
theorem gX4_done_X4_keep : GoodIn wsX4_done (wsV RX4 105 RX4 yX4_keep wsX4_keep) := goodIn_app (goodIn_of _ (by decide +kernel)) ggX4_done_X4_keep
set_option maxRecDepth 20000 in
theorem ggX4_done_X4_hourOn : GoodIn wsX4_done wsX4_hourOn := goodIn_r _ [32, 7, 33, 19, 34, 35, 36, 37, 38, 39, 40, 5, 41, 42, 43, 44, 45, 46, 47, 48, 49, 15, 16, 17, 18, 50, 51, 52, 53, 54, 55, 56, 57, 58, 59, 60, 61, 62, 63, 64, 65, 8, 9, 10, 66, 67, 68, 69, 70, 71, 72, 73, 78, 79, 80, 81, 82, 83] (by decide +kernel) (by decide +kernel)
set_option maxRecDepth 20000 in
theorem gX4_done_X4_hourOn : GoodIn wsX4_done (wsV RX4 96 RX4 yX4_hourOn wsX4_hourOn) := goodIn_app (goodIn_of _ (by decide +kernel)) ggX4_done_X4_hourOn
set_option maxRecDepth 20000 in
theorem ggX4_done_X4_bringBack : GoodIn wsX4_done wsX4_bringBack := goodIn_r _ [77, 24, 19, 25, 26, 27, 28, 78, 79, 80, 81, 82, 83] (by decide +kernel) (by decide +kernel)
set_option maxRecDepth 20000 in
theorem gX4_done_X4_bringBack : GoodIn wsX4_done (wsV RX4 108 RX4 yX4_bringBack wsX4_bringBack) := goodIn_app (goodIn_of _ (by decide +kernel)) ggX4_done_X4_bringBack
theorem dX4_done_0 : decode cX4_done 0 = .ok (.aload_n 0, 1) := by decide +kernel
theorem dX4_done_1 : decode cX4_done 1 = .ok (.iconst 0, 1) := by decide +kernel
theorem dX4_done_2 : decode cX4_done 2 = .ok (.putfield 19, 3) := by decide +kernel
theorem dX4_done_5 : decode cX4_done 5 = .ok (.aload_n 0, 1) := by decide +kernel
theorem dX4_done_6 : decode cX4_done 6 = .ok (.iload_n 1, 1) := by decide +kernel
theorem dX4_done_7 : decode cX4_done 7 = .ok (.invokevirtual 49, 3) := by decide +kernel
theorem dX4_done_10 : decode cX4_done 10 = .ok (.ifCond .ne 9, 3) := by decide +kernel
theorem dX4_done_13 : decode cX4_done 13 = .ok (.aload_n 0, 1) := by decide +kernel
theorem dX4_done_14 : decode cX4_done 14 = .ok (.iconst 1, 1) := by decide +kernel
theorem dX4_done_15 : decode cX4_done 15 = .ok (.invokevirtual 33, 3) := by decide +kernel
theorem dX4_done_18 : decode cX4_done 18 = .ok (.ireturn, 1) := by decide +kernel
theorem dX4_done_19 : decode cX4_done 19 = .ok (.aload_n 0, 1) := by decide +kernel
theorem dX4_done_20 : decode cX4_done 20 = .ok (.iload_n 1, 1) := by decide +kernel
theorem dX4_done_21 : decode cX4_done 21 = .ok (.iconst 1, 1) := by decide +kernel
theorem dX4_done_22 : decode cX4_done 22 = .ok (.invokevirtual 46, 3) := by decide +kernel
theorem dX4_done_25 : decode cX4_done 25 = .ok (.ifCond .ne 5, 3) := by decide +kernel
theorem dX4_done_28 : decode cX4_done 28 = .ok (.iconst (-1), 1) := by decide +kernel
theorem dX4_done_29 : decode cX4_done 29 = .ok (.ireturn, 1) := by decide +kernel
theorem dX4_done_30 : decode cX4_done 30 = .ok (.aload_n 0, 1) := by decide +kernel
theorem dX4_done_31 : decode cX4_done 31 = .ok (.invokevirtual 105, 3) := by decide +kernel
theorem dX4_done_34 : decode cX4_done 34 = .ok (.iconst 0, 1) := by decide +kernel
theorem dX4_done_35 : decode cX4_done 35 = .ok (.istore_n 2, 1) := by decide +kernel
theorem dX4_done_36 : decode cX4_done 36 = .ok (.aload_n 0, 1) := by decide +kernel
theorem dX4_done_37 : decode cX4_done 37 = .ok (.iload_n 1, 1) := by decide +kernel
theorem dX4_done_38 : decode cX4_done 38 = .ok (.iconst 2, 1) := by decide +kernel
theorem dX4_done_39 : decode cX4_done 39 = .ok (.invokevirtual 46, 3) := by decide +kernel
theorem dX4_done_42 : decode cX4_done 42 = .ok (.bipush 50, 2) := by decide +kernel
theorem dX4_done_44 : decode cX4_done 44 = .ok (.if_icmp .ge 19, 3) := by decide +kernel
theorem dX4_done_47 : decode cX4_done 47 = .ok (.iload_n 2, 1) := by decide +kernel
theorem dX4_done_48 : decode cX4_done 48 = .ok (.bipush 100, 2) := by decide +kernel
theorem dX4_done_50 : decode cX4_done 50 = .ok (.if_icmp .ge 13, 3) := by decide +kernel
theorem dX4_done_53 : decode cX4_done 53 = .ok (.aload_n 0, 1) := by decide +kernel
theorem dX4_done_54 : decode cX4_done 54 = .ok (.invokevirtual 96, 3) := by decide +kernel
theorem dX4_done_57 : decode cX4_done 57 = .ok (.iinc 2 1, 3) := by decide +kernel
theorem dX4_done_60 : decode cX4_done 60 = .ok (.goto (-24), 3) := by decide +kernel
theorem dX4_done_63 : decode cX4_done 63 = .ok (.aload_n 0, 1) := by decide +kernel
theorem dX4_done_64 : decode cX4_done 64 = .ok (.iload_n 1, 1) := by decide +kernel
theorem dX4_done_65 : decode cX4_done 65 = .ok (.iconst 2, 1) := by decide +kernel
theorem dX4_done_66 : decode cX4_done 66 = .ok (.invokevirtual 46, 3) := by decide +kernel
theorem dX4_done_69 : decode cX4_done 69 = .ok (.bipush 50, 2) := by decide +kernel
theorem dX4_done_71 : decode cX4_done 71 = .ok (.if_icmp .ge 7, 3) := by decide +kernel
theorem dX4_done_74 : decode cX4_done 74 = .ok (.iconst (-1), 1) := by decide +kernel
theorem dX4_done_75 : decode cX4_done 75 = .ok (.goto 4, 3) := by decide +kernel
theorem dX4_done_78 : decode cX4_done 78 = .ok (.iload_n 2, 1) := by decide +kernel
theorem dX4_done_79 : decode cX4_done 79 = .ok (.istore_n 3, 1) := by decide +kernel
theorem dX4_done_80 : decode cX4_done 80 = .ok (.aload_n 0, 1) := by decide +kernel
theorem dX4_done_81 : decode cX4_done 81 = .ok (.invokevirtual 108, 3) := by decide +kernel
theorem dX4_done_84 : decode cX4_done 84 = .ok (.iload_n 3, 1) := by decide +kernel
theorem dX4_done_85 : decode cX4_done 85 = .ok (.ireturn, 1) := by decide +kernel
set_option maxRecDepth 20000 in
theorem ggX4_foresee_X4_isIn : GoodIn wsX4_foresee wsX4_isIn := goodIn_r _ [5] (by decide +kernel) (by decide +kernel)
set_option maxRecDepth 20000 in
theorem gX4_foresee_X4_isIn : GoodIn wsX4_foresee (va_wsS RX4 26 yX4_isIn wsX4_isIn) := goodIn_app (goodIn_of _ (by decide +kernel)) ggX4_foresee_X4_isIn
set_option maxRecDepth 20000 in
theorem ggX4_foresee_X4_no : GoodIn wsX4_foresee wsX4_no := goodIn_r _ [9, 1, 83, 84, 85, 86, 87, 88] (by decide +kernel) (by decide +kernel)
set_option maxRecDepth 20000 in
theorem gX4_foresee_X4_no : GoodIn wsX4_foresee (wsV RX4 33 RX4 yX4_no wsX4_no) := goodIn_app (goodIn_of _ (by decide +kernel)) ggX4_foresee_X4_no
set_option maxRecDepth 20000 in
theorem ggX4_foresee_X4_keep : GoodIn wsX4_foresee wsX4_keep := goodIn_r _ [13, 14, 15, 16, 17, 18, 19, 83, 84, 85, 86, 87, 88] (by decide +kernel) (by decide +kernel)
set_option maxRecDepth 20000 in
theorem gX4_foresee_X4_keep : GoodIn wsX4_foresee (wsV RX4 105 RX4 yX4_keep wsX4_keep) := goodIn_app (goodIn_of _ (by decide +kernel)) ggX4_foresee_X4_keep
set_option maxRecDepth 20000 in
theorem ggX4_foresee_X4_hourOn : GoodIn wsX4_foresee wsX4_hourOn := goodIn_r _ [23, 24, 25, 14, 26, 27, 28, 29, 30, 31, 32, 4, 33, 34, 35, 36, 37, 38, 39, 40, 41, 42, 43, 44, 45, 46, 47, 48, 49, 50, 51, 52, 53, 54, 55, 56, 57, 58, 59, 60, 61, 2, 3, 5, 62, 63, 64, 65, 66, 67, 68, 69, 83, 84, 85, 86, 87, 88] (by decide +kernel) (by decide +kernel)
set_option maxRecDepth 20000 in
theorem gX4_foresee_X4_hourOn : GoodIn wsX4_foresee (wsV RX4 96 RX4 yX4_hourOn wsX4_hourOn) := goodIn_app (goodIn_of _ (by decide +kernel)) ggX4_foresee_X4_hourOn
set_option maxRecDepth 20000 in
theorem ggX4_foresee_X4_counted : GoodIn wsX4_foresee wsX4_counted := goodIn_r _ [73, 74, 14, 30, 31, 32, 4, 33, 34, 75, 76, 77, 78, 25, 54, 55, 56, 57, 83, 84, 85, 86, 87, 88] (by decide +kernel) (by decide +kernel)
set_option maxRecDepth 20000 in
theorem gX4_foresee_X4_counted : GoodIn wsX4_foresee (wsV RX4 80 RX4 yX4_counted wsX4_counted) := goodIn_app (goodIn_of _ (by decide +kernel)) ggX4_foresee_X4_counted
set_option maxRecDepth 20000 in
theorem ggX4_foresee_X4_bringBack : GoodIn wsX4_foresee wsX4_bringBack := goodIn_r _ [82, 15, 14, 16, 17, 18, 19, 83, 84, 85, 86, 87, 88] (by decide +kernel) (by decide +kernel)
set_option maxRecDepth 20000 in
theorem gX4_foresee_X4_bringBack : GoodIn wsX4_foresee (wsV RX4 108 RX4 yX4_bringBack wsX4_bringBack) := goodIn_app (goodIn_of _ (by decide +kernel)) ggX4_foresee_X4_bringBack
theorem dX4_foresee_0 : decode cX4_foresee 0 = .ok (.aload_n 0, 1) := by decide +kernel
theorem dX4_foresee_1 : decode cX4_foresee 1 = .ok (.iconst 0, 1) := by decide +kernel
theorem dX4_foresee_2 : decode cX4_foresee 2 = .ok (.putfield 19, 3) := by decide +kernel
theorem dX4_foresee_5 : decode cX4_foresee 5 = .ok (.iload_n 1, 1) := by decide +kernel
theorem dX4_foresee_6 : decode cX4_foresee 6 = .ok (.iconst 1, 1) := by decide +kernel
theorem dX4_foresee_7 : decode cX4_foresee 7 = .ok (.sipush 168, 3) := by decide +kernel
theorem dX4_foresee_10 : decode cX4_foresee 10 = .ok (.invokestatic 26, 3) := by decide +kernel
theorem dX4_foresee_13 : decode cX4_foresee 13 = .ok (.ifCond .ne 9, 3) := by decide +kernel
theorem dX4_foresee_16 : decode cX4_foresee 16 = .ok (.aload_n 0, 1) := by decide +kernel
theorem dX4_foresee_17 : decode cX4_foresee 17 = .ok (.iconst 1, 1) := by decide +kernel
theorem dX4_foresee_18 : decode cX4_foresee 18 = .ok (.invokevirtual 33, 3) := by decide +kernel
theorem dX4_foresee_21 : decode cX4_foresee 21 = .ok (.ireturn, 1) := by decide +kernel
theorem dX4_foresee_22 : decode cX4_foresee 22 = .ok (.iload_n 2, 1) := by decide +kernel
theorem dX4_foresee_23 : decode cX4_foresee 23 = .ok (.iconst 2, 1) := by decide +kernel
theorem dX4_foresee_24 : decode cX4_foresee 24 = .ok (.if_icmp .eq 20, 3) := by decide +kernel
theorem dX4_foresee_27 : decode cX4_foresee 27 = .ok (.iload_n 2, 1) := by decide +kernel
theorem dX4_foresee_28 : decode cX4_foresee 28 = .ok (.bipush 6, 2) := by decide +kernel
theorem dX4_foresee_30 : decode cX4_foresee 30 = .ok (.bipush 9, 2) := by decide +kernel
theorem dX4_foresee_32 : decode cX4_foresee 32 = .ok (.invokestatic 26, 3) := by decide +kernel
theorem dX4_foresee_35 : decode cX4_foresee 35 = .ok (.ifCond .ne 9, 3) := by decide +kernel
theorem dX4_foresee_38 : decode cX4_foresee 38 = .ok (.aload_n 0, 1) := by decide +kernel
theorem dX4_foresee_39 : decode cX4_foresee 39 = .ok (.iconst 2, 1) := by decide +kernel
theorem dX4_foresee_40 : decode cX4_foresee 40 = .ok (.invokevirtual 33, 3) := by decide +kernel
theorem dX4_foresee_43 : decode cX4_foresee 43 = .ok (.ireturn, 1) := by decide +kernel
theorem dX4_foresee_44 : decode cX4_foresee 44 = .ok (.aload_n 0, 1) := by decide +kernel
theorem dX4_foresee_45 : decode cX4_foresee 45 = .ok (.invokevirtual 105, 3) := by decide +kernel
theorem dX4_foresee_48 : decode cX4_foresee 48 = .ok (.iconst 0, 1) := by decide +kernel
theorem dX4_foresee_49 : decode cX4_foresee 49 = .ok (.istore_n 3, 1) := by decide +kernel
theorem dX4_foresee_50 : decode cX4_foresee 50 = .ok (.iload_n 3, 1) := by decide +kernel
theorem dX4_foresee_51 : decode cX4_foresee 51 = .ok (.iload_n 1, 1) := by decide +kernel
theorem dX4_foresee_52 : decode cX4_foresee 52 = .ok (.if_icmp .ge 13, 3) := by decide +kernel
theorem dX4_foresee_55 : decode cX4_foresee 55 = .ok (.aload_n 0, 1) := by decide +kernel
theorem dX4_foresee_56 : decode cX4_foresee 56 = .ok (.invokevirtual 96, 3) := by decide +kernel
theorem dX4_foresee_59 : decode cX4_foresee 59 = .ok (.iinc 3 1, 3) := by decide +kernel
theorem dX4_foresee_62 : decode cX4_foresee 62 = .ok (.goto (-12), 3) := by decide +kernel
theorem dX4_foresee_65 : decode cX4_foresee 65 = .ok (.aload_n 0, 1) := by decide +kernel
theorem dX4_foresee_66 : decode cX4_foresee 66 = .ok (.iload_n 2, 1) := by decide +kernel
theorem dX4_foresee_67 : decode cX4_foresee 67 = .ok (.invokevirtual 80, 3) := by decide +kernel
theorem dX4_foresee_70 : decode cX4_foresee 70 = .ok (.istore_n 3, 1) := by decide +kernel
theorem dX4_foresee_71 : decode cX4_foresee 71 = .ok (.aload_n 0, 1) := by decide +kernel
theorem dX4_foresee_72 : decode cX4_foresee 72 = .ok (.invokevirtual 108, 3) := by decide +kernel
theorem dX4_foresee_75 : decode cX4_foresee 75 = .ok (.iload_n 3, 1) := by decide +kernel
theorem dX4_foresee_76 : decode cX4_foresee 76 = .ok (.ireturn, 1) := by decide +kernel
theorem dX4_lasts_0 : decode cX4_lasts 0 = .ok (.aload_n 0, 1) := by decide +kernel
theorem dX4_lasts_1 : decode cX4_lasts 1 = .ok (.iconst 0, 1) := by decide +kernel
theorem dX4_lasts_2 : decode cX4_lasts 2 = .ok (.putfield 19, 3) := by decide +kernel
theorem dX4_lasts_5 : decode cX4_lasts 5 = .ok (.aload_n 0, 1) := by decide +kernel
theorem dX4_lasts_6 : decode cX4_lasts 6 = .ok (.getfield 9, 3) := by decide +kernel
theorem dX4_lasts_9 : decode cX4_lasts 9 = .ok (.iconst 1, 1) := by decide +kernel
theorem dX4_lasts_10 : decode cX4_lasts 10 = .ok (.iaload, 1) := by decide +kernel
theorem dX4_lasts_11 : decode cX4_lasts 11 = .ok (.istore_n 1, 1) := by decide +kernel
theorem dX4_lasts_12 : decode cX4_lasts 12 = .ok (.aload_n 0, 1) := by decide +kernel
theorem dX4_lasts_13 : decode cX4_lasts 13 = .ok (.getfield 9, 3) := by decide +kernel
theorem dX4_lasts_16 : decode cX4_lasts 16 = .ok (.iconst 0, 1) := by decide +kernel
theorem dX4_lasts_17 : decode cX4_lasts 17 = .ok (.iaload, 1) := by decide +kernel
theorem dX4_lasts_18 : decode cX4_lasts 18 = .ok (.istore_n 2, 1) := by decide +kernel
theorem dX4_lasts_19 : decode cX4_lasts 19 = .ok (.iload_n 1, 1) := by decide +kernel
theorem dX4_lasts_20 : decode cX4_lasts 20 = .ok (.ifCond .le 46, 3) := by decide +kernel
theorem dX4_lasts_23 : decode cX4_lasts 23 = .ok (.iload_n 2, 1) := by decide +kernel
theorem dX4_lasts_24 : decode cX4_lasts 24 = .ok (.aload_n 0, 1) := by decide +kernel
theorem dX4_lasts_25 : decode cX4_lasts 25 = .ok (.getfield 9, 3) := by decide +kernel
theorem dX4_lasts_28 : decode cX4_lasts 28 = .ok (.iconst 0, 1) := by decide +kernel
theorem dX4_lasts_29 : decode cX4_lasts 29 = .ok (.iaload, 1) := by decide +kernel
theorem dX4_lasts_30 : decode cX4_lasts 30 = .ok (.isub, 1) := by decide +kernel
theorem dX4_lasts_31 : decode cX4_lasts 31 = .ok (.sipush 999, 3) := by decide +kernel
theorem dX4_lasts_34 : decode cX4_lasts 34 = .ok (.if_icmp .ge 32, 3) := by decide +kernel
theorem dX4_lasts_37 : decode cX4_lasts 37 = .ok (.iload_n 2, 1) := by decide +kernel
theorem dX4_lasts_38 : decode cX4_lasts 38 = .ok (.iconst 4, 1) := by decide +kernel
theorem dX4_lasts_39 : decode cX4_lasts 39 = .ok (.irem, 1) := by decide +kernel
theorem dX4_lasts_40 : decode cX4_lasts 40 = .ok (.ifCond .ne 20, 3) := by decide +kernel
theorem dX4_lasts_43 : decode cX4_lasts 43 = .ok (.iload_n 1, 1) := by decide +kernel
theorem dX4_lasts_44 : decode cX4_lasts 44 = .ok (.aload_n 0, 1) := by decide +kernel
theorem dX4_lasts_45 : decode cX4_lasts 45 = .ok (.getfield 16, 3) := by decide +kernel
theorem dX4_lasts_48 : decode cX4_lasts 48 = .ok (.iload_n 2, 1) := by decide +kernel
theorem dX4_lasts_49 : decode cX4_lasts 49 = .ok (.bipush 24, 2) := by decide +kernel
theorem dX4_lasts_51 : decode cX4_lasts 51 = .ok (.idiv, 1) := by decide +kernel
theorem dX4_lasts_52 : decode cX4_lasts 52 = .ok (.bipush 7, 2) := by decide +kernel
theorem dX4_lasts_54 : decode cX4_lasts 54 = .ok (.irem, 1) := by decide +kernel
theorem dX4_lasts_55 : decode cX4_lasts 55 = .ok (.iaload, 1) := by decide +kernel
theorem dX4_lasts_56 : decode cX4_lasts 56 = .ok (.iconst 5, 1) := by decide +kernel
theorem dX4_lasts_57 : decode cX4_lasts 57 = .ok (.idiv, 1) := by decide +kernel
theorem dX4_lasts_58 : decode cX4_lasts 58 = .ok (.isub, 1) := by decide +kernel
theorem dX4_lasts_59 : decode cX4_lasts 59 = .ok (.istore_n 1, 1) := by decide +kernel
theorem dX4_lasts_60 : decode cX4_lasts 60 = .ok (.iinc 2 1, 3) := by decide +kernel
theorem dX4_lasts_63 : decode cX4_lasts 63 = .ok (.goto (-44), 3) := by decide +kernel
theorem dX4_lasts_66 : decode cX4_lasts 66 = .ok (.iload_n 1, 1) := by decide +kernel
theorem dX4_lasts_67 : decode cX4_lasts 67 = .ok (.ifCond .le 7, 3) := by decide +kernel
theorem dX4_lasts_70 : decode cX4_lasts 70 = .ok (.iconst (-1), 1) := by decide +kernel
theorem dX4_lasts_71 : decode cX4_lasts 71 = .ok (.goto 11, 3) := by decide +kernel
theorem dX4_lasts_74 : decode cX4_lasts 74 = .ok (.iload_n 2, 1) := by decide +kernel
theorem dX4_lasts_75 : decode cX4_lasts 75 = .ok (.aload_n 0, 1) := by decide +kernel
theorem dX4_lasts_76 : decode cX4_lasts 76 = .ok (.getfield 9, 3) := by decide +kernel
theorem dX4_lasts_79 : decode cX4_lasts 79 = .ok (.iconst 0, 1) := by decide +kernel
theorem dX4_lasts_80 : decode cX4_lasts 80 = .ok (.iaload, 1) := by decide +kernel
theorem dX4_lasts_81 : decode cX4_lasts 81 = .ok (.isub, 1) := by decide +kernel
theorem dX4_lasts_82 : decode cX4_lasts 82 = .ok (.ireturn, 1) := by decide +kernel
set_option maxRecDepth 20000 in
theorem ggX4_salt_X4_isChurn : GoodIn wsX4_salt wsX4_isChurn := goodIn_r _ [6, 7, 8, 9, 5, 10, 28, 29, 30, 31, 32, 33] (by decide +kernel) (by decide +kernel)
set_option maxRecDepth 20000 in
theorem gX4_salt_X4_isChurn : GoodIn wsX4_salt (wsV RX4 49 RX4 yX4_isChurn wsX4_isChurn) := goodIn_app (goodIn_of _ (by decide +kernel)) ggX4_salt_X4_isChurn
set_option maxRecDepth 20000 in
theorem ggX4_salt_X4_no : GoodIn wsX4_salt wsX4_no := goodIn_r _ [14, 1, 28, 29, 30, 31, 32, 33] (by decide +kernel) (by decide +kernel)
set_option maxRecDepth 20000 in
theorem gX4_salt_X4_no : GoodIn wsX4_salt (wsV RX4 33 RX4 yX4_no wsX4_no) := goodIn_app (goodIn_of _ (by decide +kernel)) ggX4_salt_X4_no
set_option maxRecDepth 20000 in
theorem ggX4_salt_X4_isIn : GoodIn wsX4_salt wsX4_isIn := goodIn_r _ [10] (by decide +kernel) (by decide +kernel)
set_option maxRecDepth 20000 in
theorem gX4_salt_X4_isIn : GoodIn wsX4_salt (va_wsS RX4 26 yX4_isIn wsX4_isIn) := goodIn_app (goodIn_of _ (by decide +kernel)) ggX4_salt_X4_isIn
set_option maxRecDepth 20000 in
theorem ggX4_salt_X4_packed : GoodIn wsX4_salt wsX4_packed := goodIn_r _ [18, 19, 20, 21, 22, 23, 24, 25, 5, 26, 27, 28, 29, 30, 31, 32, 33] (by decide +kernel) (by decide +kernel)
set_option maxRecDepth 20000 in
theorem gX4_salt_X4_packed : GoodIn wsX4_salt (wsV RX4 53 RX4 yX4_packed wsX4_packed) := goodIn_app (goodIn_of _ (by decide +kernel)) ggX4_salt_X4_packed
theorem dX4_salt_0 : decode cX4_salt 0 = .ok (.aload_n 0, 1) := by decide +kernel
theorem dX4_salt_1 : decode cX4_salt 1 = .ok (.iconst 0, 1) := by decide +kernel
theorem dX4_salt_2 : decode cX4_salt 2 = .ok (.putfield 19, 3) := by decide +kernel
theorem dX4_salt_5 : decode cX4_salt 5 = .ok (.aload_n 0, 1) := by decide +kernel
theorem dX4_salt_6 : decode cX4_salt 6 = .ok (.iload_n 1, 1) := by decide +kernel
theorem dX4_salt_7 : decode cX4_salt 7 = .ok (.invokevirtual 49, 3) := by decide +kernel
theorem dX4_salt_10 : decode cX4_salt 10 = .ok (.ifCond .ne 9, 3) := by decide +kernel
theorem dX4_salt_13 : decode cX4_salt 13 = .ok (.aload_n 0, 1) := by decide +kernel
theorem dX4_salt_14 : decode cX4_salt 14 = .ok (.iconst 1, 1) := by decide +kernel
theorem dX4_salt_15 : decode cX4_salt 15 = .ok (.invokevirtual 33, 3) := by decide +kernel
theorem dX4_salt_18 : decode cX4_salt 18 = .ok (.ireturn, 1) := by decide +kernel
theorem dX4_salt_19 : decode cX4_salt 19 = .ok (.iload_n 2, 1) := by decide +kernel
theorem dX4_salt_20 : decode cX4_salt 20 = .ok (.iconst 0, 1) := by decide +kernel
theorem dX4_salt_21 : decode cX4_salt 21 = .ok (.bipush 60, 2) := by decide +kernel
theorem dX4_salt_23 : decode cX4_salt 23 = .ok (.invokestatic 26, 3) := by decide +kernel
theorem dX4_salt_26 : decode cX4_salt 26 = .ok (.ifCond .ne 9, 3) := by decide +kernel
theorem dX4_salt_29 : decode cX4_salt 29 = .ok (.aload_n 0, 1) := by decide +kernel
theorem dX4_salt_30 : decode cX4_salt 30 = .ok (.iconst 2, 1) := by decide +kernel
theorem dX4_salt_31 : decode cX4_salt 31 = .ok (.invokevirtual 33, 3) := by decide +kernel
theorem dX4_salt_34 : decode cX4_salt 34 = .ok (.ireturn, 1) := by decide +kernel
theorem dX4_salt_35 : decode cX4_salt 35 = .ok (.iconst 0, 1) := by decide +kernel
theorem dX4_salt_36 : decode cX4_salt 36 = .ok (.istore_n 3, 1) := by decide +kernel
theorem dX4_salt_37 : decode cX4_salt 37 = .ok (.iconst 1, 1) := by decide +kernel
theorem dX4_salt_38 : decode cX4_salt 38 = .ok (.istore 4, 2) := by decide +kernel
theorem dX4_salt_40 : decode cX4_salt 40 = .ok (.iload 4, 2) := by decide +kernel
theorem dX4_salt_42 : decode cX4_salt 42 = .ok (.bipush 60, 2) := by decide +kernel
theorem dX4_salt_44 : decode cX4_salt 44 = .ok (.if_icmp .gt 30, 3) := by decide +kernel
theorem dX4_salt_47 : decode cX4_salt 47 = .ok (.aload_n 0, 1) := by decide +kernel
theorem dX4_salt_48 : decode cX4_salt 48 = .ok (.iload_n 1, 1) := by decide +kernel
theorem dX4_salt_49 : decode cX4_salt 49 = .ok (.iload_n 2, 1) := by decide +kernel
theorem dX4_salt_50 : decode cX4_salt 50 = .ok (.iload 4, 2) := by decide +kernel
theorem dX4_salt_52 : decode cX4_salt 52 = .ok (.invokevirtual 53, 3) := by decide +kernel
theorem dX4_salt_55 : decode cX4_salt 55 = .ok (.aload_n 0, 1) := by decide +kernel
theorem dX4_salt_56 : decode cX4_salt 56 = .ok (.iload_n 1, 1) := by decide +kernel
theorem dX4_salt_57 : decode cX4_salt 57 = .ok (.iload_n 2, 1) := by decide +kernel
theorem dX4_salt_58 : decode cX4_salt 58 = .ok (.iload_n 3, 1) := by decide +kernel
theorem dX4_salt_59 : decode cX4_salt 59 = .ok (.invokevirtual 53, 3) := by decide +kernel
theorem dX4_salt_62 : decode cX4_salt 62 = .ok (.if_icmp .le 6, 3) := by decide +kernel
theorem dX4_salt_65 : decode cX4_salt 65 = .ok (.iload 4, 2) := by decide +kernel
theorem dX4_salt_67 : decode cX4_salt 67 = .ok (.istore_n 3, 1) := by decide +kernel
theorem dX4_salt_68 : decode cX4_salt 68 = .ok (.iinc 4 1, 3) := by decide +kernel
theorem dX4_salt_71 : decode cX4_salt 71 = .ok (.goto (-31), 3) := by decide +kernel
theorem dX4_salt_74 : decode cX4_salt 74 = .ok (.iload_n 3, 1) := by decide +kernel
theorem dX4_salt_75 : decode cX4_salt 75 = .ok (.ireturn, 1) := by decide +kernel
set_option maxRecDepth 20000 in
theorem ggX4_share_X4_sum : GoodIn wsX4_share wsX4_sum := goodIn_r _ [7, 8, 9, 10, 11, 6, 12, 2, 13, 14, 15, 16, 17, 18] (by decide +kernel) (by decide +kernel)
set_option maxRecDepth 20000 in
theorem gX4_share_X4_sum : GoodIn wsX4_share (wsV RX4 77 RX4 yX4_sum wsX4_sum) := goodIn_app (goodIn_of _ (by decide +kernel)) ggX4_share_X4_sum
theorem dX4_share_0 : decode cX4_share 0 = .ok (.aload_n 0, 1) := by decide +kernel
theorem dX4_share_1 : decode cX4_share 1 = .ok (.iconst 0, 1) := by decide +kernel
theorem dX4_share_2 : decode cX4_share 2 = .ok (.putfield 19, 3) := by decide +kernel
theorem dX4_share_5 : decode cX4_share 5 = .ok (.aload_n 0, 1) := by decide +kernel
theorem dX4_share_6 : decode cX4_share 6 = .ok (.iconst 2, 1) := by decide +kernel
theorem dX4_share_7 : decode cX4_share 7 = .ok (.invokevirtual 77, 3) := by decide +kernel
theorem dX4_share_10 : decode cX4_share 10 = .ok (.aload_n 0, 1) := by decide +kernel
theorem dX4_share_11 : decode cX4_share 11 = .ok (.getfield 9, 3) := by decide +kernel
theorem dX4_share_14 : decode cX4_share 14 = .ok (.bipush 6, 2) := by decide +kernel
theorem dX4_share_16 : decode cX4_share 16 = .ok (.iaload, 1) := by decide +kernel
theorem dX4_share_17 : decode cX4_share 17 = .ok (.iadd, 1) := by decide +kernel
theorem dX4_share_18 : decode cX4_share 18 = .ok (.istore_n 1, 1) := by decide +kernel
theorem dX4_share_19 : decode cX4_share 19 = .ok (.iload_n 1, 1) := by decide +kernel
theorem dX4_share_20 : decode cX4_share 20 = .ok (.ifCond .ne 7, 3) := by decide +kernel
theorem dX4_share_23 : decode cX4_share 23 = .ok (.dconst 0, 1) := by decide +kernel
theorem dX4_share_24 : decode cX4_share 24 = .ok (.goto 12, 3) := by decide +kernel
theorem dX4_share_27 : decode cX4_share 27 = .ok (.aload_n 0, 1) := by decide +kernel
theorem dX4_share_28 : decode cX4_share 28 = .ok (.iconst 2, 1) := by decide +kernel
theorem dX4_share_29 : decode cX4_share 29 = .ok (.invokevirtual 77, 3) := by decide +kernel
theorem dX4_share_32 : decode cX4_share 32 = .ok (.i2d, 1) := by decide +kernel
theorem dX4_share_33 : decode cX4_share 33 = .ok (.iload_n 1, 1) := by decide +kernel
theorem dX4_share_34 : decode cX4_share 34 = .ok (.i2d, 1) := by decide +kernel
theorem dX4_share_35 : decode cX4_share 35 = .ok (.ddiv, 1) := by decide +kernel
theorem dX4_share_36 : decode cX4_share 36 = .ok (.dreturn, 1) := by decide +kernel
set_option maxRecDepth 20000 in
theorem ggX4_digest_X4_counted : GoodIn wsX4_digest wsX4_counted := goodIn_r _ [12, 13, 6, 14, 15, 16, 11, 17, 4, 18, 19, 20, 21, 7, 22, 23, 24, 25, 26, 27, 28, 29, 30, 31] (by decide +kernel) (by decide +kernel)
set_option maxRecDepth 20000 in
theorem gX4_digest_X4_counted : GoodIn wsX4_digest (wsV RX4 80 RX4 yX4_counted wsX4_counted) := goodIn_app (goodIn_of _ (by decide +kernel)) ggX4_digest_X4_counted
theorem dX4_digest_0 : decode cX4_digest 0 = .ok (.aload_n 0, 1) := by decide +kernel
theorem dX4_digest_1 : decode cX4_digest 1 = .ok (.iconst 0, 1) := by decide +kernel
theorem dX4_digest_2 : decode cX4_digest 2 = .ok (.putfield 19, 3) := by decide +kernel
theorem dX4_digest_5 : decode cX4_digest 5 = .ok (.ldc2_w 111, 3) := by decide +kernel
theorem dX4_digest_8 : decode cX4_digest 8 = .ok (.lstore_n 1, 1) := by decide +kernel
theorem dX4_digest_9 : decode cX4_digest 9 = .ok (.iconst 0, 1) := by decide +kernel
theorem dX4_digest_10 : decode cX4_digest 10 = .ok (.istore_n 3, 1) := by decide +kernel
theorem dX4_digest_11 : decode cX4_digest 11 = .ok (.iload_n 3, 1) := by decide +kernel
theorem dX4_digest_12 : decode cX4_digest 12 = .ok (.bipush 10, 2) := by decide +kernel
theorem dX4_digest_14 : decode cX4_digest 14 = .ok (.if_icmp .ge 22, 3) := by decide +kernel
theorem dX4_digest_17 : decode cX4_digest 17 = .ok (.lload_n 1, 1) := by decide +kernel
theorem dX4_digest_18 : decode cX4_digest 18 = .ok (.ldc2_w 113, 3) := by decide +kernel
theorem dX4_digest_21 : decode cX4_digest 21 = .ok (.lmul, 1) := by decide +kernel
theorem dX4_digest_22 : decode cX4_digest 22 = .ok (.aload_n 0, 1) := by decide +kernel
theorem dX4_digest_23 : decode cX4_digest 23 = .ok (.iload_n 3, 1) := by decide +kernel
theorem dX4_digest_24 : decode cX4_digest 24 = .ok (.invokevirtual 80, 3) := by decide +kernel
theorem dX4_digest_27 : decode cX4_digest 27 = .ok (.i2l, 1) := by decide +kernel
theorem dX4_digest_28 : decode cX4_digest 28 = .ok (.ladd, 1) := by decide +kernel
theorem dX4_digest_29 : decode cX4_digest 29 = .ok (.lstore_n 1, 1) := by decide +kernel
theorem dX4_digest_30 : decode cX4_digest 30 = .ok (.iinc 3 1, 3) := by decide +kernel
theorem dX4_digest_33 : decode cX4_digest 33 = .ok (.goto (-22), 3) := by decide +kernel
theorem dX4_digest_36 : decode cX4_digest 36 = .ok (.iconst 0, 1) := by decide +kernel
theorem dX4_digest_37 : decode cX4_digest 37 = .ok (.istore_n 3, 1) := by decide +kernel
theorem dX4_digest_38 : decode cX4_digest 38 = .ok (.iload_n 3, 1) := by decide +kernel
theorem dX4_digest_39 : decode cX4_digest 39 = .ok (.bipush 7, 2) := by decide +kernel
theorem dX4_digest_41 : decode cX4_digest 41 = .ok (.if_icmp .ge 23, 3) := by decide +kernel
theorem dX4_digest_44 : decode cX4_digest 44 = .ok (.lload_n 1, 1) := by decide +kernel
theorem dX4_digest_45 : decode cX4_digest 45 = .ok (.ldc2_w 113, 3) := by decide +kernel
theorem dX4_digest_48 : decode cX4_digest 48 = .ok (.lmul, 1) := by decide +kernel
theorem dX4_digest_49 : decode cX4_digest 49 = .ok (.aload_n 0, 1) := by decide +kernel
theorem dX4_digest_50 : decode cX4_digest 50 = .ok (.getfield 16, 3) := by decide +kernel
theorem dX4_digest_53 : decode cX4_digest 53 = .ok (.iload_n 3, 1) := by decide +kernel
theorem dX4_digest_54 : decode cX4_digest 54 = .ok (.iaload, 1) := by decide +kernel
theorem dX4_digest_55 : decode cX4_digest 55 = .ok (.i2l, 1) := by decide +kernel
theorem dX4_digest_56 : decode cX4_digest 56 = .ok (.ladd, 1) := by decide +kernel
theorem dX4_digest_57 : decode cX4_digest 57 = .ok (.lstore_n 1, 1) := by decide +kernel
theorem dX4_digest_58 : decode cX4_digest 58 = .ok (.iinc 3 1, 3) := by decide +kernel
theorem dX4_digest_61 : decode cX4_digest 61 = .ok (.goto (-23), 3) := by decide +kernel
theorem dX4_digest_64 : decode cX4_digest 64 = .ok (.iconst 0, 1) := by decide +kernel
theorem dX4_digest_65 : decode cX4_digest 65 = .ok (.istore_n 3, 1) := by decide +kernel
theorem dX4_digest_66 : decode cX4_digest 66 = .ok (.iload_n 3, 1) := by decide +kernel
theorem dX4_digest_67 : decode cX4_digest 67 = .ok (.iconst 3, 1) := by decide +kernel
theorem dX4_digest_68 : decode cX4_digest 68 = .ok (.aload_n 0, 1) := by decide +kernel
theorem dX4_digest_69 : decode cX4_digest 69 = .ok (.getfield 23, 3) := by decide +kernel
theorem dX4_digest_72 : decode cX4_digest 72 = .ok (.imul, 1) := by decide +kernel
theorem dX4_digest_73 : decode cX4_digest 73 = .ok (.if_icmp .ge 26, 3) := by decide +kernel
theorem dX4_digest_76 : decode cX4_digest 76 = .ok (.lload_n 1, 1) := by decide +kernel
theorem dX4_digest_77 : decode cX4_digest 77 = .ok (.ldc2_w 113, 3) := by decide +kernel
theorem dX4_digest_80 : decode cX4_digest 80 = .ok (.lmul, 1) := by decide +kernel
theorem dX4_digest_81 : decode cX4_digest 81 = .ok (.aload_n 0, 1) := by decide +kernel
theorem dX4_digest_82 : decode cX4_digest 82 = .ok (.getfield 9, 3) := by decide +kernel
theorem dX4_digest_85 : decode cX4_digest 85 = .ok (.bipush 7, 2) := by decide +kernel
theorem dX4_digest_87 : decode cX4_digest 87 = .ok (.iload_n 3, 1) := by decide +kernel
theorem dX4_digest_88 : decode cX4_digest 88 = .ok (.iadd, 1) := by decide +kernel
theorem dX4_digest_89 : decode cX4_digest 89 = .ok (.iaload, 1) := by decide +kernel
theorem dX4_digest_90 : decode cX4_digest 90 = .ok (.i2l, 1) := by decide +kernel
theorem dX4_digest_91 : decode cX4_digest 91 = .ok (.ladd, 1) := by decide +kernel
theorem dX4_digest_92 : decode cX4_digest 92 = .ok (.lstore_n 1, 1) := by decide +kernel
theorem dX4_digest_93 : decode cX4_digest 93 = .ok (.iinc 3 1, 3) := by decide +kernel
theorem dX4_digest_96 : decode cX4_digest 96 = .ok (.goto (-30), 3) := by decide +kernel
theorem dX4_digest_99 : decode cX4_digest 99 = .ok (.iconst 0, 1) := by decide +kernel
theorem dX4_digest_100 : decode cX4_digest 100 = .ok (.istore_n 3, 1) := by decide +kernel
theorem dX4_digest_101 : decode cX4_digest 101 = .ok (.iload_n 3, 1) := by decide +kernel
theorem dX4_digest_102 : decode cX4_digest 102 = .ok (.iconst 3, 1) := by decide +kernel
theorem dX4_digest_103 : decode cX4_digest 103 = .ok (.aload_n 0, 1) := by decide +kernel
theorem dX4_digest_104 : decode cX4_digest 104 = .ok (.getfield 30, 3) := by decide +kernel
theorem dX4_digest_107 : decode cX4_digest 107 = .ok (.imul, 1) := by decide +kernel
theorem dX4_digest_108 : decode cX4_digest 108 = .ok (.if_icmp .ge 26, 3) := by decide +kernel
theorem dX4_digest_111 : decode cX4_digest 111 = .ok (.lload_n 1, 1) := by decide +kernel
theorem dX4_digest_112 : decode cX4_digest 112 = .ok (.ldc2_w 113, 3) := by decide +kernel
theorem dX4_digest_115 : decode cX4_digest 115 = .ok (.lmul, 1) := by decide +kernel
theorem dX4_digest_116 : decode cX4_digest 116 = .ok (.aload_n 0, 1) := by decide +kernel
theorem dX4_digest_117 : decode cX4_digest 117 = .ok (.getfield 9, 3) := by decide +kernel
theorem dX4_digest_120 : decode cX4_digest 120 = .ok (.bipush 19, 2) := by decide +kernel
theorem dX4_digest_122 : decode cX4_digest 122 = .ok (.iload_n 3, 1) := by decide +kernel
theorem dX4_digest_123 : decode cX4_digest 123 = .ok (.iadd, 1) := by decide +kernel
theorem dX4_digest_124 : decode cX4_digest 124 = .ok (.iaload, 1) := by decide +kernel
theorem dX4_digest_125 : decode cX4_digest 125 = .ok (.i2l, 1) := by decide +kernel
theorem dX4_digest_126 : decode cX4_digest 126 = .ok (.ladd, 1) := by decide +kernel
theorem dX4_digest_127 : decode cX4_digest 127 = .ok (.lstore_n 1, 1) := by decide +kernel
theorem dX4_digest_128 : decode cX4_digest 128 = .ok (.iinc 3 1, 3) := by decide +kernel
theorem dX4_digest_131 : decode cX4_digest 131 = .ok (.goto (-30), 3) := by decide +kernel
theorem dX4_digest_134 : decode cX4_digest 134 = .ok (.lload_n 1, 1) := by decide +kernel
theorem dX4_digest_135 : decode cX4_digest 135 = .ok (.lreturn, 1) := by decide +kernel
