theorem dX4_counts_0 : decode cX4_counts 0 = .ok (.bipush 10, 2) := by decide +kernel
theorem dX4_counts_2 : decode cX4_counts 2 = .ok (.newarray .int, 2) := by decide +kernel
theorem dX4_counts_4 : decode cX4_counts 4 = .ok (.dup, 1) := by decide +kernel
theorem dX4_counts_5 : decode cX4_counts 5 = .ok (.iconst 0, 1) := by decide +kernel
theorem dX4_counts_6 : decode cX4_counts 6 = .ok (.aload_n 0, 1) := by decide +kernel
theorem dX4_counts_7 : decode cX4_counts 7 = .ok (.getfield 24, 3) := by decide +kernel
theorem dX4_counts_10 : decode cX4_counts 10 = .ok (.iastore, 1) := by decide +kernel
theorem dX4_counts_11 : decode cX4_counts 11 = .ok (.dup, 1) := by decide +kernel
theorem dX4_counts_12 : decode cX4_counts 12 = .ok (.iconst 1, 1) := by decide +kernel
theorem dX4_counts_13 : decode cX4_counts 13 = .ok (.aload_n 0, 1) := by decide +kernel
theorem dX4_counts_14 : decode cX4_counts 14 = .ok (.invokevirtual 28, 3) := by decide +kernel
theorem dX4_counts_17 : decode cX4_counts 17 = .ok (.iastore, 1) := by decide +kernel
theorem dX4_counts_18 : decode cX4_counts 18 = .ok (.dup, 1) := by decide +kernel
theorem dX4_counts_19 : decode cX4_counts 19 = .ok (.iconst 2, 1) := by decide +kernel
theorem dX4_counts_20 : decode cX4_counts 20 = .ok (.aload_n 0, 1) := by decide +kernel
theorem dX4_counts_21 : decode cX4_counts 21 = .ok (.getfield 7, 3) := by decide +kernel
theorem dX4_counts_24 : decode cX4_counts 24 = .ok (.iconst 0, 1) := by decide +kernel
theorem dX4_counts_25 : decode cX4_counts 25 = .ok (.iaload, 1) := by decide +kernel
theorem dX4_counts_26 : decode cX4_counts 26 = .ok (.iastore, 1) := by decide +kernel
theorem dX4_counts_27 : decode cX4_counts 27 = .ok (.dup, 1) := by decide +kernel
theorem dX4_counts_28 : decode cX4_counts 28 = .ok (.iconst 3, 1) := by decide +kernel
theorem dX4_counts_29 : decode cX4_counts 29 = .ok (.aload_n 0, 1) := by decide +kernel
theorem dX4_counts_30 : decode cX4_counts 30 = .ok (.getfield 7, 3) := by decide +kernel
theorem dX4_counts_33 : decode cX4_counts 33 = .ok (.iconst 1, 1) := by decide +kernel
theorem dX4_counts_34 : decode cX4_counts 34 = .ok (.iaload, 1) := by decide +kernel
theorem dX4_counts_35 : decode cX4_counts 35 = .ok (.iastore, 1) := by decide +kernel
theorem dX4_counts_36 : decode cX4_counts 36 = .ok (.dup, 1) := by decide +kernel
theorem dX4_counts_37 : decode cX4_counts 37 = .ok (.iconst 4, 1) := by decide +kernel
theorem dX4_counts_38 : decode cX4_counts 38 = .ok (.aload_n 0, 1) := by decide +kernel
theorem dX4_counts_39 : decode cX4_counts 39 = .ok (.getfield 7, 3) := by decide +kernel
theorem dX4_counts_42 : decode cX4_counts 42 = .ok (.iconst 2, 1) := by decide +kernel
theorem dX4_counts_43 : decode cX4_counts 43 = .ok (.iaload, 1) := by decide +kernel
theorem dX4_counts_44 : decode cX4_counts 44 = .ok (.iastore, 1) := by decide +kernel
theorem dX4_counts_45 : decode cX4_counts 45 = .ok (.dup, 1) := by decide +kernel
theorem dX4_counts_46 : decode cX4_counts 46 = .ok (.iconst 5, 1) := by decide +kernel
theorem dX4_counts_47 : decode cX4_counts 47 = .ok (.aload_n 0, 1) := by decide +kernel
theorem dX4_counts_48 : decode cX4_counts 48 = .ok (.getfield 7, 3) := by decide +kernel
theorem dX4_counts_51 : decode cX4_counts 51 = .ok (.iconst 3, 1) := by decide +kernel
theorem dX4_counts_52 : decode cX4_counts 52 = .ok (.iaload, 1) := by decide +kernel
theorem dX4_counts_53 : decode cX4_counts 53 = .ok (.iastore, 1) := by decide +kernel
theorem dX4_counts_54 : decode cX4_counts 54 = .ok (.dup, 1) := by decide +kernel
theorem dX4_counts_55 : decode cX4_counts 55 = .ok (.bipush 6, 2) := by decide +kernel
theorem dX4_counts_57 : decode cX4_counts 57 = .ok (.aload_n 0, 1) := by decide +kernel
theorem dX4_counts_58 : decode cX4_counts 58 = .ok (.getfield 32, 3) := by decide +kernel
theorem dX4_counts_61 : decode cX4_counts 61 = .ok (.iastore, 1) := by decide +kernel
theorem dX4_counts_62 : decode cX4_counts 62 = .ok (.dup, 1) := by decide +kernel
theorem dX4_counts_63 : decode cX4_counts 63 = .ok (.bipush 7, 2) := by decide +kernel
theorem dX4_counts_65 : decode cX4_counts 65 = .ok (.aload_n 0, 1) := by decide +kernel
theorem dX4_counts_66 : decode cX4_counts 66 = .ok (.iconst 0, 1) := by decide +kernel
theorem dX4_counts_67 : decode cX4_counts 67 = .ok (.invokevirtual 47, 3) := by decide +kernel
theorem dX4_counts_70 : decode cX4_counts 70 = .ok (.iastore, 1) := by decide +kernel
theorem dX4_counts_71 : decode cX4_counts 71 = .ok (.dup, 1) := by decide +kernel
theorem dX4_counts_72 : decode cX4_counts 72 = .ok (.bipush 8, 2) := by decide +kernel
theorem dX4_counts_74 : decode cX4_counts 74 = .ok (.aload_n 0, 1) := by decide +kernel
theorem dX4_counts_75 : decode cX4_counts 75 = .ok (.iconst 2, 1) := by decide +kernel
theorem dX4_counts_76 : decode cX4_counts 76 = .ok (.invokevirtual 47, 3) := by decide +kernel
theorem dX4_counts_79 : decode cX4_counts 79 = .ok (.iastore, 1) := by decide +kernel
theorem dX4_counts_80 : decode cX4_counts 80 = .ok (.dup, 1) := by decide +kernel
theorem dX4_counts_81 : decode cX4_counts 81 = .ok (.bipush 9, 2) := by decide +kernel
theorem dX4_counts_83 : decode cX4_counts 83 = .ok (.aload_n 0, 1) := by decide +kernel
theorem dX4_counts_84 : decode cX4_counts 84 = .ok (.getfield 38, 3) := by decide +kernel
theorem dX4_counts_87 : decode cX4_counts 87 = .ok (.iastore, 1) := by decide +kernel
theorem dX4_counts_88 : decode cX4_counts 88 = .ok (.astore_n 1, 1) := by decide +kernel
theorem dX4_counts_89 : decode cX4_counts 89 = .ok (.aload_n 1, 1) := by decide +kernel
theorem dX4_counts_90 : decode cX4_counts 90 = .ok (.areturn, 1) := by decide +kernel
set_option maxRecDepth 20000 in
theorem ggX4_isSame_X3_told : GoodIn wsX4_isSame wsX3_told := goodIn_ca (goodIn_r _ [8, 9, 10, 11, 12, 13, 7, 14, 15, 16, 17, 18, 19, 20, 21, 22, 23, 114, 115, 116, 117, 118, 119, 120, 121, 122, 123, 124, 125, 126, 127] (by decide +kernel) (by decide +kernel)) (goodIn_sub (fun _ h => List.mem_cons_of_mem _ (List.mem_append_right _ h)) (by decide +kernel))
set_option maxRecDepth 20000 in
theorem gX4_isSame_X3_told : GoodIn wsX4_isSame (wsV RX4 56 RX3 yX3_told wsX3_told) := goodIn_app (goodIn_of _ (by decide +kernel)) ggX4_isSame_X3_told
set_option maxRecDepth 20000 in
theorem ggX4_isSame_X3_about : GoodIn wsX4_isSame wsX3_about := goodIn_ca (goodIn_r _ [27, 9, 10, 28, 29, 30, 7, 31, 15, 32, 33, 34, 35, 36, 37, 38, 39, 114, 115, 116, 117, 118, 119, 120, 121, 122, 123, 124, 128, 129, 130] (by decide +kernel) (by decide +kernel)) (goodIn_sub (fun _ h => List.mem_cons_of_mem _ (List.mem_append_right _ h)) (by decide +kernel))
set_option maxRecDepth 20000 in
theorem gX4_isSame_X3_about : GoodIn wsX4_isSame (wsV RX4 61 RX3 yX3_about wsX3_about) := goodIn_app (goodIn_of _ (by decide +kernel)) ggX4_isSame_X3_about
set_option maxRecDepth 20000 in
theorem ggX4_isSame_X4_counts : GoodIn wsX4_isSame wsX4_counts := goodIn_r _ [44, 45, 46, 47, 48, 3, 49, 50, 51, 43, 52, 53, 54, 55, 56, 57, 2, 107, 108, 109, 110, 111, 112, 113] (by decide +kernel) (by decide +kernel)
set_option maxRecDepth 20000 in
theorem gX4_isSame_X4_counts : GoodIn wsX4_isSame (wsV RX4 64 RX4 yX4_counts wsX4_counts) := goodIn_app (goodIn_of _ (by decide +kernel)) ggX4_isSame_X4_counts
set_option maxRecDepth 20000 in
theorem ggX4_isSame_X3_count : GoodIn wsX4_isSame wsX3_count := goodIn_ca (goodIn_r _ [61, 9, 10, 15, 62, 63, 64, 65, 66, 67, 68, 69, 70, 71, 72, 73, 74, 75, 76, 77, 78, 79, 80, 81, 82, 83, 84, 85, 86, 87, 88, 89, 114, 115, 116, 117, 118, 119, 120, 121, 122, 123, 124, 128, 129, 130] (by decide +kernel) (by decide +kernel)) (goodIn_sub (fun _ h => List.mem_cons_of_mem _ (List.mem_append_right _ h)) (by decide +kernel))
set_option maxRecDepth 20000 in
theorem gX4_isSame_X3_count : GoodIn wsX4_isSame (wsV RX4 68 RX3 yX3_count wsX3_count) := goodIn_app (goodIn_of _ (by decide +kernel)) ggX4_isSame_X3_count
set_option maxRecDepth 20000 in
theorem ggX4_isSame_X4_sum : GoodIn wsX4_isSame wsX4_sum := goodIn_r _ [57, 2, 107, 108, 109, 110, 111, 112, 113] (by decide +kernel) (by decide +kernel)
set_option maxRecDepth 20000 in
theorem gX4_isSame_X4_sum : GoodIn wsX4_isSame (wsV RX4 47 RX4 yX4_sum wsX4_sum) := goodIn_app (goodIn_of _ (by decide +kernel)) ggX4_isSame_X4_sum
set_option maxRecDepth 20000 in
theorem ggX4_isSame_X3_next : GoodIn wsX4_isSame wsX3_next := goodIn_r _ [93, 15, 94, 95, 96, 65, 97, 84, 85, 114, 115, 116, 117, 118, 119, 120, 121, 122, 123, 124, 128, 129, 130] (by decide +kernel) (by decide +kernel)
set_option maxRecDepth 20000 in
theorem gX4_isSame_X3_next : GoodIn wsX4_isSame (wsV RX4 71 RX3 yX3_next wsX3_next) := goodIn_app (goodIn_of _ (by decide +kernel)) ggX4_isSame_X3_next
set_option maxRecDepth 20000 in
theorem ggX4_isSame_X4_next : GoodIn wsX4_isSame wsX4_next := goodIn_r _ [101, 2, 107, 108, 109, 110, 111, 112, 113] (by decide +kernel) (by decide +kernel)
set_option maxRecDepth 20000 in
theorem gX4_isSame_X4_next : GoodIn wsX4_isSame (wsV RX4 35 RX4 yX4_next wsX4_next) := goodIn_app (goodIn_of _ (by decide +kernel)) ggX4_isSame_X4_next
set_option maxRecDepth 20000 in
theorem ggX4_isSame_X3_share : GoodIn wsX4_isSame wsX3_share := goodIn_r _ [105, 15, 106, 87, 88, 65, 89, 84, 85, 114, 115, 116, 117, 118, 119, 120, 121, 122, 123, 124, 128, 129, 130] (by decide +kernel) (by decide +kernel)
set_option maxRecDepth 20000 in
theorem gX4_isSame_X3_share : GoodIn wsX4_isSame (wsV RX4 72 RX3 yX3_share wsX3_share) := goodIn_app (goodIn_of _ (by decide +kernel)) ggX4_isSame_X3_share
theorem dX4_isSame_0 : decode cX4_isSame 0 = .ok (.iconst 0, 1) := by decide +kernel
theorem dX4_isSame_1 : decode cX4_isSame 1 = .ok (.istore_n 2, 1) := by decide +kernel
theorem dX4_isSame_2 : decode cX4_isSame 2 = .ok (.iload_n 2, 1) := by decide +kernel
theorem dX4_isSame_3 : decode cX4_isSame 3 = .ok (.aload_n 0, 1) := by decide +kernel
theorem dX4_isSame_4 : decode cX4_isSame 4 = .ok (.getfield 17, 3) := by decide +kernel
theorem dX4_isSame_7 : decode cX4_isSame 7 = .ok (.arraylength, 1) := by decide +kernel
theorem dX4_isSame_8 : decode cX4_isSame 8 = .ok (.if_icmp .ge 41, 3) := by decide +kernel
theorem dX4_isSame_11 : decode cX4_isSame 11 = .ok (.iconst 0, 1) := by decide +kernel
theorem dX4_isSame_12 : decode cX4_isSame 12 = .ok (.istore_n 3, 1) := by decide +kernel
theorem dX4_isSame_13 : decode cX4_isSame 13 = .ok (.iload_n 3, 1) := by decide +kernel
theorem dX4_isSame_14 : decode cX4_isSame 14 = .ok (.iconst 3, 1) := by decide +kernel
theorem dX4_isSame_15 : decode cX4_isSame 15 = .ok (.if_icmp .ge 28, 3) := by decide +kernel
theorem dX4_isSame_18 : decode cX4_isSame 18 = .ok (.aload_n 1, 1) := by decide +kernel
theorem dX4_isSame_19 : decode cX4_isSame 19 = .ok (.iload_n 2, 1) := by decide +kernel
theorem dX4_isSame_20 : decode cX4_isSame 20 = .ok (.iload_n 3, 1) := by decide +kernel
theorem dX4_isSame_21 : decode cX4_isSame 21 = .ok (.invokevirtual 56, 3) := by decide +kernel
theorem dX4_isSame_24 : decode cX4_isSame 24 = .ok (.aload_n 0, 1) := by decide +kernel
theorem dX4_isSame_25 : decode cX4_isSame 25 = .ok (.getfield 17, 3) := by decide +kernel
theorem dX4_isSame_28 : decode cX4_isSame 28 = .ok (.iload_n 2, 1) := by decide +kernel
theorem dX4_isSame_29 : decode cX4_isSame 29 = .ok (.aaload, 1) := by decide +kernel
theorem dX4_isSame_30 : decode cX4_isSame 30 = .ok (.iload_n 3, 1) := by decide +kernel
theorem dX4_isSame_31 : decode cX4_isSame 31 = .ok (.iaload, 1) := by decide +kernel
theorem dX4_isSame_32 : decode cX4_isSame 32 = .ok (.if_icmp .eq 5, 3) := by decide +kernel
theorem dX4_isSame_35 : decode cX4_isSame 35 = .ok (.iconst 0, 1) := by decide +kernel
theorem dX4_isSame_36 : decode cX4_isSame 36 = .ok (.ireturn, 1) := by decide +kernel
theorem dX4_isSame_37 : decode cX4_isSame 37 = .ok (.iinc 3 1, 3) := by decide +kernel
theorem dX4_isSame_40 : decode cX4_isSame 40 = .ok (.goto (-27), 3) := by decide +kernel
theorem dX4_isSame_43 : decode cX4_isSame 43 = .ok (.iinc 2 1, 3) := by decide +kernel
theorem dX4_isSame_46 : decode cX4_isSame 46 = .ok (.goto (-44), 3) := by decide +kernel
theorem dX4_isSame_49 : decode cX4_isSame 49 = .ok (.iconst 0, 1) := by decide +kernel
theorem dX4_isSame_50 : decode cX4_isSame 50 = .ok (.istore_n 2, 1) := by decide +kernel
theorem dX4_isSame_51 : decode cX4_isSame 51 = .ok (.iload_n 2, 1) := by decide +kernel
theorem dX4_isSame_52 : decode cX4_isSame 52 = .ok (.aload_n 0, 1) := by decide +kernel
theorem dX4_isSame_53 : decode cX4_isSame 53 = .ok (.getfield 21, 3) := by decide +kernel
theorem dX4_isSame_56 : decode cX4_isSame 56 = .ok (.arraylength, 1) := by decide +kernel
theorem dX4_isSame_57 : decode cX4_isSame 57 = .ok (.if_icmp .ge 41, 3) := by decide +kernel
theorem dX4_isSame_60 : decode cX4_isSame 60 = .ok (.iconst 0, 1) := by decide +kernel
theorem dX4_isSame_61 : decode cX4_isSame 61 = .ok (.istore_n 3, 1) := by decide +kernel
theorem dX4_isSame_62 : decode cX4_isSame 62 = .ok (.iload_n 3, 1) := by decide +kernel
theorem dX4_isSame_63 : decode cX4_isSame 63 = .ok (.iconst 3, 1) := by decide +kernel
theorem dX4_isSame_64 : decode cX4_isSame 64 = .ok (.if_icmp .ge 28, 3) := by decide +kernel
theorem dX4_isSame_67 : decode cX4_isSame 67 = .ok (.aload_n 1, 1) := by decide +kernel
theorem dX4_isSame_68 : decode cX4_isSame 68 = .ok (.iload_n 2, 1) := by decide +kernel
theorem dX4_isSame_69 : decode cX4_isSame 69 = .ok (.iload_n 3, 1) := by decide +kernel
theorem dX4_isSame_70 : decode cX4_isSame 70 = .ok (.invokevirtual 61, 3) := by decide +kernel
theorem dX4_isSame_73 : decode cX4_isSame 73 = .ok (.aload_n 0, 1) := by decide +kernel
theorem dX4_isSame_74 : decode cX4_isSame 74 = .ok (.getfield 21, 3) := by decide +kernel
theorem dX4_isSame_77 : decode cX4_isSame 77 = .ok (.iload_n 2, 1) := by decide +kernel
theorem dX4_isSame_78 : decode cX4_isSame 78 = .ok (.aaload, 1) := by decide +kernel
theorem dX4_isSame_79 : decode cX4_isSame 79 = .ok (.iload_n 3, 1) := by decide +kernel
theorem dX4_isSame_80 : decode cX4_isSame 80 = .ok (.iaload, 1) := by decide +kernel
theorem dX4_isSame_81 : decode cX4_isSame 81 = .ok (.if_icmp .eq 5, 3) := by decide +kernel
theorem dX4_isSame_84 : decode cX4_isSame 84 = .ok (.iconst 0, 1) := by decide +kernel
theorem dX4_isSame_85 : decode cX4_isSame 85 = .ok (.ireturn, 1) := by decide +kernel
theorem dX4_isSame_86 : decode cX4_isSame 86 = .ok (.iinc 3 1, 3) := by decide +kernel
theorem dX4_isSame_89 : decode cX4_isSame 89 = .ok (.goto (-27), 3) := by decide +kernel
theorem dX4_isSame_92 : decode cX4_isSame 92 = .ok (.iinc 2 1, 3) := by decide +kernel
theorem dX4_isSame_95 : decode cX4_isSame 95 = .ok (.goto (-44), 3) := by decide +kernel
theorem dX4_isSame_98 : decode cX4_isSame 98 = .ok (.aload_n 0, 1) := by decide +kernel
theorem dX4_isSame_99 : decode cX4_isSame 99 = .ok (.invokevirtual 64, 3) := by decide +kernel
theorem dX4_isSame_102 : decode cX4_isSame 102 = .ok (.astore_n 2, 1) := by decide +kernel
theorem dX4_isSame_103 : decode cX4_isSame 103 = .ok (.iconst 0, 1) := by decide +kernel
theorem dX4_isSame_104 : decode cX4_isSame 104 = .ok (.istore_n 3, 1) := by decide +kernel
theorem dX4_isSame_105 : decode cX4_isSame 105 = .ok (.iload_n 3, 1) := by decide +kernel
theorem dX4_isSame_106 : decode cX4_isSame 106 = .ok (.bipush 10, 2) := by decide +kernel
theorem dX4_isSame_108 : decode cX4_isSame 108 = .ok (.if_icmp .ge 22, 3) := by decide +kernel
theorem dX4_isSame_111 : decode cX4_isSame 111 = .ok (.aload_n 1, 1) := by decide +kernel
theorem dX4_isSame_112 : decode cX4_isSame 112 = .ok (.iload_n 3, 1) := by decide +kernel
theorem dX4_isSame_113 : decode cX4_isSame 113 = .ok (.invokevirtual 68, 3) := by decide +kernel
theorem dX4_isSame_116 : decode cX4_isSame 116 = .ok (.aload_n 2, 1) := by decide +kernel
theorem dX4_isSame_117 : decode cX4_isSame 117 = .ok (.iload_n 3, 1) := by decide +kernel
theorem dX4_isSame_118 : decode cX4_isSame 118 = .ok (.iaload, 1) := by decide +kernel
theorem dX4_isSame_119 : decode cX4_isSame 119 = .ok (.if_icmp .eq 5, 3) := by decide +kernel
theorem dX4_isSame_122 : decode cX4_isSame 122 = .ok (.iconst 0, 1) := by decide +kernel
theorem dX4_isSame_123 : decode cX4_isSame 123 = .ok (.ireturn, 1) := by decide +kernel
theorem dX4_isSame_124 : decode cX4_isSame 124 = .ok (.iinc 3 1, 3) := by decide +kernel
theorem dX4_isSame_127 : decode cX4_isSame 127 = .ok (.goto (-22), 3) := by decide +kernel
theorem dX4_isSame_130 : decode cX4_isSame 130 = .ok (.aload_n 0, 1) := by decide +kernel
theorem dX4_isSame_131 : decode cX4_isSame 131 = .ok (.iconst 2, 1) := by decide +kernel
theorem dX4_isSame_132 : decode cX4_isSame 132 = .ok (.invokevirtual 47, 3) := by decide +kernel
theorem dX4_isSame_135 : decode cX4_isSame 135 = .ok (.aload_n 0, 1) := by decide +kernel
theorem dX4_isSame_136 : decode cX4_isSame 136 = .ok (.getfield 38, 3) := by decide +kernel
theorem dX4_isSame_139 : decode cX4_isSame 139 = .ok (.iadd, 1) := by decide +kernel
theorem dX4_isSame_140 : decode cX4_isSame 140 = .ok (.istore_n 3, 1) := by decide +kernel
theorem dX4_isSame_141 : decode cX4_isSame 141 = .ok (.aload_n 1, 1) := by decide +kernel
theorem dX4_isSame_142 : decode cX4_isSame 142 = .ok (.invokevirtual 71, 3) := by decide +kernel
theorem dX4_isSame_145 : decode cX4_isSame 145 = .ok (.aload_n 0, 1) := by decide +kernel
theorem dX4_isSame_146 : decode cX4_isSame 146 = .ok (.invokevirtual 35, 3) := by decide +kernel
theorem dX4_isSame_149 : decode cX4_isSame 149 = .ok (.if_icmp .ne 32, 3) := by decide +kernel
theorem dX4_isSame_152 : decode cX4_isSame 152 = .ok (.aload_n 1, 1) := by decide +kernel
theorem dX4_isSame_153 : decode cX4_isSame 153 = .ok (.invokevirtual 72, 3) := by decide +kernel
theorem dX4_isSame_156 : decode cX4_isSame 156 = .ok (.iload_n 3, 1) := by decide +kernel
theorem dX4_isSame_157 : decode cX4_isSame 157 = .ok (.ifCond .ne 7, 3) := by decide +kernel
theorem dX4_isSame_160 : decode cX4_isSame 160 = .ok (.dconst 0, 1) := by decide +kernel
theorem dX4_isSame_161 : decode cX4_isSame 161 = .ok (.goto 12, 3) := by decide +kernel
theorem dX4_isSame_164 : decode cX4_isSame 164 = .ok (.aload_n 0, 1) := by decide +kernel
theorem dX4_isSame_165 : decode cX4_isSame 165 = .ok (.iconst 2, 1) := by decide +kernel
theorem dX4_isSame_166 : decode cX4_isSame 166 = .ok (.invokevirtual 47, 3) := by decide +kernel
theorem dX4_isSame_169 : decode cX4_isSame 169 = .ok (.i2d, 1) := by decide +kernel
theorem dX4_isSame_170 : decode cX4_isSame 170 = .ok (.iload_n 3, 1) := by decide +kernel
theorem dX4_isSame_171 : decode cX4_isSame 171 = .ok (.i2d, 1) := by decide +kernel
theorem dX4_isSame_172 : decode cX4_isSame 172 = .ok (.ddiv, 1) := by decide +kernel
theorem dX4_isSame_173 : decode cX4_isSame 173 = .ok (.dcmp .l, 1) := by decide +kernel
theorem dX4_isSame_174 : decode cX4_isSame 174 = .ok (.ifCond .ne 7, 3) := by decide +kernel
theorem dX4_isSame_177 : decode cX4_isSame 177 = .ok (.iconst 1, 1) := by decide +kernel
theorem dX4_isSame_178 : decode cX4_isSame 178 = .ok (.goto 4, 3) := by decide +kernel
theorem dX4_isSame_181 : decode cX4_isSame 181 = .ok (.iconst 0, 1) := by decide +kernel
theorem dX4_isSame_182 : decode cX4_isSame 182 = .ok (.ireturn, 1) := by decide +kernel
theorem dJ9_floorMod_7cf53_0 : decode cJ9_floorMod_7cf53 0 = .ok (.iload_n 0, 1) := by decide +kernel
theorem dJ9_floorMod_7cf53_1 : decode cJ9_floorMod_7cf53 1 = .ok (.iload_n 1, 1) := by decide +kernel
theorem dJ9_floorMod_7cf53_2 : decode cJ9_floorMod_7cf53 2 = .ok (.irem, 1) := by decide +kernel
theorem dJ9_floorMod_7cf53_3 : decode cJ9_floorMod_7cf53 3 = .ok (.istore_n 2, 1) := by decide +kernel
theorem dJ9_floorMod_7cf53_4 : decode cJ9_floorMod_7cf53 4 = .ok (.iload_n 0, 1) := by decide +kernel
theorem dJ9_floorMod_7cf53_5 : decode cJ9_floorMod_7cf53 5 = .ok (.iload_n 1, 1) := by decide +kernel
theorem dJ9_floorMod_7cf53_6 : decode cJ9_floorMod_7cf53 6 = .ok (.ixor, 1) := by decide +kernel
theorem dJ9_floorMod_7cf53_7 : decode cJ9_floorMod_7cf53 7 = .ok (.ifCond .ge 11, 3) := by decide +kernel
theorem dJ9_floorMod_7cf53_10 : decode cJ9_floorMod_7cf53 10 = .ok (.iload_n 2, 1) := by decide +kernel
theorem dJ9_floorMod_7cf53_11 : decode cJ9_floorMod_7cf53 11 = .ok (.ifCond .eq 7, 3) := by decide +kernel
theorem dJ9_floorMod_7cf53_14 : decode cJ9_floorMod_7cf53 14 = .ok (.iload_n 2, 1) := by decide +kernel
theorem dJ9_floorMod_7cf53_15 : decode cJ9_floorMod_7cf53 15 = .ok (.iload_n 1, 1) := by decide +kernel
theorem dJ9_floorMod_7cf53_16 : decode cJ9_floorMod_7cf53 16 = .ok (.iadd, 1) := by decide +kernel
theorem dJ9_floorMod_7cf53_17 : decode cJ9_floorMod_7cf53 17 = .ok (.ireturn, 1) := by decide +kernel
theorem dJ9_floorMod_7cf53_18 : decode cJ9_floorMod_7cf53 18 = .ok (.iload_n 2, 1) := by decide +kernel
theorem dJ9_floorMod_7cf53_19 : decode cJ9_floorMod_7cf53 19 = .ok (.ireturn, 1) := by decide +kernel
theorem dJ9_max_7cf53_0 : decode cJ9_max_7cf53 0 = .ok (.iload_n 0, 1) := by decide +kernel
theorem dJ9_max_7cf53_1 : decode cJ9_max_7cf53 1 = .ok (.iload_n 1, 1) := by decide +kernel
theorem dJ9_max_7cf53_2 : decode cJ9_max_7cf53 2 = .ok (.if_icmp .lt 7, 3) := by decide +kernel
theorem dJ9_max_7cf53_5 : decode cJ9_max_7cf53 5 = .ok (.iload_n 0, 1) := by decide +kernel
theorem dJ9_max_7cf53_6 : decode cJ9_max_7cf53 6 = .ok (.goto 4, 3) := by decide +kernel
theorem dJ9_max_7cf53_9 : decode cJ9_max_7cf53 9 = .ok (.iload_n 1, 1) := by decide +kernel
theorem dJ9_max_7cf53_10 : decode cJ9_max_7cf53 10 = .ok (.ireturn, 1) := by decide +kernel
theorem dJ9_min_7cf53_0 : decode cJ9_min_7cf53 0 = .ok (.iload_n 0, 1) := by decide +kernel
theorem dJ9_min_7cf53_1 : decode cJ9_min_7cf53 1 = .ok (.iload_n 1, 1) := by decide +kernel
theorem dJ9_min_7cf53_2 : decode cJ9_min_7cf53 2 = .ok (.if_icmp .gt 7, 3) := by decide +kernel
theorem dJ9_min_7cf53_5 : decode cJ9_min_7cf53 5 = .ok (.iload_n 0, 1) := by decide +kernel
theorem dJ9_min_7cf53_6 : decode cJ9_min_7cf53 6 = .ok (.goto 4, 3) := by decide +kernel
theorem dJ9_min_7cf53_9 : decode cJ9_min_7cf53 9 = .ok (.iload_n 1, 1) := by decide +kernel
theorem dJ9_min_7cf53_10 : decode cJ9_min_7cf53 10 = .ok (.ireturn, 1) := by decide +kernel
theorem dJ7_fill_53178_0 : decode cJ7_fill_53178 0 = .ok (.iconst 0, 1) := by decide +kernel
theorem dJ7_fill_53178_1 : decode cJ7_fill_53178 1 = .ok (.istore_n 2, 1) := by decide +kernel
theorem dJ7_fill_53178_2 : decode cJ7_fill_53178 2 = .ok (.aload_n 0, 1) := by decide +kernel
theorem dJ7_fill_53178_3 : decode cJ7_fill_53178 3 = .ok (.arraylength, 1) := by decide +kernel
theorem dJ7_fill_53178_4 : decode cJ7_fill_53178 4 = .ok (.istore_n 3, 1) := by decide +kernel
theorem dJ7_fill_53178_5 : decode cJ7_fill_53178 5 = .ok (.iload_n 2, 1) := by decide +kernel
theorem dJ7_fill_53178_6 : decode cJ7_fill_53178 6 = .ok (.iload_n 3, 1) := by decide +kernel
theorem dJ7_fill_53178_7 : decode cJ7_fill_53178 7 = .ok (.if_icmp .ge 13, 3) := by decide +kernel
theorem dJ7_fill_53178_10 : decode cJ7_fill_53178 10 = .ok (.aload_n 0, 1) := by decide +kernel
theorem dJ7_fill_53178_11 : decode cJ7_fill_53178 11 = .ok (.iload_n 2, 1) := by decide +kernel
theorem dJ7_fill_53178_12 : decode cJ7_fill_53178 12 = .ok (.iload_n 1, 1) := by decide +kernel
theorem dJ7_fill_53178_13 : decode cJ7_fill_53178 13 = .ok (.iastore, 1) := by decide +kernel
theorem dJ7_fill_53178_14 : decode cJ7_fill_53178 14 = .ok (.iinc 2 1, 3) := by decide +kernel
theorem dJ7_fill_53178_17 : decode cJ7_fill_53178 17 = .ok (.goto (-12), 3) := by decide +kernel
theorem dJ7_fill_53178_20 : decode cJ7_fill_53178 20 = .ok (.return_, 1) := by decide +kernel
