theorem dX4_scoop_22 : decode cX4_scoop 22 = .ok (.iconst 1, 1) := by decide +kernel
theorem dX4_scoop_23 : decode cX4_scoop 23 = .ok (.invokevirtual 33, 3) := by decide +kernel
theorem dX4_scoop_26 : decode cX4_scoop 26 = .ok (.ireturn, 1) := by decide +kernel
theorem dX4_scoop_27 : decode cX4_scoop 27 = .ok (.aload_n 0, 1) := by decide +kernel
theorem dX4_scoop_28 : decode cX4_scoop 28 = .ok (.iload_n 1, 1) := by decide +kernel
theorem dX4_scoop_29 : decode cX4_scoop 29 = .ok (.iconst 1, 1) := by decide +kernel
theorem dX4_scoop_30 : decode cX4_scoop 30 = .ok (.invokevirtual 46, 3) := by decide +kernel
theorem dX4_scoop_33 : decode cX4_scoop 33 = .ok (.ifCond .eq 14, 3) := by decide +kernel
theorem dX4_scoop_36 : decode cX4_scoop 36 = .ok (.aload_n 0, 1) := by decide +kernel
theorem dX4_scoop_37 : decode cX4_scoop 37 = .ok (.iload_n 1, 1) := by decide +kernel
theorem dX4_scoop_38 : decode cX4_scoop 38 = .ok (.iconst 2, 1) := by decide +kernel
theorem dX4_scoop_39 : decode cX4_scoop 39 = .ok (.invokevirtual 46, 3) := by decide +kernel
theorem dX4_scoop_42 : decode cX4_scoop 42 = .ok (.bipush 50, 2) := by decide +kernel
theorem dX4_scoop_44 : decode cX4_scoop 44 = .ok (.if_icmp .ge 9, 3) := by decide +kernel
theorem dX4_scoop_47 : decode cX4_scoop 47 = .ok (.aload_n 0, 1) := by decide +kernel
theorem dX4_scoop_48 : decode cX4_scoop 48 = .ok (.iconst 2, 1) := by decide +kernel
theorem dX4_scoop_49 : decode cX4_scoop 49 = .ok (.invokevirtual 33, 3) := by decide +kernel
theorem dX4_scoop_52 : decode cX4_scoop 52 = .ok (.ireturn, 1) := by decide +kernel
theorem dX4_scoop_53 : decode cX4_scoop 53 = .ok (.aload_n 0, 1) := by decide +kernel
theorem dX4_scoop_54 : decode cX4_scoop 54 = .ok (.iload_n 2, 1) := by decide +kernel
theorem dX4_scoop_55 : decode cX4_scoop 55 = .ok (.iconst 0, 1) := by decide +kernel
theorem dX4_scoop_56 : decode cX4_scoop 56 = .ok (.bipush 60, 2) := by decide +kernel
theorem dX4_scoop_58 : decode cX4_scoop 58 = .ok (.aload_n 0, 1) := by decide +kernel
theorem dX4_scoop_59 : decode cX4_scoop 59 = .ok (.iload_n 2, 1) := by decide +kernel
theorem dX4_scoop_60 : decode cX4_scoop 60 = .ok (.iconst 0, 1) := by decide +kernel
theorem dX4_scoop_61 : decode cX4_scoop 61 = .ok (.invokevirtual 64, 3) := by decide +kernel
theorem dX4_scoop_64 : decode cX4_scoop 64 = .ok (.iconst 2, 1) := by decide +kernel
theorem dX4_scoop_65 : decode cX4_scoop 65 = .ok (.aload_n 0, 1) := by decide +kernel
theorem dX4_scoop_66 : decode cX4_scoop 66 = .ok (.iload_n 1, 1) := by decide +kernel
theorem dX4_scoop_67 : decode cX4_scoop 67 = .ok (.iconst 1, 1) := by decide +kernel
theorem dX4_scoop_68 : decode cX4_scoop 68 = .ok (.invokevirtual 46, 3) := by decide +kernel
theorem dX4_scoop_71 : decode cX4_scoop 71 = .ok (.imul, 1) := by decide +kernel
theorem dX4_scoop_72 : decode cX4_scoop 72 = .ok (.iadd, 1) := by decide +kernel
theorem dX4_scoop_73 : decode cX4_scoop 73 = .ok (.invokestatic 40, 3) := by decide +kernel
theorem dX4_scoop_76 : decode cX4_scoop 76 = .ok (.invokevirtual 67, 3) := by decide +kernel
theorem dX4_scoop_79 : decode cX4_scoop 79 = .ok (.aload_n 0, 1) := by decide +kernel
theorem dX4_scoop_80 : decode cX4_scoop 80 = .ok (.iload_n 2, 1) := by decide +kernel
theorem dX4_scoop_81 : decode cX4_scoop 81 = .ok (.iconst 1, 1) := by decide +kernel
theorem dX4_scoop_82 : decode cX4_scoop 82 = .ok (.aload_n 0, 1) := by decide +kernel
theorem dX4_scoop_83 : decode cX4_scoop 83 = .ok (.iload_n 2, 1) := by decide +kernel
theorem dX4_scoop_84 : decode cX4_scoop 84 = .ok (.iconst 1, 1) := by decide +kernel
theorem dX4_scoop_85 : decode cX4_scoop 85 = .ok (.invokevirtual 64, 3) := by decide +kernel
theorem dX4_scoop_88 : decode cX4_scoop 88 = .ok (.bipush 100, 2) := by decide +kernel
theorem dX4_scoop_90 : decode cX4_scoop 90 = .ok (.aload_n 0, 1) := by decide +kernel
theorem dX4_scoop_91 : decode cX4_scoop 91 = .ok (.iload_n 1, 1) := by decide +kernel
theorem dX4_scoop_92 : decode cX4_scoop 92 = .ok (.iconst 2, 1) := by decide +kernel
theorem dX4_scoop_93 : decode cX4_scoop 93 = .ok (.invokevirtual 46, 3) := by decide +kernel
theorem dX4_scoop_96 : decode cX4_scoop 96 = .ok (.isub, 1) := by decide +kernel
theorem dX4_scoop_97 : decode cX4_scoop 97 = .ok (.invokestatic 70, 3) := by decide +kernel
theorem dX4_scoop_100 : decode cX4_scoop 100 = .ok (.invokevirtual 67, 3) := by decide +kernel
theorem dX4_scoop_103 : decode cX4_scoop 103 = .ok (.aload_n 0, 1) := by decide +kernel
theorem dX4_scoop_104 : decode cX4_scoop 104 = .ok (.iload_n 1, 1) := by decide +kernel
theorem dX4_scoop_105 : decode cX4_scoop 105 = .ok (.iconst 1, 1) := by decide +kernel
theorem dX4_scoop_106 : decode cX4_scoop 106 = .ok (.iconst 0, 1) := by decide +kernel
theorem dX4_scoop_107 : decode cX4_scoop 107 = .ok (.invokevirtual 57, 3) := by decide +kernel
theorem dX4_scoop_110 : decode cX4_scoop 110 = .ok (.aload_n 0, 1) := by decide +kernel
theorem dX4_scoop_111 : decode cX4_scoop 111 = .ok (.iload_n 1, 1) := by decide +kernel
theorem dX4_scoop_112 : decode cX4_scoop 112 = .ok (.iconst 2, 1) := by decide +kernel
theorem dX4_scoop_113 : decode cX4_scoop 113 = .ok (.iconst 0, 1) := by decide +kernel
theorem dX4_scoop_114 : decode cX4_scoop 114 = .ok (.invokevirtual 57, 3) := by decide +kernel
theorem dX4_scoop_117 : decode cX4_scoop 117 = .ok (.aload_n 0, 1) := by decide +kernel
theorem dX4_scoop_118 : decode cX4_scoop 118 = .ok (.iload_n 2, 1) := by decide +kernel
theorem dX4_scoop_119 : decode cX4_scoop 119 = .ok (.iconst 0, 1) := by decide +kernel
theorem dX4_scoop_120 : decode cX4_scoop 120 = .ok (.invokevirtual 64, 3) := by decide +kernel
theorem dX4_scoop_123 : decode cX4_scoop 123 = .ok (.ireturn, 1) := by decide +kernel
set_option maxRecDepth 20000 in
theorem ggX4_told_X4_isChurn : GoodIn wsX4_told wsX4_isChurn := goodIn_r _ [6, 7, 8, 9, 5, 10, 20, 21, 22, 23, 24, 25] (by decide +kernel) (by decide +kernel)
set_option maxRecDepth 20000 in
theorem gX4_told_X4_isChurn : GoodIn wsX4_told (wsV RX4 49 RX4 yX4_isChurn wsX4_isChurn) := goodIn_app (goodIn_of _ (by decide +kernel)) ggX4_told_X4_isChurn
set_option maxRecDepth 20000 in
theorem ggX4_told_X4_isIn : GoodIn wsX4_told wsX4_isIn := goodIn_r _ [10] (by decide +kernel) (by decide +kernel)
set_option maxRecDepth 20000 in
theorem gX4_told_X4_isIn : GoodIn wsX4_told (va_wsS RX4 26 yX4_isIn wsX4_isIn) := goodIn_app (goodIn_of _ (by decide +kernel)) ggX4_told_X4_isIn
set_option maxRecDepth 20000 in
theorem ggX4_told_X4_ch : GoodIn wsX4_told wsX4_ch := goodIn_r _ [14, 15, 20, 21, 22, 23, 24, 25] (by decide +kernel) (by decide +kernel)
set_option maxRecDepth 20000 in
theorem gX4_told_X4_ch : GoodIn wsX4_told (wsV RX4 46 RX4 yX4_ch wsX4_ch) := goodIn_app (goodIn_of _ (by decide +kernel)) ggX4_told_X4_ch
set_option maxRecDepth 20000 in
theorem ggX4_told_X4_no : GoodIn wsX4_told wsX4_no := goodIn_r _ [19, 1, 20, 21, 22, 23, 24, 25] (by decide +kernel) (by decide +kernel)
set_option maxRecDepth 20000 in
theorem gX4_told_X4_no : GoodIn wsX4_told (wsV RX4 33 RX4 yX4_no wsX4_no) := goodIn_app (goodIn_of _ (by decide +kernel)) ggX4_told_X4_no
theorem dX4_told_0 : decode cX4_told 0 = .ok (.aload_n 0, 1) := by decide +kernel
theorem dX4_told_1 : decode cX4_told 1 = .ok (.iconst 0, 1) := by decide +kernel
theorem dX4_told_2 : decode cX4_told 2 = .ok (.putfield 19, 3) := by decide +kernel
theorem dX4_told_5 : decode cX4_told 5 = .ok (.aload_n 0, 1) := by decide +kernel
theorem dX4_told_6 : decode cX4_told 6 = .ok (.iload_n 1, 1) := by decide +kernel
theorem dX4_told_7 : decode cX4_told 7 = .ok (.invokevirtual 49, 3) := by decide +kernel
theorem dX4_told_10 : decode cX4_told 10 = .ok (.ifCond .eq 21, 3) := by decide +kernel
theorem dX4_told_13 : decode cX4_told 13 = .ok (.iload_n 2, 1) := by decide +kernel
theorem dX4_told_14 : decode cX4_told 14 = .ok (.iconst 0, 1) := by decide +kernel
theorem dX4_told_15 : decode cX4_told 15 = .ok (.iconst 2, 1) := by decide +kernel
theorem dX4_told_16 : decode cX4_told 16 = .ok (.invokestatic 26, 3) := by decide +kernel
theorem dX4_told_19 : decode cX4_told 19 = .ok (.ifCond .eq 12, 3) := by decide +kernel
theorem dX4_told_22 : decode cX4_told 22 = .ok (.aload_n 0, 1) := by decide +kernel
theorem dX4_told_23 : decode cX4_told 23 = .ok (.iload_n 1, 1) := by decide +kernel
theorem dX4_told_24 : decode cX4_told 24 = .ok (.iload_n 2, 1) := by decide +kernel
theorem dX4_told_25 : decode cX4_told 25 = .ok (.invokevirtual 46, 3) := by decide +kernel
theorem dX4_told_28 : decode cX4_told 28 = .ok (.goto 8, 3) := by decide +kernel
theorem dX4_told_31 : decode cX4_told 31 = .ok (.aload_n 0, 1) := by decide +kernel
theorem dX4_told_32 : decode cX4_told 32 = .ok (.iconst 1, 1) := by decide +kernel
theorem dX4_told_33 : decode cX4_told 33 = .ok (.invokevirtual 33, 3) := by decide +kernel
theorem dX4_told_36 : decode cX4_told 36 = .ok (.ireturn, 1) := by decide +kernel
set_option maxRecDepth 20000 in
theorem ggX4_about_X4_isTub : GoodIn wsX4_about wsX4_isTub := goodIn_r _ [6, 7, 8, 9, 5, 10, 20, 21, 22, 23, 24, 25] (by decide +kernel) (by decide +kernel)
set_option maxRecDepth 20000 in
theorem gX4_about_X4_isTub : GoodIn wsX4_about (wsV RX4 61 RX4 yX4_isTub wsX4_isTub) := goodIn_app (goodIn_of _ (by decide +kernel)) ggX4_about_X4_isTub
set_option maxRecDepth 20000 in
theorem ggX4_about_X4_isIn : GoodIn wsX4_about wsX4_isIn := goodIn_r _ [10] (by decide +kernel) (by decide +kernel)
set_option maxRecDepth 20000 in
theorem gX4_about_X4_isIn : GoodIn wsX4_about (va_wsS RX4 26 yX4_isIn wsX4_isIn) := goodIn_app (goodIn_of _ (by decide +kernel)) ggX4_about_X4_isIn
set_option maxRecDepth 20000 in
theorem ggX4_about_X4_tu : GoodIn wsX4_about wsX4_tu := goodIn_r _ [14, 15, 20, 21, 22, 23, 24, 25] (by decide +kernel) (by decide +kernel)
set_option maxRecDepth 20000 in
theorem gX4_about_X4_tu : GoodIn wsX4_about (wsV RX4 64 RX4 yX4_tu wsX4_tu) := goodIn_app (goodIn_of _ (by decide +kernel)) ggX4_about_X4_tu
set_option maxRecDepth 20000 in
theorem ggX4_about_X4_no : GoodIn wsX4_about wsX4_no := goodIn_r _ [19, 1, 20, 21, 22, 23, 24, 25] (by decide +kernel) (by decide +kernel)
set_option maxRecDepth 20000 in
theorem gX4_about_X4_no : GoodIn wsX4_about (wsV RX4 33 RX4 yX4_no wsX4_no) := goodIn_app (goodIn_of _ (by decide +kernel)) ggX4_about_X4_no
theorem dX4_about_0 : decode cX4_about 0 = .ok (.aload_n 0, 1) := by decide +kernel
theorem dX4_about_1 : decode cX4_about 1 = .ok (.iconst 0, 1) := by decide +kernel
theorem dX4_about_2 : decode cX4_about 2 = .ok (.putfield 19, 3) := by decide +kernel
theorem dX4_about_5 : decode cX4_about 5 = .ok (.aload_n 0, 1) := by decide +kernel
theorem dX4_about_6 : decode cX4_about 6 = .ok (.iload_n 1, 1) := by decide +kernel
theorem dX4_about_7 : decode cX4_about 7 = .ok (.invokevirtual 61, 3) := by decide +kernel
theorem dX4_about_10 : decode cX4_about 10 = .ok (.ifCond .eq 21, 3) := by decide +kernel
theorem dX4_about_13 : decode cX4_about 13 = .ok (.iload_n 2, 1) := by decide +kernel
theorem dX4_about_14 : decode cX4_about 14 = .ok (.iconst 0, 1) := by decide +kernel
theorem dX4_about_15 : decode cX4_about 15 = .ok (.iconst 2, 1) := by decide +kernel
theorem dX4_about_16 : decode cX4_about 16 = .ok (.invokestatic 26, 3) := by decide +kernel
theorem dX4_about_19 : decode cX4_about 19 = .ok (.ifCond .eq 12, 3) := by decide +kernel
theorem dX4_about_22 : decode cX4_about 22 = .ok (.aload_n 0, 1) := by decide +kernel
theorem dX4_about_23 : decode cX4_about 23 = .ok (.iload_n 1, 1) := by decide +kernel
theorem dX4_about_24 : decode cX4_about 24 = .ok (.iload_n 2, 1) := by decide +kernel
theorem dX4_about_25 : decode cX4_about 25 = .ok (.invokevirtual 64, 3) := by decide +kernel
theorem dX4_about_28 : decode cX4_about 28 = .ok (.goto 8, 3) := by decide +kernel
theorem dX4_about_31 : decode cX4_about 31 = .ok (.aload_n 0, 1) := by decide +kernel
theorem dX4_about_32 : decode cX4_about 32 = .ok (.iconst 1, 1) := by decide +kernel
theorem dX4_about_33 : decode cX4_about 33 = .ok (.invokevirtual 33, 3) := by decide +kernel
theorem dX4_about_36 : decode cX4_about 36 = .ok (.ireturn, 1) := by decide +kernel
set_option maxRecDepth 20000 in
theorem ggX4_sum_X4_tu : GoodIn wsX4_sum wsX4_tu := goodIn_r _ [6, 7, 8, 9, 10, 11, 12, 13] (by decide +kernel) (by decide +kernel)
set_option maxRecDepth 20000 in
theorem gX4_sum_X4_tu : GoodIn wsX4_sum (wsV RX4 64 RX4 yX4_tu wsX4_tu) := goodIn_app (goodIn_of _ (by decide +kernel)) ggX4_sum_X4_tu
theorem dX4_sum_0 : decode cX4_sum 0 = .ok (.iconst 0, 1) := by decide +kernel
theorem dX4_sum_1 : decode cX4_sum 1 = .ok (.istore_n 2, 1) := by decide +kernel
theorem dX4_sum_2 : decode cX4_sum 2 = .ok (.iconst 0, 1) := by decide +kernel
theorem dX4_sum_3 : decode cX4_sum 3 = .ok (.istore_n 3, 1) := by decide +kernel
theorem dX4_sum_4 : decode cX4_sum 4 = .ok (.iload_n 3, 1) := by decide +kernel
theorem dX4_sum_5 : decode cX4_sum 5 = .ok (.aload_n 0, 1) := by decide +kernel
theorem dX4_sum_6 : decode cX4_sum 6 = .ok (.getfield 30, 3) := by decide +kernel
theorem dX4_sum_9 : decode cX4_sum 9 = .ok (.if_icmp .ge 18, 3) := by decide +kernel
theorem dX4_sum_12 : decode cX4_sum 12 = .ok (.iload_n 2, 1) := by decide +kernel
theorem dX4_sum_13 : decode cX4_sum 13 = .ok (.aload_n 0, 1) := by decide +kernel
theorem dX4_sum_14 : decode cX4_sum 14 = .ok (.iload_n 3, 1) := by decide +kernel
theorem dX4_sum_15 : decode cX4_sum 15 = .ok (.iload_n 1, 1) := by decide +kernel
theorem dX4_sum_16 : decode cX4_sum 16 = .ok (.invokevirtual 64, 3) := by decide +kernel
theorem dX4_sum_19 : decode cX4_sum 19 = .ok (.iadd, 1) := by decide +kernel
theorem dX4_sum_20 : decode cX4_sum 20 = .ok (.istore_n 2, 1) := by decide +kernel
theorem dX4_sum_21 : decode cX4_sum 21 = .ok (.iinc 3 1, 3) := by decide +kernel
theorem dX4_sum_24 : decode cX4_sum 24 = .ok (.goto (-20), 3) := by decide +kernel
theorem dX4_sum_27 : decode cX4_sum 27 = .ok (.iload_n 2, 1) := by decide +kernel
theorem dX4_sum_28 : decode cX4_sum 28 = .ok (.ireturn, 1) := by decide +kernel
set_option maxRecDepth 20000 in
theorem ggX4_counted_X4_heatNow : GoodIn wsX4_counted wsX4_heatNow := goodIn_r _ [7, 8, 2, 18, 19, 20, 21, 22, 23] (by decide +kernel) (by decide +kernel)
set_option maxRecDepth 20000 in
theorem gX4_counted_X4_heatNow : GoodIn wsX4_counted (wsV RX4 73 RX4 yX4_heatNow wsX4_heatNow) := goodIn_app (goodIn_of _ (by decide +kernel)) ggX4_counted_X4_heatNow
set_option maxRecDepth 20000 in
theorem ggX4_counted_X4_sum : GoodIn wsX4_counted wsX4_sum := goodIn_r _ [12, 13, 14, 15, 16, 6, 17, 2, 18, 19, 20, 21, 22, 23] (by decide +kernel) (by decide +kernel)
set_option maxRecDepth 20000 in
theorem gX4_counted_X4_sum : GoodIn wsX4_counted (wsV RX4 77 RX4 yX4_sum wsX4_sum) := goodIn_app (goodIn_of _ (by decide +kernel)) ggX4_counted_X4_sum
theorem dX4_counted_0 : decode cX4_counted 0 = .ok (.bipush 10, 2) := by decide +kernel
theorem dX4_counted_2 : decode cX4_counted 2 = .ok (.newarray .int, 2) := by decide +kernel
theorem dX4_counted_4 : decode cX4_counted 4 = .ok (.dup, 1) := by decide +kernel
theorem dX4_counted_5 : decode cX4_counted 5 = .ok (.iconst 0, 1) := by decide +kernel
theorem dX4_counted_6 : decode cX4_counted 6 = .ok (.aload_n 0, 1) := by decide +kernel
theorem dX4_counted_7 : decode cX4_counted 7 = .ok (.getfield 9, 3) := by decide +kernel
theorem dX4_counted_10 : decode cX4_counted 10 = .ok (.iconst 0, 1) := by decide +kernel
theorem dX4_counted_11 : decode cX4_counted 11 = .ok (.iaload, 1) := by decide +kernel
theorem dX4_counted_12 : decode cX4_counted 12 = .ok (.iastore, 1) := by decide +kernel
theorem dX4_counted_13 : decode cX4_counted 13 = .ok (.dup, 1) := by decide +kernel
theorem dX4_counted_14 : decode cX4_counted 14 = .ok (.iconst 1, 1) := by decide +kernel
theorem dX4_counted_15 : decode cX4_counted 15 = .ok (.aload_n 0, 1) := by decide +kernel
theorem dX4_counted_16 : decode cX4_counted 16 = .ok (.invokevirtual 73, 3) := by decide +kernel
theorem dX4_counted_19 : decode cX4_counted 19 = .ok (.iastore, 1) := by decide +kernel
theorem dX4_counted_20 : decode cX4_counted 20 = .ok (.dup, 1) := by decide +kernel
theorem dX4_counted_21 : decode cX4_counted 21 = .ok (.iconst 2, 1) := by decide +kernel
theorem dX4_counted_22 : decode cX4_counted 22 = .ok (.aload_n 0, 1) := by decide +kernel
theorem dX4_counted_23 : decode cX4_counted 23 = .ok (.getfield 9, 3) := by decide +kernel
theorem dX4_counted_26 : decode cX4_counted 26 = .ok (.iconst 1, 1) := by decide +kernel
theorem dX4_counted_27 : decode cX4_counted 27 = .ok (.iaload, 1) := by decide +kernel
theorem dX4_counted_28 : decode cX4_counted 28 = .ok (.iastore, 1) := by decide +kernel
theorem dX4_counted_29 : decode cX4_counted 29 = .ok (.dup, 1) := by decide +kernel
theorem dX4_counted_30 : decode cX4_counted 30 = .ok (.iconst 3, 1) := by decide +kernel
theorem dX4_counted_31 : decode cX4_counted 31 = .ok (.aload_n 0, 1) := by decide +kernel
theorem dX4_counted_32 : decode cX4_counted 32 = .ok (.getfield 9, 3) := by decide +kernel
theorem dX4_counted_35 : decode cX4_counted 35 = .ok (.iconst 2, 1) := by decide +kernel
theorem dX4_counted_36 : decode cX4_counted 36 = .ok (.iaload, 1) := by decide +kernel
theorem dX4_counted_37 : decode cX4_counted 37 = .ok (.iastore, 1) := by decide +kernel
theorem dX4_counted_38 : decode cX4_counted 38 = .ok (.dup, 1) := by decide +kernel
theorem dX4_counted_39 : decode cX4_counted 39 = .ok (.iconst 4, 1) := by decide +kernel
theorem dX4_counted_40 : decode cX4_counted 40 = .ok (.aload_n 0, 1) := by decide +kernel
theorem dX4_counted_41 : decode cX4_counted 41 = .ok (.getfield 9, 3) := by decide +kernel
theorem dX4_counted_44 : decode cX4_counted 44 = .ok (.iconst 3, 1) := by decide +kernel
theorem dX4_counted_45 : decode cX4_counted 45 = .ok (.iaload, 1) := by decide +kernel
theorem dX4_counted_46 : decode cX4_counted 46 = .ok (.iastore, 1) := by decide +kernel
theorem dX4_counted_47 : decode cX4_counted 47 = .ok (.dup, 1) := by decide +kernel
theorem dX4_counted_48 : decode cX4_counted 48 = .ok (.iconst 5, 1) := by decide +kernel
theorem dX4_counted_49 : decode cX4_counted 49 = .ok (.aload_n 0, 1) := by decide +kernel
theorem dX4_counted_50 : decode cX4_counted 50 = .ok (.getfield 9, 3) := by decide +kernel
theorem dX4_counted_53 : decode cX4_counted 53 = .ok (.iconst 4, 1) := by decide +kernel
theorem dX4_counted_54 : decode cX4_counted 54 = .ok (.iaload, 1) := by decide +kernel
theorem dX4_counted_55 : decode cX4_counted 55 = .ok (.iastore, 1) := by decide +kernel
theorem dX4_counted_56 : decode cX4_counted 56 = .ok (.dup, 1) := by decide +kernel
theorem dX4_counted_57 : decode cX4_counted 57 = .ok (.bipush 6, 2) := by decide +kernel
theorem dX4_counted_59 : decode cX4_counted 59 = .ok (.aload_n 0, 1) := by decide +kernel
theorem dX4_counted_60 : decode cX4_counted 60 = .ok (.getfield 9, 3) := by decide +kernel
theorem dX4_counted_63 : decode cX4_counted 63 = .ok (.iconst 5, 1) := by decide +kernel
theorem dX4_counted_64 : decode cX4_counted 64 = .ok (.iaload, 1) := by decide +kernel
theorem dX4_counted_65 : decode cX4_counted 65 = .ok (.iastore, 1) := by decide +kernel
theorem dX4_counted_66 : decode cX4_counted 66 = .ok (.dup, 1) := by decide +kernel
theorem dX4_counted_67 : decode cX4_counted 67 = .ok (.bipush 7, 2) := by decide +kernel
theorem dX4_counted_69 : decode cX4_counted 69 = .ok (.aload_n 0, 1) := by decide +kernel
theorem dX4_counted_70 : decode cX4_counted 70 = .ok (.iconst 0, 1) := by decide +kernel
theorem dX4_counted_71 : decode cX4_counted 71 = .ok (.invokevirtual 77, 3) := by decide +kernel
theorem dX4_counted_74 : decode cX4_counted 74 = .ok (.iastore, 1) := by decide +kernel
theorem dX4_counted_75 : decode cX4_counted 75 = .ok (.dup, 1) := by decide +kernel
theorem dX4_counted_76 : decode cX4_counted 76 = .ok (.bipush 8, 2) := by decide +kernel
theorem dX4_counted_78 : decode cX4_counted 78 = .ok (.aload_n 0, 1) := by decide +kernel
theorem dX4_counted_79 : decode cX4_counted 79 = .ok (.iconst 2, 1) := by decide +kernel
theorem dX4_counted_80 : decode cX4_counted 80 = .ok (.invokevirtual 77, 3) := by decide +kernel
theorem dX4_counted_83 : decode cX4_counted 83 = .ok (.iastore, 1) := by decide +kernel
theorem dX4_counted_84 : decode cX4_counted 84 = .ok (.dup, 1) := by decide +kernel
theorem dX4_counted_85 : decode cX4_counted 85 = .ok (.bipush 9, 2) := by decide +kernel
theorem dX4_counted_87 : decode cX4_counted 87 = .ok (.aload_n 0, 1) := by decide +kernel
theorem dX4_counted_88 : decode cX4_counted 88 = .ok (.getfield 9, 3) := by decide +kernel
theorem dX4_counted_91 : decode cX4_counted 91 = .ok (.bipush 6, 2) := by decide +kernel
theorem dX4_counted_93 : decode cX4_counted 93 = .ok (.iaload, 1) := by decide +kernel
theorem dX4_counted_94 : decode cX4_counted 94 = .ok (.iastore, 1) := by decide +kernel
theorem dX4_counted_95 : decode cX4_counted 95 = .ok (.astore_n 2, 1) := by decide +kernel
theorem dX4_counted_96 : decode cX4_counted 96 = .ok (.aload_n 2, 1) := by decide +kernel
theorem dX4_counted_97 : decode cX4_counted 97 = .ok (.iload_n 1, 1) := by decide +kernel
theorem dX4_counted_98 : decode cX4_counted 98 = .ok (.iaload, 1) := by decide +kernel
theorem dX4_counted_99 : decode cX4_counted 99 = .ok (.ireturn, 1) := by decide +kernel
set_option maxRecDepth 20000 in
theorem ggX4_count_X4_isIn : GoodIn wsX4_count wsX4_isIn := goodIn_r _ [5] (by decide +kernel) (by decide +kernel)
set_option maxRecDepth 20000 in
theorem gX4_count_X4_isIn : GoodIn wsX4_count (va_wsS RX4 26 yX4_isIn wsX4_isIn) := goodIn_app (goodIn_of _ (by decide +kernel)) ggX4_count_X4_isIn
set_option maxRecDepth 20000 in
theorem ggX4_count_X4_counted : GoodIn wsX4_count wsX4_counted := goodIn_r _ [9, 10, 11, 12, 13, 14, 4, 15, 16, 17, 18, 19, 20, 21, 22, 23, 24, 25, 30, 31, 32, 33, 34, 35] (by decide +kernel) (by decide +kernel)
set_option maxRecDepth 20000 in
theorem gX4_count_X4_counted : GoodIn wsX4_count (wsV RX4 80 RX4 yX4_counted wsX4_counted) := goodIn_app (goodIn_of _ (by decide +kernel)) ggX4_count_X4_counted
set_option maxRecDepth 20000 in
theorem ggX4_count_X4_no : GoodIn wsX4_count wsX4_no := goodIn_r _ [29, 1, 30, 31, 32, 33, 34, 35] (by decide +kernel) (by decide +kernel)
set_option maxRecDepth 20000 in
theorem gX4_count_X4_no : GoodIn wsX4_count (wsV RX4 33 RX4 yX4_no wsX4_no) := goodIn_app (goodIn_of _ (by decide +kernel)) ggX4_count_X4_no
theorem dX4_count_0 : decode cX4_count 0 = .ok (.aload_n 0, 1) := by decide +kernel
theorem dX4_count_1 : decode cX4_count 1 = .ok (.iconst 0, 1) := by decide +kernel
theorem dX4_count_2 : decode cX4_count 2 = .ok (.putfield 19, 3) := by decide +kernel
theorem dX4_count_5 : decode cX4_count 5 = .ok (.iload_n 1, 1) := by decide +kernel
theorem dX4_count_6 : decode cX4_count 6 = .ok (.iconst 0, 1) := by decide +kernel
theorem dX4_count_7 : decode cX4_count 7 = .ok (.bipush 9, 2) := by decide +kernel
theorem dX4_count_9 : decode cX4_count 9 = .ok (.invokestatic 26, 3) := by decide +kernel
theorem dX4_count_12 : decode cX4_count 12 = .ok (.ifCond .eq 11, 3) := by decide +kernel
theorem dX4_count_15 : decode cX4_count 15 = .ok (.aload_n 0, 1) := by decide +kernel
theorem dX4_count_16 : decode cX4_count 16 = .ok (.iload_n 1, 1) := by decide +kernel
theorem dX4_count_17 : decode cX4_count 17 = .ok (.invokevirtual 80, 3) := by decide +kernel
theorem dX4_count_20 : decode cX4_count 20 = .ok (.goto 8, 3) := by decide +kernel
theorem dX4_count_23 : decode cX4_count 23 = .ok (.aload_n 0, 1) := by decide +kernel
theorem dX4_count_24 : decode cX4_count 24 = .ok (.iconst 1, 1) := by decide +kernel
theorem dX4_count_25 : decode cX4_count 25 = .ok (.invokevirtual 33, 3) := by decide +kernel
theorem dX4_count_28 : decode cX4_count 28 = .ok (.ireturn, 1) := by decide +kernel
set_option maxRecDepth 20000 in
theorem ggX4_nextTub_X4_tu : GoodIn wsX4_nextTub wsX4_tu := goodIn_r _ [6, 7, 8, 9, 10, 11, 12, 13] (by decide +kernel) (by decide +kernel)
set_option maxRecDepth 20000 in
theorem gX4_nextTub_X4_tu : GoodIn wsX4_nextTub (wsV RX4 64 RX4 yX4_tu wsX4_tu) := goodIn_app (goodIn_of _ (by decide +kernel)) ggX4_nextTub_X4_tu
theorem dX4_nextTub_0 : decode cX4_nextTub 0 = .ok (.iconst (-1), 1) := by decide +kernel
theorem dX4_nextTub_1 : decode cX4_nextTub 1 = .ok (.istore_n 1, 1) := by decide +kernel
theorem dX4_nextTub_2 : decode cX4_nextTub 2 = .ok (.iconst 0, 1) := by decide +kernel
theorem dX4_nextTub_3 : decode cX4_nextTub 3 = .ok (.istore_n 2, 1) := by decide +kernel
theorem dX4_nextTub_4 : decode cX4_nextTub 4 = .ok (.iload_n 2, 1) := by decide +kernel
theorem dX4_nextTub_5 : decode cX4_nextTub 5 = .ok (.aload_n 0, 1) := by decide +kernel
theorem dX4_nextTub_6 : decode cX4_nextTub 6 = .ok (.getfield 30, 3) := by decide +kernel
theorem dX4_nextTub_9 : decode cX4_nextTub 9 = .ok (.if_icmp .ge 40, 3) := by decide +kernel
theorem dX4_nextTub_12 : decode cX4_nextTub 12 = .ok (.aload_n 0, 1) := by decide +kernel
theorem dX4_nextTub_13 : decode cX4_nextTub 13 = .ok (.iload_n 2, 1) := by decide +kernel
theorem dX4_nextTub_14 : decode cX4_nextTub 14 = .ok (.iconst 0, 1) := by decide +kernel
theorem dX4_nextTub_15 : decode cX4_nextTub 15 = .ok (.invokevirtual 64, 3) := by decide +kernel
theorem dX4_nextTub_18 : decode cX4_nextTub 18 = .ok (.ifCond .le 25, 3) := by decide +kernel
theorem dX4_nextTub_21 : decode cX4_nextTub 21 = .ok (.iload_n 1, 1) := by decide +kernel
theorem dX4_nextTub_22 : decode cX4_nextTub 22 = .ok (.iconst (-1), 1) := by decide +kernel
theorem dX4_nextTub_23 : decode cX4_nextTub 23 = .ok (.if_icmp .eq 18, 3) := by decide +kernel
theorem dX4_nextTub_26 : decode cX4_nextTub 26 = .ok (.aload_n 0, 1) := by decide +kernel
theorem dX4_nextTub_27 : decode cX4_nextTub 27 = .ok (.iload_n 2, 1) := by decide +kernel
theorem dX4_nextTub_28 : decode cX4_nextTub 28 = .ok (.iconst 1, 1) := by decide +kernel
theorem dX4_nextTub_29 : decode cX4_nextTub 29 = .ok (.invokevirtual 64, 3) := by decide +kernel
theorem dX4_nextTub_32 : decode cX4_nextTub 32 = .ok (.aload_n 0, 1) := by decide +kernel
theorem dX4_nextTub_33 : decode cX4_nextTub 33 = .ok (.iload_n 1, 1) := by decide +kernel
theorem dX4_nextTub_34 : decode cX4_nextTub 34 = .ok (.iconst 1, 1) := by decide +kernel
theorem dX4_nextTub_35 : decode cX4_nextTub 35 = .ok (.invokevirtual 64, 3) := by decide +kernel
theorem dX4_nextTub_38 : decode cX4_nextTub 38 = .ok (.if_icmp .ge 5, 3) := by decide +kernel
theorem dX4_nextTub_41 : decode cX4_nextTub 41 = .ok (.iload_n 2, 1) := by decide +kernel
theorem dX4_nextTub_42 : decode cX4_nextTub 42 = .ok (.istore_n 1, 1) := by decide +kernel
theorem dX4_nextTub_43 : decode cX4_nextTub 43 = .ok (.iinc 2 1, 3) := by decide +kernel
theorem dX4_nextTub_46 : decode cX4_nextTub 46 = .ok (.goto (-42), 3) := by decide +kernel
theorem dX4_nextTub_49 : decode cX4_nextTub 49 = .ok (.iload_n 1, 1) := by decide +kernel
theorem dX4_nextTub_50 : decode cX4_nextTub 50 = .ok (.ireturn, 1) := by decide +kernel
set_option maxRecDepth 20000 in
theorem ggX4_next_X4_nextTub : GoodIn wsX4_next wsX4_nextTub := goodIn_r _ [6, 7, 8, 9, 10, 5, 11, 12, 13, 14, 15, 16, 17, 18] (by decide +kernel) (by decide +kernel)
set_option maxRecDepth 20000 in
theorem gX4_next_X4_nextTub : GoodIn wsX4_next (wsV RX4 83 RX4 yX4_nextTub wsX4_nextTub) := goodIn_app (goodIn_of _ (by decide +kernel)) ggX4_next_X4_nextTub
theorem dX4_next_0 : decode cX4_next 0 = .ok (.aload_n 0, 1) := by decide +kernel
theorem dX4_next_1 : decode cX4_next 1 = .ok (.iconst 0, 1) := by decide +kernel
theorem dX4_next_2 : decode cX4_next 2 = .ok (.putfield 19, 3) := by decide +kernel
theorem dX4_next_5 : decode cX4_next 5 = .ok (.aload_n 0, 1) := by decide +kernel
theorem dX4_next_6 : decode cX4_next 6 = .ok (.invokevirtual 83, 3) := by decide +kernel
theorem dX4_next_9 : decode cX4_next 9 = .ok (.ireturn, 1) := by decide +kernel
set_option maxRecDepth 20000 in
theorem ggX4_firmUp_X4_ch : GoodIn wsX4_firmUp wsX4_ch := goodIn_r _ [12, 13, 18, 19, 20, 21, 22, 23] (by decide +kernel) (by decide +kernel)
set_option maxRecDepth 20000 in
theorem gX4_firmUp_X4_ch : GoodIn wsX4_firmUp (wsV RX4 46 RX4 yX4_ch wsX4_ch) := goodIn_app (goodIn_of _ (by decide +kernel)) ggX4_firmUp_X4_ch
set_option maxRecDepth 20000 in
theorem ggX4_firmUp_X4_setChurn : GoodIn wsX4_firmUp wsX4_setChurn := goodIn_r _ [17, 13, 18, 19, 20, 21, 22, 23] (by decide +kernel) (by decide +kernel)
set_option maxRecDepth 20000 in
theorem gX4_firmUp_X4_setChurn : GoodIn wsX4_firmUp (wsV RX4 57 RX4 yX4_setChurn wsX4_setChurn) := goodIn_app (goodIn_of _ (by decide +kernel)) ggX4_firmUp_X4_setChurn
theorem dX4_firmUp_0 : decode cX4_firmUp 0 = .ok (.aload_n 0, 1) := by decide +kernel
theorem dX4_firmUp_1 : decode cX4_firmUp 1 = .ok (.iload_n 1, 1) := by decide +kernel
theorem dX4_firmUp_2 : decode cX4_firmUp 2 = .ok (.iconst 1, 1) := by decide +kernel
theorem dX4_firmUp_3 : decode cX4_firmUp 3 = .ok (.invokevirtual 46, 3) := by decide +kernel
theorem dX4_firmUp_6 : decode cX4_firmUp 6 = .ok (.ifCond .le 29, 3) := by decide +kernel
theorem dX4_firmUp_9 : decode cX4_firmUp 9 = .ok (.aload_n 0, 1) := by decide +kernel
theorem dX4_firmUp_10 : decode cX4_firmUp 10 = .ok (.iload_n 1, 1) := by decide +kernel
theorem dX4_firmUp_11 : decode cX4_firmUp 11 = .ok (.iconst 2, 1) := by decide +kernel
theorem dX4_firmUp_12 : decode cX4_firmUp 12 = .ok (.bipush 100, 2) := by decide +kernel
theorem dX4_firmUp_14 : decode cX4_firmUp 14 = .ok (.aload_n 0, 1) := by decide +kernel
theorem dX4_firmUp_15 : decode cX4_firmUp 15 = .ok (.iload_n 1, 1) := by decide +kernel
theorem dX4_firmUp_16 : decode cX4_firmUp 16 = .ok (.iconst 2, 1) := by decide +kernel
theorem dX4_firmUp_17 : decode cX4_firmUp 17 = .ok (.invokevirtual 46, 3) := by decide +kernel
theorem dX4_firmUp_20 : decode cX4_firmUp 20 = .ok (.aload_n 0, 1) := by decide +kernel
theorem dX4_firmUp_21 : decode cX4_firmUp 21 = .ok (.iload_n 1, 1) := by decide +kernel
theorem dX4_firmUp_22 : decode cX4_firmUp 22 = .ok (.iconst 0, 1) := by decide +kernel
theorem dX4_firmUp_23 : decode cX4_firmUp 23 = .ok (.invokevirtual 46, 3) := by decide +kernel
theorem dX4_firmUp_26 : decode cX4_firmUp 26 = .ok (.iconst 3, 1) := by decide +kernel
theorem dX4_firmUp_27 : decode cX4_firmUp 27 = .ok (.idiv, 1) := by decide +kernel
theorem dX4_firmUp_28 : decode cX4_firmUp 28 = .ok (.iadd, 1) := by decide +kernel
theorem dX4_firmUp_29 : decode cX4_firmUp 29 = .ok (.invokestatic 40, 3) := by decide +kernel
theorem dX4_firmUp_32 : decode cX4_firmUp 32 = .ok (.invokevirtual 57, 3) := by decide +kernel
theorem dX4_firmUp_35 : decode cX4_firmUp 35 = .ok (.aload_n 0, 1) := by decide +kernel
theorem dX4_firmUp_36 : decode cX4_firmUp 36 = .ok (.iload_n 1, 1) := by decide +kernel
theorem dX4_firmUp_37 : decode cX4_firmUp 37 = .ok (.iconst 0, 1) := by decide +kernel
theorem dX4_firmUp_38 : decode cX4_firmUp 38 = .ok (.iconst 0, 1) := by decide +kernel
theorem dX4_firmUp_39 : decode cX4_firmUp 39 = .ok (.aload_n 0, 1) := by decide +kernel
theorem dX4_firmUp_40 : decode cX4_firmUp 40 = .ok (.iload_n 1, 1) := by decide +kernel
theorem dX4_firmUp_41 : decode cX4_firmUp 41 = .ok (.iconst 0, 1) := by decide +kernel
theorem dX4_firmUp_42 : decode cX4_firmUp 42 = .ok (.invokevirtual 46, 3) := by decide +kernel
theorem dX4_firmUp_45 : decode cX4_firmUp 45 = .ok (.iload_n 2, 1) := by decide +kernel
theorem dX4_firmUp_46 : decode cX4_firmUp 46 = .ok (.bipush 10, 2) := by decide +kernel
theorem dX4_firmUp_48 : decode cX4_firmUp 48 = .ok (.idiv, 1) := by decide +kernel
theorem dX4_firmUp_49 : decode cX4_firmUp 49 = .ok (.isub, 1) := by decide +kernel
theorem dX4_firmUp_50 : decode cX4_firmUp 50 = .ok (.iconst 1, 1) := by decide +kernel
theorem dX4_firmUp_51 : decode cX4_firmUp 51 = .ok (.isub, 1) := by decide +kernel
theorem dX4_firmUp_52 : decode cX4_firmUp 52 = .ok (.invokestatic 70, 3) := by decide +kernel
theorem dX4_firmUp_55 : decode cX4_firmUp 55 = .ok (.invokevirtual 57, 3) := by decide +kernel
theorem dX4_firmUp_58 : decode cX4_firmUp 58 = .ok (.return_, 1) := by decide +kernel
set_option maxRecDepth 20000 in
theorem ggX4_soften_X4_tu : GoodIn wsX4_soften wsX4_tu := goodIn_r _ [13, 1, 18, 19, 20, 21, 22, 23] (by decide +kernel) (by decide +kernel)
set_option maxRecDepth 20000 in
theorem gX4_soften_X4_tu : GoodIn wsX4_soften (wsV RX4 64 RX4 yX4_tu wsX4_tu) := goodIn_app (goodIn_of _ (by decide +kernel)) ggX4_soften_X4_tu
set_option maxRecDepth 20000 in
theorem ggX4_soften_X4_setTub : GoodIn wsX4_soften wsX4_setTub := goodIn_r _ [17, 1, 18, 19, 20, 21, 22, 23] (by decide +kernel) (by decide +kernel)
set_option maxRecDepth 20000 in
theorem gX4_soften_X4_setTub : GoodIn wsX4_soften (wsV RX4 67 RX4 yX4_setTub wsX4_setTub) := goodIn_app (goodIn_of _ (by decide +kernel)) ggX4_soften_X4_setTub
theorem dX4_soften_0 : decode cX4_soften 0 = .ok (.aload_n 0, 1) := by decide +kernel
theorem dX4_soften_1 : decode cX4_soften 1 = .ok (.iload_n 1, 1) := by decide +kernel
theorem dX4_soften_2 : decode cX4_soften 2 = .ok (.iconst 0, 1) := by decide +kernel
theorem dX4_soften_3 : decode cX4_soften 3 = .ok (.invokevirtual 64, 3) := by decide +kernel
theorem dX4_soften_6 : decode cX4_soften 6 = .ok (.ifCond .ne 4, 3) := by decide +kernel
theorem dX4_soften_9 : decode cX4_soften 9 = .ok (.return_, 1) := by decide +kernel
theorem dX4_soften_10 : decode cX4_soften 10 = .ok (.iload_n 2, 1) := by decide +kernel
theorem dX4_soften_11 : decode cX4_soften 11 = .ok (.bipush 20, 2) := by decide +kernel
theorem dX4_soften_13 : decode cX4_soften 13 = .ok (.if_icmp .le 25, 3) := by decide +kernel
theorem dX4_soften_16 : decode cX4_soften 16 = .ok (.aload_n 0, 1) := by decide +kernel
theorem dX4_soften_17 : decode cX4_soften 17 = .ok (.getfield 9, 3) := by decide +kernel
theorem dX4_soften_20 : decode cX4_soften 20 = .ok (.iconst 1, 1) := by decide +kernel
theorem dX4_soften_21 : decode cX4_soften 21 = .ok (.iaload, 1) := by decide +kernel
theorem dX4_soften_22 : decode cX4_soften 22 = .ok (.bipush 100, 2) := by decide +kernel
theorem dX4_soften_24 : decode cX4_soften 24 = .ok (.if_icmp .ge 14, 3) := by decide +kernel
theorem dX4_soften_27 : decode cX4_soften 27 = .ok (.iload_n 2, 1) := by decide +kernel
theorem dX4_soften_28 : decode cX4_soften 28 = .ok (.bipush 20, 2) := by decide +kernel
theorem dX4_soften_30 : decode cX4_soften 30 = .ok (.isub, 1) := by decide +kernel
theorem dX4_soften_31 : decode cX4_soften 31 = .ok (.iconst 4, 1) := by decide +kernel
theorem dX4_soften_32 : decode cX4_soften 32 = .ok (.idiv, 1) := by decide +kernel
theorem dX4_soften_33 : decode cX4_soften 33 = .ok (.iconst 1, 1) := by decide +kernel
theorem dX4_soften_34 : decode cX4_soften 34 = .ok (.iadd, 1) := by decide +kernel
theorem dX4_soften_35 : decode cX4_soften 35 = .ok (.goto 4, 3) := by decide +kernel
theorem dX4_soften_38 : decode cX4_soften 38 = .ok (.iconst (-1), 1) := by decide +kernel
theorem dX4_soften_39 : decode cX4_soften 39 = .ok (.istore_n 3, 1) := by decide +kernel
theorem dX4_soften_40 : decode cX4_soften 40 = .ok (.aload_n 0, 1) := by decide +kernel
theorem dX4_soften_41 : decode cX4_soften 41 = .ok (.iload_n 1, 1) := by decide +kernel
theorem dX4_soften_42 : decode cX4_soften 42 = .ok (.iconst 1, 1) := by decide +kernel
theorem dX4_soften_43 : decode cX4_soften 43 = .ok (.iconst 0, 1) := by decide +kernel
theorem dX4_soften_44 : decode cX4_soften 44 = .ok (.bipush 100, 2) := by decide +kernel
theorem dX4_soften_46 : decode cX4_soften 46 = .ok (.aload_n 0, 1) := by decide +kernel
theorem dX4_soften_47 : decode cX4_soften 47 = .ok (.iload_n 1, 1) := by decide +kernel
theorem dX4_soften_48 : decode cX4_soften 48 = .ok (.iconst 1, 1) := by decide +kernel
theorem dX4_soften_49 : decode cX4_soften 49 = .ok (.invokevirtual 64, 3) := by decide +kernel
theorem dX4_soften_52 : decode cX4_soften 52 = .ok (.iload_n 3, 1) := by decide +kernel
theorem dX4_soften_53 : decode cX4_soften 53 = .ok (.iadd, 1) := by decide +kernel
theorem dX4_soften_54 : decode cX4_soften 54 = .ok (.invokestatic 40, 3) := by decide +kernel
theorem dX4_soften_57 : decode cX4_soften 57 = .ok (.invokestatic 70, 3) := by decide +kernel
theorem dX4_soften_60 : decode cX4_soften 60 = .ok (.invokevirtual 67, 3) := by decide +kernel
theorem dX4_soften_63 : decode cX4_soften 63 = .ok (.aload_n 0, 1) := by decide +kernel
theorem dX4_soften_64 : decode cX4_soften 64 = .ok (.iload_n 1, 1) := by decide +kernel
theorem dX4_soften_65 : decode cX4_soften 65 = .ok (.iconst 1, 1) := by decide +kernel
theorem dX4_soften_66 : decode cX4_soften 66 = .ok (.invokevirtual 64, 3) := by decide +kernel
theorem dX4_soften_69 : decode cX4_soften 69 = .ok (.bipush 100, 2) := by decide +kernel
theorem dX4_soften_71 : decode cX4_soften 71 = .ok (.if_icmp .ne 21, 3) := by decide +kernel
theorem dX4_soften_74 : decode cX4_soften 74 = .ok (.aload_n 0, 1) := by decide +kernel
theorem dX4_soften_75 : decode cX4_soften 75 = .ok (.iload_n 1, 1) := by decide +kernel
theorem dX4_soften_76 : decode cX4_soften 76 = .ok (.iconst 0, 1) := by decide +kernel
theorem dX4_soften_77 : decode cX4_soften 77 = .ok (.iconst 0, 1) := by decide +kernel
theorem dX4_soften_78 : decode cX4_soften 78 = .ok (.aload_n 0, 1) := by decide +kernel
theorem dX4_soften_79 : decode cX4_soften 79 = .ok (.iload_n 1, 1) := by decide +kernel
theorem dX4_soften_80 : decode cX4_soften 80 = .ok (.iconst 0, 1) := by decide +kernel
theorem dX4_soften_81 : decode cX4_soften 81 = .ok (.invokevirtual 64, 3) := by decide +kernel
theorem dX4_soften_84 : decode cX4_soften 84 = .ok (.iconst 2, 1) := by decide +kernel
theorem dX4_soften_85 : decode cX4_soften 85 = .ok (.isub, 1) := by decide +kernel
theorem dX4_soften_86 : decode cX4_soften 86 = .ok (.invokestatic 70, 3) := by decide +kernel
theorem dX4_soften_89 : decode cX4_soften 89 = .ok (.invokevirtual 67, 3) := by decide +kernel
theorem dX4_soften_92 : decode cX4_soften 92 = .ok (.return_, 1) := by decide +kernel
set_option maxRecDepth 20000 in
theorem ggX4_sell_X4_nextTub : GoodIn wsX4_sell wsX4_nextTub := goodIn_r _ [6, 7, 8, 9, 10, 5, 11, 1, 16, 17, 18, 19, 20, 21] (by decide +kernel) (by decide +kernel)
set_option maxRecDepth 20000 in
theorem gX4_sell_X4_nextTub : GoodIn wsX4_sell (wsV RX4 83 RX4 yX4_nextTub wsX4_nextTub) := goodIn_app (goodIn_of _ (by decide +kernel)) ggX4_sell_X4_nextTub
set_option maxRecDepth 20000 in
theorem ggX4_sell_X4_tu : GoodIn wsX4_sell wsX4_tu := goodIn_r _ [11, 1, 16, 17, 18, 19, 20, 21] (by decide +kernel) (by decide +kernel)
set_option maxRecDepth 20000 in
theorem gX4_sell_X4_tu : GoodIn wsX4_sell (wsV RX4 64 RX4 yX4_tu wsX4_tu) := goodIn_app (goodIn_of _ (by decide +kernel)) ggX4_sell_X4_tu
set_option maxRecDepth 20000 in
theorem ggX4_sell_X4_setTub : GoodIn wsX4_sell wsX4_setTub := goodIn_r _ [15, 1, 16, 17, 18, 19, 20, 21] (by decide +kernel) (by decide +kernel)
set_option maxRecDepth 20000 in
theorem gX4_sell_X4_setTub : GoodIn wsX4_sell (wsV RX4 67 RX4 yX4_setTub wsX4_setTub) := goodIn_app (goodIn_of _ (by decide +kernel)) ggX4_sell_X4_setTub
theorem dX4_sell_0 : decode cX4_sell 0 = .ok (.aload_n 0, 1) := by decide +kernel
theorem dX4_sell_1 : decode cX4_sell 1 = .ok (.invokevirtual 83, 3) := by decide +kernel
theorem dX4_sell_4 : decode cX4_sell 4 = .ok (.istore_n 1, 1) := by decide +kernel
theorem dX4_sell_5 : decode cX4_sell 5 = .ok (.iload_n 1, 1) := by decide +kernel
theorem dX4_sell_6 : decode cX4_sell 6 = .ok (.iconst (-1), 1) := by decide +kernel
theorem dX4_sell_7 : decode cX4_sell 7 = .ok (.if_icmp .eq 12, 3) := by decide +kernel
theorem dX4_sell_10 : decode cX4_sell 10 = .ok (.aload_n 0, 1) := by decide +kernel
theorem dX4_sell_11 : decode cX4_sell 11 = .ok (.getfield 9, 3) := by decide +kernel
theorem dX4_sell_14 : decode cX4_sell 14 = .ok (.iconst 4, 1) := by decide +kernel
theorem dX4_sell_15 : decode cX4_sell 15 = .ok (.iaload, 1) := by decide +kernel
theorem dX4_sell_16 : decode cX4_sell 16 = .ok (.ifCond .ne 15, 3) := by decide +kernel
theorem dX4_sell_19 : decode cX4_sell 19 = .ok (.aload_n 0, 1) := by decide +kernel
theorem dX4_sell_20 : decode cX4_sell 20 = .ok (.getfield 9, 3) := by decide +kernel
theorem dX4_sell_23 : decode cX4_sell 23 = .ok (.bipush 6, 2) := by decide +kernel
theorem dX4_sell_25 : decode cX4_sell 25 = .ok (.dup2, 1) := by decide +kernel
theorem dX4_sell_26 : decode cX4_sell 26 = .ok (.iaload, 1) := by decide +kernel
theorem dX4_sell_27 : decode cX4_sell 27 = .ok (.iconst 1, 1) := by decide +kernel
theorem dX4_sell_28 : decode cX4_sell 28 = .ok (.iadd, 1) := by decide +kernel
theorem dX4_sell_29 : decode cX4_sell 29 = .ok (.iastore, 1) := by decide +kernel
theorem dX4_sell_30 : decode cX4_sell 30 = .ok (.return_, 1) := by decide +kernel
theorem dX4_sell_31 : decode cX4_sell 31 = .ok (.aload_n 0, 1) := by decide +kernel
theorem dX4_sell_32 : decode cX4_sell 32 = .ok (.getfield 9, 3) := by decide +kernel
theorem dX4_sell_35 : decode cX4_sell 35 = .ok (.iconst 4, 1) := by decide +kernel
theorem dX4_sell_36 : decode cX4_sell 36 = .ok (.dup2, 1) := by decide +kernel
theorem dX4_sell_37 : decode cX4_sell 37 = .ok (.iaload, 1) := by decide +kernel
theorem dX4_sell_38 : decode cX4_sell 38 = .ok (.iconst 1, 1) := by decide +kernel
theorem dX4_sell_39 : decode cX4_sell 39 = .ok (.isub, 1) := by decide +kernel
theorem dX4_sell_40 : decode cX4_sell 40 = .ok (.iastore, 1) := by decide +kernel
theorem dX4_sell_41 : decode cX4_sell 41 = .ok (.aload_n 0, 1) := by decide +kernel
theorem dX4_sell_42 : decode cX4_sell 42 = .ok (.getfield 9, 3) := by decide +kernel
theorem dX4_sell_45 : decode cX4_sell 45 = .ok (.iconst 5, 1) := by decide +kernel
theorem dX4_sell_46 : decode cX4_sell 46 = .ok (.dup2, 1) := by decide +kernel
theorem dX4_sell_47 : decode cX4_sell 47 = .ok (.iaload, 1) := by decide +kernel
theorem dX4_sell_48 : decode cX4_sell 48 = .ok (.aload_n 0, 1) := by decide +kernel
theorem dX4_sell_49 : decode cX4_sell 49 = .ok (.iload_n 1, 1) := by decide +kernel
theorem dX4_sell_50 : decode cX4_sell 50 = .ok (.iconst 1, 1) := by decide +kernel
theorem dX4_sell_51 : decode cX4_sell 51 = .ok (.invokevirtual 64, 3) := by decide +kernel
theorem dX4_sell_54 : decode cX4_sell 54 = .ok (.bipush 50, 2) := by decide +kernel
theorem dX4_sell_56 : decode cX4_sell 56 = .ok (.if_icmp .ge 7, 3) := by decide +kernel
theorem dX4_sell_59 : decode cX4_sell 59 = .ok (.iconst 3, 1) := by decide +kernel
theorem dX4_sell_60 : decode cX4_sell 60 = .ok (.goto 4, 3) := by decide +kernel
theorem dX4_sell_63 : decode cX4_sell 63 = .ok (.iconst 2, 1) := by decide +kernel
theorem dX4_sell_64 : decode cX4_sell 64 = .ok (.iadd, 1) := by decide +kernel
theorem dX4_sell_65 : decode cX4_sell 65 = .ok (.iastore, 1) := by decide +kernel
theorem dX4_sell_66 : decode cX4_sell 66 = .ok (.aload_n 0, 1) := by decide +kernel
theorem dX4_sell_67 : decode cX4_sell 67 = .ok (.iload_n 1, 1) := by decide +kernel
theorem dX4_sell_68 : decode cX4_sell 68 = .ok (.iconst 0, 1) := by decide +kernel
theorem dX4_sell_69 : decode cX4_sell 69 = .ok (.aload_n 0, 1) := by decide +kernel
theorem dX4_sell_70 : decode cX4_sell 70 = .ok (.iload_n 1, 1) := by decide +kernel
theorem dX4_sell_71 : decode cX4_sell 71 = .ok (.iconst 0, 1) := by decide +kernel
theorem dX4_sell_72 : decode cX4_sell 72 = .ok (.invokevirtual 64, 3) := by decide +kernel
theorem dX4_sell_75 : decode cX4_sell 75 = .ok (.iconst 1, 1) := by decide +kernel
theorem dX4_sell_76 : decode cX4_sell 76 = .ok (.isub, 1) := by decide +kernel
theorem dX4_sell_77 : decode cX4_sell 77 = .ok (.invokevirtual 67, 3) := by decide +kernel
theorem dX4_sell_80 : decode cX4_sell 80 = .ok (.aload_n 0, 1) := by decide +kernel
theorem dX4_sell_81 : decode cX4_sell 81 = .ok (.iload_n 1, 1) := by decide +kernel
theorem dX4_sell_82 : decode cX4_sell 82 = .ok (.iconst 2, 1) := by decide +kernel
theorem dX4_sell_83 : decode cX4_sell 83 = .ok (.aload_n 0, 1) := by decide +kernel
theorem dX4_sell_84 : decode cX4_sell 84 = .ok (.iload_n 1, 1) := by decide +kernel
theorem dX4_sell_85 : decode cX4_sell 85 = .ok (.iconst 2, 1) := by decide +kernel
theorem dX4_sell_86 : decode cX4_sell 86 = .ok (.invokevirtual 64, 3) := by decide +kernel
theorem dX4_sell_89 : decode cX4_sell 89 = .ok (.iconst 1, 1) := by decide +kernel
theorem dX4_sell_90 : decode cX4_sell 90 = .ok (.iadd, 1) := by decide +kernel
theorem dX4_sell_91 : decode cX4_sell 91 = .ok (.invokevirtual 67, 3) := by decide +kernel
theorem dX4_sell_94 : decode cX4_sell 94 = .ok (.return_, 1) := by decide +kernel
set_option maxRecDepth 20000 in
theorem ggX4_hourOn_X4_heatNow : GoodIn wsX4_hourOn wsX4_heatNow := goodIn_r _ [12, 13, 3, 52, 53, 54, 55, 56, 57] (by decide +kernel) (by decide +kernel)
set_option maxRecDepth 20000 in
theorem gX4_hourOn_X4_heatNow : GoodIn wsX4_hourOn (wsV RX4 73 RX4 yX4_heatNow wsX4_heatNow) := goodIn_app (goodIn_of _ (by decide +kernel)) ggX4_hourOn_X4_heatNow
set_option maxRecDepth 20000 in
theorem ggX4_hourOn_X4_firmUp : GoodIn wsX4_hourOn wsX4_firmUp := goodIn_r _ [17, 18, 19, 6, 20, 4, 5, 7, 21, 22, 23, 11, 24, 3, 25, 26, 27, 28, 52, 53, 54, 55, 56, 57] (by decide +kernel) (by decide +kernel)
set_option maxRecDepth 20000 in
theorem gX4_hourOn_X4_firmUp : GoodIn wsX4_hourOn (wsV RX4 86 RX4 yX4_firmUp wsX4_firmUp) := goodIn_app (goodIn_of _ (by decide +kernel)) ggX4_hourOn_X4_firmUp
set_option maxRecDepth 20000 in
theorem ggX4_hourOn_X4_soften : GoodIn wsX4_hourOn wsX4_soften := goodIn_r _ [32, 3, 18, 19, 6, 20, 4, 5, 7, 33, 34, 35, 11, 36, 37, 38, 39, 40, 52, 53, 54, 55, 56, 57] (by decide +kernel) (by decide +kernel)
set_option maxRecDepth 20000 in
theorem gX4_hourOn_X4_soften : GoodIn wsX4_hourOn (wsV RX4 90 RX4 yX4_soften wsX4_soften) := goodIn_app (goodIn_of _ (by decide +kernel)) ggX4_hourOn_X4_soften
set_option maxRecDepth 20000 in
theorem ggX4_hourOn_X4_isIn : GoodIn wsX4_hourOn wsX4_isIn := goodIn_r _ [43] (by decide +kernel) (by decide +kernel)
set_option maxRecDepth 20000 in
theorem gX4_hourOn_X4_isIn : GoodIn wsX4_hourOn (va_wsS RX4 26 yX4_isIn wsX4_isIn) := goodIn_app (goodIn_of _ (by decide +kernel)) ggX4_hourOn_X4_isIn
set_option maxRecDepth 20000 in
theorem ggX4_hourOn_X4_sell : GoodIn wsX4_hourOn wsX4_sell := goodIn_r _ [47, 3, 48, 49, 50, 11, 51, 2, 33, 34, 35, 36, 37, 38, 39, 40, 52, 53, 54, 55, 56, 57] (by decide +kernel) (by decide +kernel)
set_option maxRecDepth 20000 in
theorem gX4_hourOn_X4_sell : GoodIn wsX4_hourOn (wsV RX4 93 RX4 yX4_sell wsX4_sell) := goodIn_app (goodIn_of _ (by decide +kernel)) ggX4_hourOn_X4_sell
set_option maxRecDepth 20000 in
theorem ggX4_hourOn_X4_tu : GoodIn wsX4_hourOn wsX4_tu := goodIn_r _ [36, 3, 52, 53, 54, 55, 56, 57] (by decide +kernel) (by decide +kernel)
set_option maxRecDepth 20000 in
theorem gX4_hourOn_X4_tu : GoodIn wsX4_hourOn (wsV RX4 64 RX4 yX4_tu wsX4_tu) := goodIn_app (goodIn_of _ (by decide +kernel)) ggX4_hourOn_X4_tu
set_option maxRecDepth 20000 in
theorem ggX4_hourOn_X4_setTub : GoodIn wsX4_hourOn wsX4_setTub := goodIn_r _ [40, 3, 52, 53, 54, 55, 56, 57] (by decide +kernel) (by decide +kernel)
set_option maxRecDepth 20000 in
theorem gX4_hourOn_X4_setTub : GoodIn wsX4_hourOn (wsV RX4 67 RX4 yX4_setTub wsX4_setTub) := goodIn_app (goodIn_of _ (by decide +kernel)) ggX4_hourOn_X4_setTub
theorem dX4_hourOn_0 : decode cX4_hourOn 0 = .ok (.aload_n 0, 1) := by decide +kernel
theorem dX4_hourOn_1 : decode cX4_hourOn 1 = .ok (.invokevirtual 73, 3) := by decide +kernel
theorem dX4_hourOn_4 : decode cX4_hourOn 4 = .ok (.istore_n 1, 1) := by decide +kernel
theorem dX4_hourOn_5 : decode cX4_hourOn 5 = .ok (.iconst 0, 1) := by decide +kernel
theorem dX4_hourOn_6 : decode cX4_hourOn 6 = .ok (.istore_n 2, 1) := by decide +kernel
theorem dX4_hourOn_7 : decode cX4_hourOn 7 = .ok (.iload_n 2, 1) := by decide +kernel
theorem dX4_hourOn_8 : decode cX4_hourOn 8 = .ok (.aload_n 0, 1) := by decide +kernel
theorem dX4_hourOn_9 : decode cX4_hourOn 9 = .ok (.getfield 23, 3) := by decide +kernel
theorem dX4_hourOn_12 : decode cX4_hourOn 12 = .ok (.if_icmp .ge 15, 3) := by decide +kernel
theorem dX4_hourOn_15 : decode cX4_hourOn 15 = .ok (.aload_n 0, 1) := by decide +kernel
theorem dX4_hourOn_16 : decode cX4_hourOn 16 = .ok (.iload_n 2, 1) := by decide +kernel
theorem dX4_hourOn_17 : decode cX4_hourOn 17 = .ok (.iload_n 1, 1) := by decide +kernel
theorem dX4_hourOn_18 : decode cX4_hourOn 18 = .ok (.invokevirtual 86, 3) := by decide +kernel
theorem dX4_hourOn_21 : decode cX4_hourOn 21 = .ok (.iinc 2 1, 3) := by decide +kernel
theorem dX4_hourOn_24 : decode cX4_hourOn 24 = .ok (.goto (-17), 3) := by decide +kernel
theorem dX4_hourOn_27 : decode cX4_hourOn 27 = .ok (.iconst 0, 1) := by decide +kernel
