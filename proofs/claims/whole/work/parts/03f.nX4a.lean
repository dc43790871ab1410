theorem dX4_init_0 : decode cX4_init 0 = .ok (.aload_n 0, 1) := by decide +kernel
theorem dX4_init_1 : decode cX4_init 1 = .ok (.invokespecial 3, 3) := by decide +kernel
theorem dX4_init_4 : decode cX4_init 4 = .ok (.aload_n 0, 1) := by decide +kernel
theorem dX4_init_5 : decode cX4_init 5 = .ok (.bipush 37, 2) := by decide +kernel
theorem dX4_init_7 : decode cX4_init 7 = .ok (.newarray .int, 2) := by decide +kernel
theorem dX4_init_9 : decode cX4_init 9 = .ok (.putfield 9, 3) := by decide +kernel
theorem dX4_init_12 : decode cX4_init 12 = .ok (.aload_n 0, 1) := by decide +kernel
theorem dX4_init_13 : decode cX4_init 13 = .ok (.bipush 37, 2) := by decide +kernel
theorem dX4_init_15 : decode cX4_init 15 = .ok (.newarray .int, 2) := by decide +kernel
theorem dX4_init_17 : decode cX4_init 17 = .ok (.putfield 13, 3) := by decide +kernel
theorem dX4_init_20 : decode cX4_init 20 = .ok (.aload_n 0, 1) := by decide +kernel
theorem dX4_init_21 : decode cX4_init 21 = .ok (.bipush 7, 2) := by decide +kernel
theorem dX4_init_23 : decode cX4_init 23 = .ok (.newarray .int, 2) := by decide +kernel
theorem dX4_init_25 : decode cX4_init 25 = .ok (.dup, 1) := by decide +kernel
theorem dX4_init_26 : decode cX4_init 26 = .ok (.iconst 0, 1) := by decide +kernel
theorem dX4_init_27 : decode cX4_init 27 = .ok (.bipush 20, 2) := by decide +kernel
theorem dX4_init_29 : decode cX4_init 29 = .ok (.iastore, 1) := by decide +kernel
theorem dX4_init_30 : decode cX4_init 30 = .ok (.dup, 1) := by decide +kernel
theorem dX4_init_31 : decode cX4_init 31 = .ok (.iconst 1, 1) := by decide +kernel
theorem dX4_init_32 : decode cX4_init 32 = .ok (.bipush 20, 2) := by decide +kernel
theorem dX4_init_34 : decode cX4_init 34 = .ok (.iastore, 1) := by decide +kernel
theorem dX4_init_35 : decode cX4_init 35 = .ok (.dup, 1) := by decide +kernel
theorem dX4_init_36 : decode cX4_init 36 = .ok (.iconst 2, 1) := by decide +kernel
theorem dX4_init_37 : decode cX4_init 37 = .ok (.bipush 20, 2) := by decide +kernel
theorem dX4_init_39 : decode cX4_init 39 = .ok (.iastore, 1) := by decide +kernel
theorem dX4_init_40 : decode cX4_init 40 = .ok (.dup, 1) := by decide +kernel
theorem dX4_init_41 : decode cX4_init 41 = .ok (.iconst 3, 1) := by decide +kernel
theorem dX4_init_42 : decode cX4_init 42 = .ok (.bipush 20, 2) := by decide +kernel
theorem dX4_init_44 : decode cX4_init 44 = .ok (.iastore, 1) := by decide +kernel
theorem dX4_init_45 : decode cX4_init 45 = .ok (.dup, 1) := by decide +kernel
theorem dX4_init_46 : decode cX4_init 46 = .ok (.iconst 4, 1) := by decide +kernel
theorem dX4_init_47 : decode cX4_init 47 = .ok (.bipush 20, 2) := by decide +kernel
theorem dX4_init_49 : decode cX4_init 49 = .ok (.iastore, 1) := by decide +kernel
theorem dX4_init_50 : decode cX4_init 50 = .ok (.dup, 1) := by decide +kernel
theorem dX4_init_51 : decode cX4_init 51 = .ok (.iconst 5, 1) := by decide +kernel
theorem dX4_init_52 : decode cX4_init 52 = .ok (.bipush 20, 2) := by decide +kernel
theorem dX4_init_54 : decode cX4_init 54 = .ok (.iastore, 1) := by decide +kernel
theorem dX4_init_55 : decode cX4_init 55 = .ok (.dup, 1) := by decide +kernel
theorem dX4_init_56 : decode cX4_init 56 = .ok (.bipush 6, 2) := by decide +kernel
theorem dX4_init_58 : decode cX4_init 58 = .ok (.bipush 20, 2) := by decide +kernel
theorem dX4_init_60 : decode cX4_init 60 = .ok (.iastore, 1) := by decide +kernel
theorem dX4_init_61 : decode cX4_init 61 = .ok (.putfield 16, 3) := by decide +kernel
theorem dX4_init_64 : decode cX4_init 64 = .ok (.return_, 1) := by decide +kernel
theorem dX4_thrown_0 : decode cX4_thrown 0 = .ok (.aload_n 0, 1) := by decide +kernel
theorem dX4_thrown_1 : decode cX4_thrown 1 = .ok (.getfield 19, 3) := by decide +kernel
theorem dX4_thrown_4 : decode cX4_thrown 4 = .ok (.ireturn, 1) := by decide +kernel
theorem dX4_no_0 : decode cX4_no 0 = .ok (.aload_n 0, 1) := by decide +kernel
theorem dX4_no_1 : decode cX4_no 1 = .ok (.iload_n 1, 1) := by decide +kernel
theorem dX4_no_2 : decode cX4_no 2 = .ok (.putfield 19, 3) := by decide +kernel
theorem dX4_no_5 : decode cX4_no 5 = .ok (.iconst 0, 1) := by decide +kernel
theorem dX4_no_6 : decode cX4_no 6 = .ok (.ireturn, 1) := by decide +kernel
theorem dX4_isIn_0 : decode cX4_isIn 0 = .ok (.iload_n 0, 1) := by decide +kernel
theorem dX4_isIn_1 : decode cX4_isIn 1 = .ok (.iload_n 1, 1) := by decide +kernel
theorem dX4_isIn_2 : decode cX4_isIn 2 = .ok (.if_icmp .lt 12, 3) := by decide +kernel
theorem dX4_isIn_5 : decode cX4_isIn 5 = .ok (.iload_n 0, 1) := by decide +kernel
theorem dX4_isIn_6 : decode cX4_isIn 6 = .ok (.iload_n 2, 1) := by decide +kernel
theorem dX4_isIn_7 : decode cX4_isIn 7 = .ok (.if_icmp .gt 7, 3) := by decide +kernel
theorem dX4_isIn_10 : decode cX4_isIn 10 = .ok (.iconst 1, 1) := by decide +kernel
theorem dX4_isIn_11 : decode cX4_isIn 11 = .ok (.goto 4, 3) := by decide +kernel
theorem dX4_isIn_14 : decode cX4_isIn 14 = .ok (.iconst 0, 1) := by decide +kernel
theorem dX4_isIn_15 : decode cX4_isIn 15 = .ok (.ireturn, 1) := by decide +kernel
set_option maxRecDepth 20000 in
theorem ggX4_isChurn_X4_isIn : GoodIn wsX4_isChurn wsX4_isIn := goodIn_r _ [5] (by decide +kernel) (by decide +kernel)
set_option maxRecDepth 20000 in
theorem gX4_isChurn_X4_isIn : GoodIn wsX4_isChurn (va_wsS RX4 26 yX4_isIn wsX4_isIn) := goodIn_app (goodIn_of _ (by decide +kernel)) ggX4_isChurn_X4_isIn
theorem dX4_isChurn_0 : decode cX4_isChurn 0 = .ok (.iload_n 1, 1) := by decide +kernel
theorem dX4_isChurn_1 : decode cX4_isChurn 1 = .ok (.iconst 0, 1) := by decide +kernel
theorem dX4_isChurn_2 : decode cX4_isChurn 2 = .ok (.aload_n 0, 1) := by decide +kernel
theorem dX4_isChurn_3 : decode cX4_isChurn 3 = .ok (.getfield 23, 3) := by decide +kernel
theorem dX4_isChurn_6 : decode cX4_isChurn 6 = .ok (.iconst 1, 1) := by decide +kernel
theorem dX4_isChurn_7 : decode cX4_isChurn 7 = .ok (.isub, 1) := by decide +kernel
theorem dX4_isChurn_8 : decode cX4_isChurn 8 = .ok (.invokestatic 26, 3) := by decide +kernel
theorem dX4_isChurn_11 : decode cX4_isChurn 11 = .ok (.ireturn, 1) := by decide +kernel
set_option maxRecDepth 20000 in
theorem ggX4_isTub_X4_isIn : GoodIn wsX4_isTub wsX4_isIn := goodIn_r _ [5] (by decide +kernel) (by decide +kernel)
set_option maxRecDepth 20000 in
theorem gX4_isTub_X4_isIn : GoodIn wsX4_isTub (va_wsS RX4 26 yX4_isIn wsX4_isIn) := goodIn_app (goodIn_of _ (by decide +kernel)) ggX4_isTub_X4_isIn
theorem dX4_isTub_0 : decode cX4_isTub 0 = .ok (.iload_n 1, 1) := by decide +kernel
theorem dX4_isTub_1 : decode cX4_isTub 1 = .ok (.iconst 0, 1) := by decide +kernel
theorem dX4_isTub_2 : decode cX4_isTub 2 = .ok (.aload_n 0, 1) := by decide +kernel
theorem dX4_isTub_3 : decode cX4_isTub 3 = .ok (.getfield 30, 3) := by decide +kernel
theorem dX4_isTub_6 : decode cX4_isTub 6 = .ok (.iconst 1, 1) := by decide +kernel
theorem dX4_isTub_7 : decode cX4_isTub 7 = .ok (.isub, 1) := by decide +kernel
theorem dX4_isTub_8 : decode cX4_isTub 8 = .ok (.invokestatic 26, 3) := by decide +kernel
theorem dX4_isTub_11 : decode cX4_isTub 11 = .ok (.ireturn, 1) := by decide +kernel
theorem dX4_ch_0 : decode cX4_ch 0 = .ok (.aload_n 0, 1) := by decide +kernel
theorem dX4_ch_1 : decode cX4_ch 1 = .ok (.getfield 9, 3) := by decide +kernel
theorem dX4_ch_4 : decode cX4_ch 4 = .ok (.bipush 7, 2) := by decide +kernel
theorem dX4_ch_6 : decode cX4_ch 6 = .ok (.iconst 3, 1) := by decide +kernel
theorem dX4_ch_7 : decode cX4_ch 7 = .ok (.iload_n 1, 1) := by decide +kernel
theorem dX4_ch_8 : decode cX4_ch 8 = .ok (.imul, 1) := by decide +kernel
theorem dX4_ch_9 : decode cX4_ch 9 = .ok (.iadd, 1) := by decide +kernel
theorem dX4_ch_10 : decode cX4_ch 10 = .ok (.iload_n 2, 1) := by decide +kernel
theorem dX4_ch_11 : decode cX4_ch 11 = .ok (.iadd, 1) := by decide +kernel
theorem dX4_ch_12 : decode cX4_ch 12 = .ok (.iaload, 1) := by decide +kernel
theorem dX4_ch_13 : decode cX4_ch 13 = .ok (.ireturn, 1) := by decide +kernel
theorem dX4_tu_0 : decode cX4_tu 0 = .ok (.aload_n 0, 1) := by decide +kernel
theorem dX4_tu_1 : decode cX4_tu 1 = .ok (.getfield 9, 3) := by decide +kernel
theorem dX4_tu_4 : decode cX4_tu 4 = .ok (.bipush 19, 2) := by decide +kernel
theorem dX4_tu_6 : decode cX4_tu 6 = .ok (.iconst 3, 1) := by decide +kernel
theorem dX4_tu_7 : decode cX4_tu 7 = .ok (.iload_n 1, 1) := by decide +kernel
theorem dX4_tu_8 : decode cX4_tu 8 = .ok (.imul, 1) := by decide +kernel
theorem dX4_tu_9 : decode cX4_tu 9 = .ok (.iadd, 1) := by decide +kernel
theorem dX4_tu_10 : decode cX4_tu 10 = .ok (.iload_n 2, 1) := by decide +kernel
theorem dX4_tu_11 : decode cX4_tu 11 = .ok (.iadd, 1) := by decide +kernel
theorem dX4_tu_12 : decode cX4_tu 12 = .ok (.iaload, 1) := by decide +kernel
theorem dX4_tu_13 : decode cX4_tu 13 = .ok (.ireturn, 1) := by decide +kernel
theorem dX4_setChurn_0 : decode cX4_setChurn 0 = .ok (.aload_n 0, 1) := by decide +kernel
theorem dX4_setChurn_1 : decode cX4_setChurn 1 = .ok (.getfield 9, 3) := by decide +kernel
theorem dX4_setChurn_4 : decode cX4_setChurn 4 = .ok (.bipush 7, 2) := by decide +kernel
theorem dX4_setChurn_6 : decode cX4_setChurn 6 = .ok (.iconst 3, 1) := by decide +kernel
theorem dX4_setChurn_7 : decode cX4_setChurn 7 = .ok (.iload_n 1, 1) := by decide +kernel
theorem dX4_setChurn_8 : decode cX4_setChurn 8 = .ok (.imul, 1) := by decide +kernel
theorem dX4_setChurn_9 : decode cX4_setChurn 9 = .ok (.iadd, 1) := by decide +kernel
theorem dX4_setChurn_10 : decode cX4_setChurn 10 = .ok (.iload_n 2, 1) := by decide +kernel
theorem dX4_setChurn_11 : decode cX4_setChurn 11 = .ok (.iadd, 1) := by decide +kernel
theorem dX4_setChurn_12 : decode cX4_setChurn 12 = .ok (.iload_n 3, 1) := by decide +kernel
theorem dX4_setChurn_13 : decode cX4_setChurn 13 = .ok (.iastore, 1) := by decide +kernel
theorem dX4_setChurn_14 : decode cX4_setChurn 14 = .ok (.return_, 1) := by decide +kernel
theorem dX4_setTub_0 : decode cX4_setTub 0 = .ok (.aload_n 0, 1) := by decide +kernel
theorem dX4_setTub_1 : decode cX4_setTub 1 = .ok (.getfield 9, 3) := by decide +kernel
theorem dX4_setTub_4 : decode cX4_setTub 4 = .ok (.bipush 19, 2) := by decide +kernel
theorem dX4_setTub_6 : decode cX4_setTub 6 = .ok (.iconst 3, 1) := by decide +kernel
theorem dX4_setTub_7 : decode cX4_setTub 7 = .ok (.iload_n 1, 1) := by decide +kernel
theorem dX4_setTub_8 : decode cX4_setTub 8 = .ok (.imul, 1) := by decide +kernel
theorem dX4_setTub_9 : decode cX4_setTub 9 = .ok (.iadd, 1) := by decide +kernel
theorem dX4_setTub_10 : decode cX4_setTub 10 = .ok (.iload_n 2, 1) := by decide +kernel
theorem dX4_setTub_11 : decode cX4_setTub 11 = .ok (.iadd, 1) := by decide +kernel
theorem dX4_setTub_12 : decode cX4_setTub 12 = .ok (.iload_n 3, 1) := by decide +kernel
theorem dX4_setTub_13 : decode cX4_setTub 13 = .ok (.iastore, 1) := by decide +kernel
theorem dX4_setTub_14 : decode cX4_setTub 14 = .ok (.return_, 1) := by decide +kernel
set_option maxRecDepth 20000 in
theorem ggX4_bring_X4_isIn : GoodIn wsX4_bring wsX4_isIn := goodIn_r _ [11] (by decide +kernel) (by decide +kernel)
set_option maxRecDepth 20000 in
theorem gX4_bring_X4_isIn : GoodIn wsX4_bring (va_wsS RX4 26 yX4_isIn wsX4_isIn) := goodIn_app (goodIn_of _ (by decide +kernel)) ggX4_bring_X4_isIn
set_option maxRecDepth 20000 in
theorem ggX4_bring_X4_no : GoodIn wsX4_bring wsX4_no := goodIn_r _ [15, 1, 16, 17, 18, 19, 20, 21] (by decide +kernel) (by decide +kernel)
set_option maxRecDepth 20000 in
theorem gX4_bring_X4_no : GoodIn wsX4_bring (wsV RX4 33 RX4 yX4_no wsX4_no) := goodIn_app (goodIn_of _ (by decide +kernel)) ggX4_bring_X4_no
theorem dX4_bring_0 : decode cX4_bring 0 = .ok (.aload_n 0, 1) := by decide +kernel
theorem dX4_bring_1 : decode cX4_bring 1 = .ok (.iconst 0, 1) := by decide +kernel
theorem dX4_bring_2 : decode cX4_bring 2 = .ok (.putfield 19, 3) := by decide +kernel
theorem dX4_bring_5 : decode cX4_bring 5 = .ok (.iload_n 1, 1) := by decide +kernel
theorem dX4_bring_6 : decode cX4_bring 6 = .ok (.iconst 0, 1) := by decide +kernel
theorem dX4_bring_7 : decode cX4_bring 7 = .ok (.iconst 3, 1) := by decide +kernel
theorem dX4_bring_8 : decode cX4_bring 8 = .ok (.invokestatic 26, 3) := by decide +kernel
theorem dX4_bring_11 : decode cX4_bring 11 = .ok (.ifCond .ne 9, 3) := by decide +kernel
theorem dX4_bring_14 : decode cX4_bring 14 = .ok (.aload_n 0, 1) := by decide +kernel
theorem dX4_bring_15 : decode cX4_bring 15 = .ok (.iconst 1, 1) := by decide +kernel
theorem dX4_bring_16 : decode cX4_bring 16 = .ok (.invokevirtual 33, 3) := by decide +kernel
theorem dX4_bring_19 : decode cX4_bring 19 = .ok (.ireturn, 1) := by decide +kernel
theorem dX4_bring_20 : decode cX4_bring 20 = .ok (.iload_n 2, 1) := by decide +kernel
theorem dX4_bring_21 : decode cX4_bring 21 = .ok (.iconst 1, 1) := by decide +kernel
theorem dX4_bring_22 : decode cX4_bring 22 = .ok (.sipush 300, 3) := by decide +kernel
theorem dX4_bring_25 : decode cX4_bring 25 = .ok (.invokestatic 26, 3) := by decide +kernel
theorem dX4_bring_28 : decode cX4_bring 28 = .ok (.ifCond .ne 9, 3) := by decide +kernel
theorem dX4_bring_31 : decode cX4_bring 31 = .ok (.aload_n 0, 1) := by decide +kernel
theorem dX4_bring_32 : decode cX4_bring 32 = .ok (.iconst 2, 1) := by decide +kernel
theorem dX4_bring_33 : decode cX4_bring 33 = .ok (.invokevirtual 33, 3) := by decide +kernel
theorem dX4_bring_36 : decode cX4_bring 36 = .ok (.ireturn, 1) := by decide +kernel
theorem dX4_bring_37 : decode cX4_bring 37 = .ok (.aload_n 0, 1) := by decide +kernel
theorem dX4_bring_38 : decode cX4_bring 38 = .ok (.getfield 9, 3) := by decide +kernel
theorem dX4_bring_41 : decode cX4_bring 41 = .ok (.iconst 1, 1) := by decide +kernel
theorem dX4_bring_42 : decode cX4_bring 42 = .ok (.iload_n 1, 1) := by decide +kernel
theorem dX4_bring_43 : decode cX4_bring 43 = .ok (.iadd, 1) := by decide +kernel
theorem dX4_bring_44 : decode cX4_bring 44 = .ok (.getstatic 37, 3) := by decide +kernel
theorem dX4_bring_47 : decode cX4_bring 47 = .ok (.iconst 1, 1) := by decide +kernel
theorem dX4_bring_48 : decode cX4_bring 48 = .ok (.iload_n 1, 1) := by decide +kernel
theorem dX4_bring_49 : decode cX4_bring 49 = .ok (.iadd, 1) := by decide +kernel
theorem dX4_bring_50 : decode cX4_bring 50 = .ok (.iaload, 1) := by decide +kernel
theorem dX4_bring_51 : decode cX4_bring 51 = .ok (.aload_n 0, 1) := by decide +kernel
theorem dX4_bring_52 : decode cX4_bring 52 = .ok (.getfield 9, 3) := by decide +kernel
theorem dX4_bring_55 : decode cX4_bring 55 = .ok (.iconst 1, 1) := by decide +kernel
theorem dX4_bring_56 : decode cX4_bring 56 = .ok (.iload_n 1, 1) := by decide +kernel
theorem dX4_bring_57 : decode cX4_bring 57 = .ok (.iadd, 1) := by decide +kernel
theorem dX4_bring_58 : decode cX4_bring 58 = .ok (.iaload, 1) := by decide +kernel
theorem dX4_bring_59 : decode cX4_bring 59 = .ok (.iload_n 2, 1) := by decide +kernel
theorem dX4_bring_60 : decode cX4_bring 60 = .ok (.iadd, 1) := by decide +kernel
theorem dX4_bring_61 : decode cX4_bring 61 = .ok (.invokestatic 40, 3) := by decide +kernel
theorem dX4_bring_64 : decode cX4_bring 64 = .ok (.iastore, 1) := by decide +kernel
theorem dX4_bring_65 : decode cX4_bring 65 = .ok (.aload_n 0, 1) := by decide +kernel
theorem dX4_bring_66 : decode cX4_bring 66 = .ok (.getfield 9, 3) := by decide +kernel
theorem dX4_bring_69 : decode cX4_bring 69 = .ok (.iconst 1, 1) := by decide +kernel
theorem dX4_bring_70 : decode cX4_bring 70 = .ok (.iload_n 1, 1) := by decide +kernel
theorem dX4_bring_71 : decode cX4_bring 71 = .ok (.iadd, 1) := by decide +kernel
theorem dX4_bring_72 : decode cX4_bring 72 = .ok (.iaload, 1) := by decide +kernel
theorem dX4_bring_73 : decode cX4_bring 73 = .ok (.ireturn, 1) := by decide +kernel
set_option maxRecDepth 20000 in
theorem ggX4_setHeat_X4_isIn : GoodIn wsX4_setHeat wsX4_isIn := goodIn_r _ [6] (by decide +kernel) (by decide +kernel)
set_option maxRecDepth 20000 in
theorem gX4_setHeat_X4_isIn : GoodIn wsX4_setHeat (va_wsS RX4 26 yX4_isIn wsX4_isIn) := goodIn_app (goodIn_of _ (by decide +kernel)) ggX4_setHeat_X4_isIn
set_option maxRecDepth 20000 in
theorem ggX4_setHeat_X4_no : GoodIn wsX4_setHeat wsX4_no := goodIn_r _ [10, 1, 11, 12, 13, 14, 15, 16] (by decide +kernel) (by decide +kernel)
set_option maxRecDepth 20000 in
theorem gX4_setHeat_X4_no : GoodIn wsX4_setHeat (wsV RX4 33 RX4 yX4_no wsX4_no) := goodIn_app (goodIn_of _ (by decide +kernel)) ggX4_setHeat_X4_no
theorem dX4_setHeat_0 : decode cX4_setHeat 0 = .ok (.aload_n 0, 1) := by decide +kernel
theorem dX4_setHeat_1 : decode cX4_setHeat 1 = .ok (.iconst 0, 1) := by decide +kernel
theorem dX4_setHeat_2 : decode cX4_setHeat 2 = .ok (.putfield 19, 3) := by decide +kernel
theorem dX4_setHeat_5 : decode cX4_setHeat 5 = .ok (.iload_n 1, 1) := by decide +kernel
theorem dX4_setHeat_6 : decode cX4_setHeat 6 = .ok (.iconst 0, 1) := by decide +kernel
theorem dX4_setHeat_7 : decode cX4_setHeat 7 = .ok (.bipush 6, 2) := by decide +kernel
theorem dX4_setHeat_9 : decode cX4_setHeat 9 = .ok (.invokestatic 26, 3) := by decide +kernel
theorem dX4_setHeat_12 : decode cX4_setHeat 12 = .ok (.ifCond .ne 9, 3) := by decide +kernel
theorem dX4_setHeat_15 : decode cX4_setHeat 15 = .ok (.aload_n 0, 1) := by decide +kernel
theorem dX4_setHeat_16 : decode cX4_setHeat 16 = .ok (.iconst 1, 1) := by decide +kernel
theorem dX4_setHeat_17 : decode cX4_setHeat 17 = .ok (.invokevirtual 33, 3) := by decide +kernel
theorem dX4_setHeat_20 : decode cX4_setHeat 20 = .ok (.ireturn, 1) := by decide +kernel
theorem dX4_setHeat_21 : decode cX4_setHeat 21 = .ok (.iload_n 2, 1) := by decide +kernel
theorem dX4_setHeat_22 : decode cX4_setHeat 22 = .ok (.iconst 0, 1) := by decide +kernel
theorem dX4_setHeat_23 : decode cX4_setHeat 23 = .ok (.bipush 40, 2) := by decide +kernel
theorem dX4_setHeat_25 : decode cX4_setHeat 25 = .ok (.invokestatic 26, 3) := by decide +kernel
theorem dX4_setHeat_28 : decode cX4_setHeat 28 = .ok (.ifCond .ne 9, 3) := by decide +kernel
theorem dX4_setHeat_31 : decode cX4_setHeat 31 = .ok (.aload_n 0, 1) := by decide +kernel
theorem dX4_setHeat_32 : decode cX4_setHeat 32 = .ok (.iconst 2, 1) := by decide +kernel
theorem dX4_setHeat_33 : decode cX4_setHeat 33 = .ok (.invokevirtual 33, 3) := by decide +kernel
theorem dX4_setHeat_36 : decode cX4_setHeat 36 = .ok (.ireturn, 1) := by decide +kernel
theorem dX4_setHeat_37 : decode cX4_setHeat 37 = .ok (.aload_n 0, 1) := by decide +kernel
theorem dX4_setHeat_38 : decode cX4_setHeat 38 = .ok (.getfield 16, 3) := by decide +kernel
theorem dX4_setHeat_41 : decode cX4_setHeat 41 = .ok (.iload_n 1, 1) := by decide +kernel
theorem dX4_setHeat_42 : decode cX4_setHeat 42 = .ok (.iaload, 1) := by decide +kernel
theorem dX4_setHeat_43 : decode cX4_setHeat 43 = .ok (.istore_n 3, 1) := by decide +kernel
theorem dX4_setHeat_44 : decode cX4_setHeat 44 = .ok (.aload_n 0, 1) := by decide +kernel
theorem dX4_setHeat_45 : decode cX4_setHeat 45 = .ok (.getfield 16, 3) := by decide +kernel
theorem dX4_setHeat_48 : decode cX4_setHeat 48 = .ok (.iload_n 1, 1) := by decide +kernel
theorem dX4_setHeat_49 : decode cX4_setHeat 49 = .ok (.iload_n 2, 1) := by decide +kernel
theorem dX4_setHeat_50 : decode cX4_setHeat 50 = .ok (.iastore, 1) := by decide +kernel
theorem dX4_setHeat_51 : decode cX4_setHeat 51 = .ok (.iload_n 3, 1) := by decide +kernel
theorem dX4_setHeat_52 : decode cX4_setHeat 52 = .ok (.ireturn, 1) := by decide +kernel
theorem dX4_heatNow_0 : decode cX4_heatNow 0 = .ok (.aload_n 0, 1) := by decide +kernel
theorem dX4_heatNow_1 : decode cX4_heatNow 1 = .ok (.getfield 16, 3) := by decide +kernel
theorem dX4_heatNow_4 : decode cX4_heatNow 4 = .ok (.aload_n 0, 1) := by decide +kernel
theorem dX4_heatNow_5 : decode cX4_heatNow 5 = .ok (.getfield 9, 3) := by decide +kernel
theorem dX4_heatNow_8 : decode cX4_heatNow 8 = .ok (.iconst 0, 1) := by decide +kernel
theorem dX4_heatNow_9 : decode cX4_heatNow 9 = .ok (.iaload, 1) := by decide +kernel
theorem dX4_heatNow_10 : decode cX4_heatNow 10 = .ok (.bipush 24, 2) := by decide +kernel
theorem dX4_heatNow_12 : decode cX4_heatNow 12 = .ok (.idiv, 1) := by decide +kernel
theorem dX4_heatNow_13 : decode cX4_heatNow 13 = .ok (.bipush 7, 2) := by decide +kernel
theorem dX4_heatNow_15 : decode cX4_heatNow 15 = .ok (.irem, 1) := by decide +kernel
theorem dX4_heatNow_16 : decode cX4_heatNow 16 = .ok (.iaload, 1) := by decide +kernel
theorem dX4_heatNow_17 : decode cX4_heatNow 17 = .ok (.ireturn, 1) := by decide +kernel
set_option maxRecDepth 20000 in
theorem ggX4_churn_X4_no : GoodIn wsX4_churn wsX4_no := goodIn_r _ [7, 1, 8, 9, 10, 11, 12, 13] (by decide +kernel) (by decide +kernel)
set_option maxRecDepth 20000 in
theorem gX4_churn_X4_no : GoodIn wsX4_churn (wsV RX4 33 RX4 yX4_no wsX4_no) := goodIn_app (goodIn_of _ (by decide +kernel)) ggX4_churn_X4_no
theorem dX4_churn_0 : decode cX4_churn 0 = .ok (.aload_n 0, 1) := by decide +kernel
theorem dX4_churn_1 : decode cX4_churn 1 = .ok (.iconst 0, 1) := by decide +kernel
theorem dX4_churn_2 : decode cX4_churn 2 = .ok (.putfield 19, 3) := by decide +kernel
theorem dX4_churn_5 : decode cX4_churn 5 = .ok (.aload_n 0, 1) := by decide +kernel
theorem dX4_churn_6 : decode cX4_churn 6 = .ok (.getfield 23, 3) := by decide +kernel
theorem dX4_churn_9 : decode cX4_churn 9 = .ok (.iconst 4, 1) := by decide +kernel
theorem dX4_churn_10 : decode cX4_churn 10 = .ok (.if_icmp .ne 9, 3) := by decide +kernel
theorem dX4_churn_13 : decode cX4_churn 13 = .ok (.aload_n 0, 1) := by decide +kernel
theorem dX4_churn_14 : decode cX4_churn 14 = .ok (.iconst 1, 1) := by decide +kernel
theorem dX4_churn_15 : decode cX4_churn 15 = .ok (.invokevirtual 33, 3) := by decide +kernel
theorem dX4_churn_18 : decode cX4_churn 18 = .ok (.ireturn, 1) := by decide +kernel
theorem dX4_churn_19 : decode cX4_churn 19 = .ok (.aload_n 0, 1) := by decide +kernel
theorem dX4_churn_20 : decode cX4_churn 20 = .ok (.dup, 1) := by decide +kernel
theorem dX4_churn_21 : decode cX4_churn 21 = .ok (.getfield 23, 3) := by decide +kernel
theorem dX4_churn_24 : decode cX4_churn 24 = .ok (.iconst 1, 1) := by decide +kernel
theorem dX4_churn_25 : decode cX4_churn 25 = .ok (.iadd, 1) := by decide +kernel
theorem dX4_churn_26 : decode cX4_churn 26 = .ok (.putfield 23, 3) := by decide +kernel
theorem dX4_churn_29 : decode cX4_churn 29 = .ok (.aload_n 0, 1) := by decide +kernel
theorem dX4_churn_30 : decode cX4_churn 30 = .ok (.getfield 23, 3) := by decide +kernel
theorem dX4_churn_33 : decode cX4_churn 33 = .ok (.iconst 1, 1) := by decide +kernel
theorem dX4_churn_34 : decode cX4_churn 34 = .ok (.isub, 1) := by decide +kernel
theorem dX4_churn_35 : decode cX4_churn 35 = .ok (.ireturn, 1) := by decide +kernel
set_option maxRecDepth 20000 in
theorem ggX4_tub_X4_no : GoodIn wsX4_tub wsX4_no := goodIn_r _ [7, 1, 8, 9, 10, 11, 12, 13] (by decide +kernel) (by decide +kernel)
set_option maxRecDepth 20000 in
theorem gX4_tub_X4_no : GoodIn wsX4_tub (wsV RX4 33 RX4 yX4_no wsX4_no) := goodIn_app (goodIn_of _ (by decide +kernel)) ggX4_tub_X4_no
theorem dX4_tub_0 : decode cX4_tub 0 = .ok (.aload_n 0, 1) := by decide +kernel
theorem dX4_tub_1 : decode cX4_tub 1 = .ok (.iconst 0, 1) := by decide +kernel
theorem dX4_tub_2 : decode cX4_tub 2 = .ok (.putfield 19, 3) := by decide +kernel
theorem dX4_tub_5 : decode cX4_tub 5 = .ok (.aload_n 0, 1) := by decide +kernel
theorem dX4_tub_6 : decode cX4_tub 6 = .ok (.getfield 30, 3) := by decide +kernel
theorem dX4_tub_9 : decode cX4_tub 9 = .ok (.bipush 6, 2) := by decide +kernel
theorem dX4_tub_11 : decode cX4_tub 11 = .ok (.if_icmp .ne 9, 3) := by decide +kernel
theorem dX4_tub_14 : decode cX4_tub 14 = .ok (.aload_n 0, 1) := by decide +kernel
theorem dX4_tub_15 : decode cX4_tub 15 = .ok (.iconst 1, 1) := by decide +kernel
theorem dX4_tub_16 : decode cX4_tub 16 = .ok (.invokevirtual 33, 3) := by decide +kernel
theorem dX4_tub_19 : decode cX4_tub 19 = .ok (.ireturn, 1) := by decide +kernel
theorem dX4_tub_20 : decode cX4_tub 20 = .ok (.aload_n 0, 1) := by decide +kernel
theorem dX4_tub_21 : decode cX4_tub 21 = .ok (.dup, 1) := by decide +kernel
theorem dX4_tub_22 : decode cX4_tub 22 = .ok (.getfield 30, 3) := by decide +kernel
theorem dX4_tub_25 : decode cX4_tub 25 = .ok (.iconst 1, 1) := by decide +kernel
theorem dX4_tub_26 : decode cX4_tub 26 = .ok (.iadd, 1) := by decide +kernel
theorem dX4_tub_27 : decode cX4_tub 27 = .ok (.putfield 30, 3) := by decide +kernel
theorem dX4_tub_30 : decode cX4_tub 30 = .ok (.aload_n 0, 1) := by decide +kernel
theorem dX4_tub_31 : decode cX4_tub 31 = .ok (.getfield 30, 3) := by decide +kernel
theorem dX4_tub_34 : decode cX4_tub 34 = .ok (.iconst 1, 1) := by decide +kernel
theorem dX4_tub_35 : decode cX4_tub 35 = .ok (.isub, 1) := by decide +kernel
theorem dX4_tub_36 : decode cX4_tub 36 = .ok (.ireturn, 1) := by decide +kernel
set_option maxRecDepth 20000 in
theorem ggX4_packed_X4_ch : GoodIn wsX4_packed wsX4_ch := goodIn_r _ [9, 10, 11, 12, 13, 14, 15, 16] (by decide +kernel) (by decide +kernel)
set_option maxRecDepth 20000 in
theorem gX4_packed_X4_ch : GoodIn wsX4_packed (wsV RX4 46 RX4 yX4_ch wsX4_ch) := goodIn_app (goodIn_of _ (by decide +kernel)) ggX4_packed_X4_ch
theorem dX4_packed_0 : decode cX4_packed 0 = .ok (.bipush 30, 2) := by decide +kernel
theorem dX4_packed_2 : decode cX4_packed 2 = .ok (.aload_n 0, 1) := by decide +kernel
theorem dX4_packed_3 : decode cX4_packed 3 = .ok (.iload_n 1, 1) := by decide +kernel
theorem dX4_packed_4 : decode cX4_packed 4 = .ok (.iconst 0, 1) := by decide +kernel
theorem dX4_packed_5 : decode cX4_packed 5 = .ok (.invokevirtual 46, 3) := by decide +kernel
theorem dX4_packed_8 : decode cX4_packed 8 = .ok (.iload_n 2, 1) := by decide +kernel
theorem dX4_packed_9 : decode cX4_packed 9 = .ok (.iconst 4, 1) := by decide +kernel
theorem dX4_packed_10 : decode cX4_packed 10 = .ok (.idiv, 1) := by decide +kernel
theorem dX4_packed_11 : decode cX4_packed 11 = .ok (.iadd, 1) := by decide +kernel
theorem dX4_packed_12 : decode cX4_packed 12 = .ok (.iload_n 3, 1) := by decide +kernel
theorem dX4_packed_13 : decode cX4_packed 13 = .ok (.iload_n 2, 1) := by decide +kernel
theorem dX4_packed_14 : decode cX4_packed 14 = .ok (.iconst 4, 1) := by decide +kernel
theorem dX4_packed_15 : decode cX4_packed 15 = .ok (.idiv, 1) := by decide +kernel
theorem dX4_packed_16 : decode cX4_packed 16 = .ok (.iconst 2, 1) := by decide +kernel
theorem dX4_packed_17 : decode cX4_packed 17 = .ok (.imul, 1) := by decide +kernel
theorem dX4_packed_18 : decode cX4_packed 18 = .ok (.invokestatic 40, 3) := by decide +kernel
theorem dX4_packed_21 : decode cX4_packed 21 = .ok (.iadd, 1) := by decide +kernel
theorem dX4_packed_22 : decode cX4_packed 22 = .ok (.invokestatic 40, 3) := by decide +kernel
theorem dX4_packed_25 : decode cX4_packed 25 = .ok (.ireturn, 1) := by decide +kernel
set_option maxRecDepth 20000 in
theorem ggX4_pack_X4_isChurn : GoodIn wsX4_pack wsX4_isChurn := goodIn_r _ [7, 8, 9, 10, 6, 11, 32, 33, 34, 35, 36, 37] (by decide +kernel) (by decide +kernel)
set_option maxRecDepth 20000 in
theorem gX4_pack_X4_isChurn : GoodIn wsX4_pack (wsV RX4 49 RX4 yX4_isChurn wsX4_isChurn) := goodIn_app (goodIn_of _ (by decide +kernel)) ggX4_pack_X4_isChurn
set_option maxRecDepth 20000 in
theorem ggX4_pack_X4_no : GoodIn wsX4_pack wsX4_no := goodIn_r _ [15, 1, 32, 33, 34, 35, 36, 37] (by decide +kernel) (by decide +kernel)
set_option maxRecDepth 20000 in
theorem gX4_pack_X4_no : GoodIn wsX4_pack (wsV RX4 33 RX4 yX4_no wsX4_no) := goodIn_app (goodIn_of _ (by decide +kernel)) ggX4_pack_X4_no
set_option maxRecDepth 20000 in
theorem ggX4_pack_X4_isIn : GoodIn wsX4_pack wsX4_isIn := goodIn_r _ [11] (by decide +kernel) (by decide +kernel)
set_option maxRecDepth 20000 in
theorem gX4_pack_X4_isIn : GoodIn wsX4_pack (va_wsS RX4 26 yX4_isIn wsX4_isIn) := goodIn_app (goodIn_of _ (by decide +kernel)) ggX4_pack_X4_isIn
set_option maxRecDepth 20000 in
theorem ggX4_pack_X4_packed : GoodIn wsX4_pack wsX4_packed := goodIn_r _ [19, 20, 21, 22, 23, 24, 25, 26, 6, 27, 2, 32, 33, 34, 35, 36, 37] (by decide +kernel) (by decide +kernel)
set_option maxRecDepth 20000 in
theorem gX4_pack_X4_packed : GoodIn wsX4_pack (wsV RX4 53 RX4 yX4_packed wsX4_packed) := goodIn_app (goodIn_of _ (by decide +kernel)) ggX4_pack_X4_packed
set_option maxRecDepth 20000 in
theorem ggX4_pack_X4_setChurn : GoodIn wsX4_pack wsX4_setChurn := goodIn_r _ [31, 2, 32, 33, 34, 35, 36, 37] (by decide +kernel) (by decide +kernel)
set_option maxRecDepth 20000 in
theorem gX4_pack_X4_setChurn : GoodIn wsX4_pack (wsV RX4 57 RX4 yX4_setChurn wsX4_setChurn) := goodIn_app (goodIn_of _ (by decide +kernel)) ggX4_pack_X4_setChurn
set_option maxRecDepth 20000 in
theorem ggX4_pack_X4_ch : GoodIn wsX4_pack wsX4_ch := goodIn_r _ [27, 2, 32, 33, 34, 35, 36, 37] (by decide +kernel) (by decide +kernel)
set_option maxRecDepth 20000 in
theorem gX4_pack_X4_ch : GoodIn wsX4_pack (wsV RX4 46 RX4 yX4_ch wsX4_ch) := goodIn_app (goodIn_of _ (by decide +kernel)) ggX4_pack_X4_ch
theorem dX4_pack_0 : decode cX4_pack 0 = .ok (.aload_n 0, 1) := by decide +kernel
theorem dX4_pack_1 : decode cX4_pack 1 = .ok (.iconst 0, 1) := by decide +kernel
theorem dX4_pack_2 : decode cX4_pack 2 = .ok (.putfield 19, 3) := by decide +kernel
theorem dX4_pack_5 : decode cX4_pack 5 = .ok (.aload_n 0, 1) := by decide +kernel
theorem dX4_pack_6 : decode cX4_pack 6 = .ok (.iload_n 1, 1) := by decide +kernel
theorem dX4_pack_7 : decode cX4_pack 7 = .ok (.invokevirtual 49, 3) := by decide +kernel
theorem dX4_pack_10 : decode cX4_pack 10 = .ok (.ifCond .ne 9, 3) := by decide +kernel
theorem dX4_pack_13 : decode cX4_pack 13 = .ok (.aload_n 0, 1) := by decide +kernel
theorem dX4_pack_14 : decode cX4_pack 14 = .ok (.iconst 1, 1) := by decide +kernel
theorem dX4_pack_15 : decode cX4_pack 15 = .ok (.invokevirtual 33, 3) := by decide +kernel
theorem dX4_pack_18 : decode cX4_pack 18 = .ok (.ireturn, 1) := by decide +kernel
theorem dX4_pack_19 : decode cX4_pack 19 = .ok (.iload_n 2, 1) := by decide +kernel
theorem dX4_pack_20 : decode cX4_pack 20 = .ok (.iconst 0, 1) := by decide +kernel
theorem dX4_pack_21 : decode cX4_pack 21 = .ok (.bipush 60, 2) := by decide +kernel
theorem dX4_pack_23 : decode cX4_pack 23 = .ok (.invokestatic 26, 3) := by decide +kernel
theorem dX4_pack_26 : decode cX4_pack 26 = .ok (.ifCond .eq 13, 3) := by decide +kernel
theorem dX4_pack_29 : decode cX4_pack 29 = .ok (.iload_n 3, 1) := by decide +kernel
theorem dX4_pack_30 : decode cX4_pack 30 = .ok (.iconst 0, 1) := by decide +kernel
theorem dX4_pack_31 : decode cX4_pack 31 = .ok (.bipush 60, 2) := by decide +kernel
theorem dX4_pack_33 : decode cX4_pack 33 = .ok (.invokestatic 26, 3) := by decide +kernel
theorem dX4_pack_36 : decode cX4_pack 36 = .ok (.ifCond .ne 9, 3) := by decide +kernel
theorem dX4_pack_39 : decode cX4_pack 39 = .ok (.aload_n 0, 1) := by decide +kernel
theorem dX4_pack_40 : decode cX4_pack 40 = .ok (.iconst 2, 1) := by decide +kernel
theorem dX4_pack_41 : decode cX4_pack 41 = .ok (.invokevirtual 33, 3) := by decide +kernel
theorem dX4_pack_44 : decode cX4_pack 44 = .ok (.ireturn, 1) := by decide +kernel
theorem dX4_pack_45 : decode cX4_pack 45 = .ok (.aload_n 0, 1) := by decide +kernel
theorem dX4_pack_46 : decode cX4_pack 46 = .ok (.getfield 9, 3) := by decide +kernel
theorem dX4_pack_49 : decode cX4_pack 49 = .ok (.iconst 1, 1) := by decide +kernel
theorem dX4_pack_50 : decode cX4_pack 50 = .ok (.iaload, 1) := by decide +kernel
theorem dX4_pack_51 : decode cX4_pack 51 = .ok (.iload_n 2, 1) := by decide +kernel
theorem dX4_pack_52 : decode cX4_pack 52 = .ok (.if_icmp .lt 13, 3) := by decide +kernel
theorem dX4_pack_55 : decode cX4_pack 55 = .ok (.aload_n 0, 1) := by decide +kernel
theorem dX4_pack_56 : decode cX4_pack 56 = .ok (.getfield 9, 3) := by decide +kernel
theorem dX4_pack_59 : decode cX4_pack 59 = .ok (.iconst 2, 1) := by decide +kernel
theorem dX4_pack_60 : decode cX4_pack 60 = .ok (.iaload, 1) := by decide +kernel
theorem dX4_pack_61 : decode cX4_pack 61 = .ok (.iload_n 3, 1) := by decide +kernel
theorem dX4_pack_62 : decode cX4_pack 62 = .ok (.if_icmp .ge 9, 3) := by decide +kernel
theorem dX4_pack_65 : decode cX4_pack 65 = .ok (.aload_n 0, 1) := by decide +kernel
theorem dX4_pack_66 : decode cX4_pack 66 = .ok (.iconst 3, 1) := by decide +kernel
theorem dX4_pack_67 : decode cX4_pack 67 = .ok (.invokevirtual 33, 3) := by decide +kernel
theorem dX4_pack_70 : decode cX4_pack 70 = .ok (.ireturn, 1) := by decide +kernel
theorem dX4_pack_71 : decode cX4_pack 71 = .ok (.aload_n 0, 1) := by decide +kernel
theorem dX4_pack_72 : decode cX4_pack 72 = .ok (.getfield 9, 3) := by decide +kernel
theorem dX4_pack_75 : decode cX4_pack 75 = .ok (.iconst 1, 1) := by decide +kernel
theorem dX4_pack_76 : decode cX4_pack 76 = .ok (.dup2, 1) := by decide +kernel
theorem dX4_pack_77 : decode cX4_pack 77 = .ok (.iaload, 1) := by decide +kernel
theorem dX4_pack_78 : decode cX4_pack 78 = .ok (.iload_n 2, 1) := by decide +kernel
theorem dX4_pack_79 : decode cX4_pack 79 = .ok (.isub, 1) := by decide +kernel
theorem dX4_pack_80 : decode cX4_pack 80 = .ok (.iastore, 1) := by decide +kernel
theorem dX4_pack_81 : decode cX4_pack 81 = .ok (.aload_n 0, 1) := by decide +kernel
theorem dX4_pack_82 : decode cX4_pack 82 = .ok (.getfield 9, 3) := by decide +kernel
theorem dX4_pack_85 : decode cX4_pack 85 = .ok (.iconst 2, 1) := by decide +kernel
theorem dX4_pack_86 : decode cX4_pack 86 = .ok (.dup2, 1) := by decide +kernel
theorem dX4_pack_87 : decode cX4_pack 87 = .ok (.iaload, 1) := by decide +kernel
theorem dX4_pack_88 : decode cX4_pack 88 = .ok (.iload_n 3, 1) := by decide +kernel
theorem dX4_pack_89 : decode cX4_pack 89 = .ok (.isub, 1) := by decide +kernel
theorem dX4_pack_90 : decode cX4_pack 90 = .ok (.iastore, 1) := by decide +kernel
theorem dX4_pack_91 : decode cX4_pack 91 = .ok (.aload_n 0, 1) := by decide +kernel
theorem dX4_pack_92 : decode cX4_pack 92 = .ok (.iload_n 1, 1) := by decide +kernel
theorem dX4_pack_93 : decode cX4_pack 93 = .ok (.iconst 0, 1) := by decide +kernel
theorem dX4_pack_94 : decode cX4_pack 94 = .ok (.aload_n 0, 1) := by decide +kernel
theorem dX4_pack_95 : decode cX4_pack 95 = .ok (.iload_n 1, 1) := by decide +kernel
theorem dX4_pack_96 : decode cX4_pack 96 = .ok (.iload_n 2, 1) := by decide +kernel
theorem dX4_pack_97 : decode cX4_pack 97 = .ok (.iload_n 3, 1) := by decide +kernel
theorem dX4_pack_98 : decode cX4_pack 98 = .ok (.invokevirtual 53, 3) := by decide +kernel
theorem dX4_pack_101 : decode cX4_pack 101 = .ok (.invokevirtual 57, 3) := by decide +kernel
theorem dX4_pack_104 : decode cX4_pack 104 = .ok (.aload_n 0, 1) := by decide +kernel
theorem dX4_pack_105 : decode cX4_pack 105 = .ok (.iload_n 1, 1) := by decide +kernel
theorem dX4_pack_106 : decode cX4_pack 106 = .ok (.iconst 0, 1) := by decide +kernel
theorem dX4_pack_107 : decode cX4_pack 107 = .ok (.invokevirtual 46, 3) := by decide +kernel
theorem dX4_pack_110 : decode cX4_pack 110 = .ok (.ireturn, 1) := by decide +kernel
set_option maxRecDepth 20000 in
theorem ggX4_pour_X4_isChurn : GoodIn wsX4_pour wsX4_isChurn := goodIn_r _ [7, 8, 9, 10, 6, 11, 24, 25, 26, 27, 28, 29] (by decide +kernel) (by decide +kernel)
set_option maxRecDepth 20000 in
theorem gX4_pour_X4_isChurn : GoodIn wsX4_pour (wsV RX4 49 RX4 yX4_isChurn wsX4_isChurn) := goodIn_app (goodIn_of _ (by decide +kernel)) ggX4_pour_X4_isChurn
set_option maxRecDepth 20000 in
theorem ggX4_pour_X4_no : GoodIn wsX4_pour wsX4_no := goodIn_r _ [15, 1, 24, 25, 26, 27, 28, 29] (by decide +kernel) (by decide +kernel)
set_option maxRecDepth 20000 in
theorem gX4_pour_X4_no : GoodIn wsX4_pour (wsV RX4 33 RX4 yX4_no wsX4_no) := goodIn_app (goodIn_of _ (by decide +kernel)) ggX4_pour_X4_no
set_option maxRecDepth 20000 in
theorem ggX4_pour_X4_isIn : GoodIn wsX4_pour wsX4_isIn := goodIn_r _ [11] (by decide +kernel) (by decide +kernel)
set_option maxRecDepth 20000 in
theorem gX4_pour_X4_isIn : GoodIn wsX4_pour (va_wsS RX4 26 yX4_isIn wsX4_isIn) := goodIn_app (goodIn_of _ (by decide +kernel)) ggX4_pour_X4_isIn
set_option maxRecDepth 20000 in
theorem ggX4_pour_X4_ch : GoodIn wsX4_pour wsX4_ch := goodIn_r _ [19, 2, 24, 25, 26, 27, 28, 29] (by decide +kernel) (by decide +kernel)
set_option maxRecDepth 20000 in
theorem gX4_pour_X4_ch : GoodIn wsX4_pour (wsV RX4 46 RX4 yX4_ch wsX4_ch) := goodIn_app (goodIn_of _ (by decide +kernel)) ggX4_pour_X4_ch
set_option maxRecDepth 20000 in
theorem ggX4_pour_X4_setChurn : GoodIn wsX4_pour wsX4_setChurn := goodIn_r _ [23, 2, 24, 25, 26, 27, 28, 29] (by decide +kernel) (by decide +kernel)
set_option maxRecDepth 20000 in
theorem gX4_pour_X4_setChurn : GoodIn wsX4_pour (wsV RX4 57 RX4 yX4_setChurn wsX4_setChurn) := goodIn_app (goodIn_of _ (by decide +kernel)) ggX4_pour_X4_setChurn
theorem dX4_pour_0 : decode cX4_pour 0 = .ok (.aload_n 0, 1) := by decide +kernel
theorem dX4_pour_1 : decode cX4_pour 1 = .ok (.iconst 0, 1) := by decide +kernel
theorem dX4_pour_2 : decode cX4_pour 2 = .ok (.putfield 19, 3) := by decide +kernel
theorem dX4_pour_5 : decode cX4_pour 5 = .ok (.aload_n 0, 1) := by decide +kernel
theorem dX4_pour_6 : decode cX4_pour 6 = .ok (.iload_n 1, 1) := by decide +kernel
theorem dX4_pour_7 : decode cX4_pour 7 = .ok (.invokevirtual 49, 3) := by decide +kernel
theorem dX4_pour_10 : decode cX4_pour 10 = .ok (.ifCond .ne 9, 3) := by decide +kernel
theorem dX4_pour_13 : decode cX4_pour 13 = .ok (.aload_n 0, 1) := by decide +kernel
theorem dX4_pour_14 : decode cX4_pour 14 = .ok (.iconst 1, 1) := by decide +kernel
theorem dX4_pour_15 : decode cX4_pour 15 = .ok (.invokevirtual 33, 3) := by decide +kernel
theorem dX4_pour_18 : decode cX4_pour 18 = .ok (.ireturn, 1) := by decide +kernel
theorem dX4_pour_19 : decode cX4_pour 19 = .ok (.iload_n 2, 1) := by decide +kernel
theorem dX4_pour_20 : decode cX4_pour 20 = .ok (.iconst 1, 1) := by decide +kernel
theorem dX4_pour_21 : decode cX4_pour 21 = .ok (.bipush 20, 2) := by decide +kernel
theorem dX4_pour_23 : decode cX4_pour 23 = .ok (.invokestatic 26, 3) := by decide +kernel
theorem dX4_pour_26 : decode cX4_pour 26 = .ok (.ifCond .ne 9, 3) := by decide +kernel
theorem dX4_pour_29 : decode cX4_pour 29 = .ok (.aload_n 0, 1) := by decide +kernel
theorem dX4_pour_30 : decode cX4_pour 30 = .ok (.iconst 2, 1) := by decide +kernel
theorem dX4_pour_31 : decode cX4_pour 31 = .ok (.invokevirtual 33, 3) := by decide +kernel
theorem dX4_pour_34 : decode cX4_pour 34 = .ok (.ireturn, 1) := by decide +kernel
theorem dX4_pour_35 : decode cX4_pour 35 = .ok (.aload_n 0, 1) := by decide +kernel
theorem dX4_pour_36 : decode cX4_pour 36 = .ok (.iload_n 1, 1) := by decide +kernel
theorem dX4_pour_37 : decode cX4_pour 37 = .ok (.iconst 1, 1) := by decide +kernel
theorem dX4_pour_38 : decode cX4_pour 38 = .ok (.invokevirtual 46, 3) := by decide +kernel
theorem dX4_pour_41 : decode cX4_pour 41 = .ok (.istore_n 3, 1) := by decide +kernel
theorem dX4_pour_42 : decode cX4_pour 42 = .ok (.aload_n 0, 1) := by decide +kernel
theorem dX4_pour_43 : decode cX4_pour 43 = .ok (.getfield 9, 3) := by decide +kernel
theorem dX4_pour_46 : decode cX4_pour 46 = .ok (.iconst 3, 1) := by decide +kernel
theorem dX4_pour_47 : decode cX4_pour 47 = .ok (.iaload, 1) := by decide +kernel
theorem dX4_pour_48 : decode cX4_pour 48 = .ok (.iload_n 2, 1) := by decide +kernel
theorem dX4_pour_49 : decode cX4_pour 49 = .ok (.if_icmp .lt 11, 3) := by decide +kernel
theorem dX4_pour_52 : decode cX4_pour 52 = .ok (.iload_n 3, 1) := by decide +kernel
theorem dX4_pour_53 : decode cX4_pour 53 = .ok (.iload_n 2, 1) := by decide +kernel
theorem dX4_pour_54 : decode cX4_pour 54 = .ok (.iadd, 1) := by decide +kernel
theorem dX4_pour_55 : decode cX4_pour 55 = .ok (.bipush 20, 2) := by decide +kernel
theorem dX4_pour_57 : decode cX4_pour 57 = .ok (.if_icmp .le 9, 3) := by decide +kernel
theorem dX4_pour_60 : decode cX4_pour 60 = .ok (.aload_n 0, 1) := by decide +kernel
theorem dX4_pour_61 : decode cX4_pour 61 = .ok (.iconst 3, 1) := by decide +kernel
theorem dX4_pour_62 : decode cX4_pour 62 = .ok (.invokevirtual 33, 3) := by decide +kernel
theorem dX4_pour_65 : decode cX4_pour 65 = .ok (.ireturn, 1) := by decide +kernel
theorem dX4_pour_66 : decode cX4_pour 66 = .ok (.aload_n 0, 1) := by decide +kernel
theorem dX4_pour_67 : decode cX4_pour 67 = .ok (.getfield 9, 3) := by decide +kernel
theorem dX4_pour_70 : decode cX4_pour 70 = .ok (.iconst 3, 1) := by decide +kernel
theorem dX4_pour_71 : decode cX4_pour 71 = .ok (.dup2, 1) := by decide +kernel
theorem dX4_pour_72 : decode cX4_pour 72 = .ok (.iaload, 1) := by decide +kernel
theorem dX4_pour_73 : decode cX4_pour 73 = .ok (.iload_n 2, 1) := by decide +kernel
theorem dX4_pour_74 : decode cX4_pour 74 = .ok (.isub, 1) := by decide +kernel
theorem dX4_pour_75 : decode cX4_pour 75 = .ok (.iastore, 1) := by decide +kernel
theorem dX4_pour_76 : decode cX4_pour 76 = .ok (.aload_n 0, 1) := by decide +kernel
theorem dX4_pour_77 : decode cX4_pour 77 = .ok (.iload_n 1, 1) := by decide +kernel
theorem dX4_pour_78 : decode cX4_pour 78 = .ok (.iconst 2, 1) := by decide +kernel
theorem dX4_pour_79 : decode cX4_pour 79 = .ok (.aload_n 0, 1) := by decide +kernel
theorem dX4_pour_80 : decode cX4_pour 80 = .ok (.iload_n 1, 1) := by decide +kernel
theorem dX4_pour_81 : decode cX4_pour 81 = .ok (.iconst 2, 1) := by decide +kernel
theorem dX4_pour_82 : decode cX4_pour 82 = .ok (.invokevirtual 46, 3) := by decide +kernel
theorem dX4_pour_85 : decode cX4_pour 85 = .ok (.iload_n 3, 1) := by decide +kernel
theorem dX4_pour_86 : decode cX4_pour 86 = .ok (.imul, 1) := by decide +kernel
theorem dX4_pour_87 : decode cX4_pour 87 = .ok (.iload_n 3, 1) := by decide +kernel
theorem dX4_pour_88 : decode cX4_pour 88 = .ok (.iload_n 2, 1) := by decide +kernel
theorem dX4_pour_89 : decode cX4_pour 89 = .ok (.iadd, 1) := by decide +kernel
theorem dX4_pour_90 : decode cX4_pour 90 = .ok (.idiv, 1) := by decide +kernel
theorem dX4_pour_91 : decode cX4_pour 91 = .ok (.invokevirtual 57, 3) := by decide +kernel
theorem dX4_pour_94 : decode cX4_pour 94 = .ok (.aload_n 0, 1) := by decide +kernel
theorem dX4_pour_95 : decode cX4_pour 95 = .ok (.iload_n 1, 1) := by decide +kernel
theorem dX4_pour_96 : decode cX4_pour 96 = .ok (.iconst 1, 1) := by decide +kernel
theorem dX4_pour_97 : decode cX4_pour 97 = .ok (.iload_n 3, 1) := by decide +kernel
theorem dX4_pour_98 : decode cX4_pour 98 = .ok (.iload_n 2, 1) := by decide +kernel
theorem dX4_pour_99 : decode cX4_pour 99 = .ok (.iadd, 1) := by decide +kernel
theorem dX4_pour_100 : decode cX4_pour 100 = .ok (.invokevirtual 57, 3) := by decide +kernel
theorem dX4_pour_103 : decode cX4_pour 103 = .ok (.aload_n 0, 1) := by decide +kernel
theorem dX4_pour_104 : decode cX4_pour 104 = .ok (.iload_n 1, 1) := by decide +kernel
theorem dX4_pour_105 : decode cX4_pour 105 = .ok (.iconst 2, 1) := by decide +kernel
theorem dX4_pour_106 : decode cX4_pour 106 = .ok (.invokevirtual 46, 3) := by decide +kernel
theorem dX4_pour_109 : decode cX4_pour 109 = .ok (.ireturn, 1) := by decide +kernel
set_option maxRecDepth 20000 in
theorem ggX4_scoop_X4_isChurn : GoodIn wsX4_scoop wsX4_isChurn := goodIn_r _ [13, 14, 15, 16, 12, 17, 44, 45, 46, 47, 48, 49] (by decide +kernel) (by decide +kernel)
set_option maxRecDepth 20000 in
theorem gX4_scoop_X4_isChurn : GoodIn wsX4_scoop (wsV RX4 49 RX4 yX4_isChurn wsX4_isChurn) := goodIn_app (goodIn_of _ (by decide +kernel)) ggX4_scoop_X4_isChurn
set_option maxRecDepth 20000 in
theorem ggX4_scoop_X4_isTub : GoodIn wsX4_scoop wsX4_isTub := goodIn_r _ [21, 22, 15, 16, 12, 17, 44, 45, 46, 47, 48, 49] (by decide +kernel) (by decide +kernel)
set_option maxRecDepth 20000 in
theorem gX4_scoop_X4_isTub : GoodIn wsX4_scoop (wsV RX4 61 RX4 yX4_isTub wsX4_isTub) := goodIn_app (goodIn_of _ (by decide +kernel)) ggX4_scoop_X4_isTub
set_option maxRecDepth 20000 in
theorem ggX4_scoop_X4_no : GoodIn wsX4_scoop wsX4_no := goodIn_r _ [26, 1, 44, 45, 46, 47, 48, 49] (by decide +kernel) (by decide +kernel)
set_option maxRecDepth 20000 in
theorem gX4_scoop_X4_no : GoodIn wsX4_scoop (wsV RX4 33 RX4 yX4_no wsX4_no) := goodIn_app (goodIn_of _ (by decide +kernel)) ggX4_scoop_X4_no
set_option maxRecDepth 20000 in
theorem ggX4_scoop_X4_ch : GoodIn wsX4_scoop wsX4_ch := goodIn_r _ [30, 31, 44, 45, 46, 47, 48, 49] (by decide +kernel) (by decide +kernel)
set_option maxRecDepth 20000 in
theorem gX4_scoop_X4_ch : GoodIn wsX4_scoop (wsV RX4 46 RX4 yX4_ch wsX4_ch) := goodIn_app (goodIn_of _ (by decide +kernel)) ggX4_scoop_X4_ch
set_option maxRecDepth 20000 in
theorem ggX4_scoop_X4_tu : GoodIn wsX4_scoop wsX4_tu := goodIn_r _ [35, 31, 44, 45, 46, 47, 48, 49] (by decide +kernel) (by decide +kernel)
set_option maxRecDepth 20000 in
theorem gX4_scoop_X4_tu : GoodIn wsX4_scoop (wsV RX4 64 RX4 yX4_tu wsX4_tu) := goodIn_app (goodIn_of _ (by decide +kernel)) ggX4_scoop_X4_tu
set_option maxRecDepth 20000 in
theorem ggX4_scoop_X4_setTub : GoodIn wsX4_scoop wsX4_setTub := goodIn_r _ [39, 31, 44, 45, 46, 47, 48, 49] (by decide +kernel) (by decide +kernel)
set_option maxRecDepth 20000 in
theorem gX4_scoop_X4_setTub : GoodIn wsX4_scoop (wsV RX4 67 RX4 yX4_setTub wsX4_setTub) := goodIn_app (goodIn_of _ (by decide +kernel)) ggX4_scoop_X4_setTub
set_option maxRecDepth 20000 in
theorem ggX4_scoop_X4_setChurn : GoodIn wsX4_scoop wsX4_setChurn := goodIn_r _ [43, 31, 44, 45, 46, 47, 48, 49] (by decide +kernel) (by decide +kernel)
set_option maxRecDepth 20000 in
theorem gX4_scoop_X4_setChurn : GoodIn wsX4_scoop (wsV RX4 57 RX4 yX4_setChurn wsX4_setChurn) := goodIn_app (goodIn_of _ (by decide +kernel)) ggX4_scoop_X4_setChurn
theorem dX4_scoop_0 : decode cX4_scoop 0 = .ok (.aload_n 0, 1) := by decide +kernel
theorem dX4_scoop_1 : decode cX4_scoop 1 = .ok (.iconst 0, 1) := by decide +kernel
theorem dX4_scoop_2 : decode cX4_scoop 2 = .ok (.putfield 19, 3) := by decide +kernel
theorem dX4_scoop_5 : decode cX4_scoop 5 = .ok (.aload_n 0, 1) := by decide +kernel
theorem dX4_scoop_6 : decode cX4_scoop 6 = .ok (.iload_n 1, 1) := by decide +kernel
theorem dX4_scoop_7 : decode cX4_scoop 7 = .ok (.invokevirtual 49, 3) := by decide +kernel
theorem dX4_scoop_10 : decode cX4_scoop 10 = .ok (.ifCond .eq 11, 3) := by decide +kernel
theorem dX4_scoop_13 : decode cX4_scoop 13 = .ok (.aload_n 0, 1) := by decide +kernel
theorem dX4_scoop_14 : decode cX4_scoop 14 = .ok (.iload_n 2, 1) := by decide +kernel
theorem dX4_scoop_15 : decode cX4_scoop 15 = .ok (.invokevirtual 61, 3) := by decide +kernel
theorem dX4_scoop_18 : decode cX4_scoop 18 = .ok (.ifCond .ne 9, 3) := by decide +kernel
theorem dX4_scoop_21 : decode cX4_scoop 21 = .ok (.aload_n 0, 1) := by decide +kernel
