set_option maxRecDepth 20000 in
theorem ggX0_init_J7_fill_53178 : GoodIn wsX0_init wsJ7_fill_53178 := goodIn_r _ [18] (by decide +kernel) (by decide +kernel)
set_option maxRecDepth 20000 in
theorem gX0_init_J7_fill_53178 : GoodIn wsX0_init (va_wsS RX0 33 yJ7_fill_53178 wsJ7_fill_53178) := goodIn_app (goodIn_of _ (by decide +kernel)) ggX0_init_J7_fill_53178
set_option maxRecDepth 20000 in
theorem ggX0_init_X1_init : GoodIn wsX0_init wsX1_init := goodIn_r _ [20, 21, 2, 3] (by decide +kernel) (by decide +kernel)
set_option maxRecDepth 20000 in
theorem gX0_init_X1_init_n39 : GoodIn wsX0_init (wsX1_init) := ggX0_init_X1_init
set_option maxRecDepth 20000 in
theorem ggX0_init_X2_init : GoodIn wsX0_init wsX2_init := goodIn_r _ [23, 24, 2, 3] (by decide +kernel) (by decide +kernel)
set_option maxRecDepth 20000 in
theorem gX0_init_X2_init_n40 : GoodIn wsX0_init (wsX2_init) := ggX0_init_X2_init
theorem dX0_init_0 : decode cX0_init 0 = .ok (.aload_n 0, 1) := by decide +kernel
theorem dX0_init_1 : decode cX0_init 1 = .ok (.invokespecial 3, 3) := by decide +kernel
theorem dX0_init_4 : decode cX0_init 4 = .ok (.aload_n 0, 1) := by decide +kernel
theorem dX0_init_5 : decode cX0_init 5 = .ok (.getstatic 9, 3) := by decide +kernel
theorem dX0_init_8 : decode cX0_init 8 = .ok (.arraylength, 1) := by decide +kernel
theorem dX0_init_9 : decode cX0_init 9 = .ok (.newarray .int, 2) := by decide +kernel
theorem dX0_init_11 : decode cX0_init 11 = .ok (.putfield 13, 3) := by decide +kernel
theorem dX0_init_14 : decode cX0_init 14 = .ok (.aload_n 0, 1) := by decide +kernel
theorem dX0_init_15 : decode cX0_init 15 = .ok (.bipush 7, 2) := by decide +kernel
theorem dX0_init_17 : decode cX0_init 17 = .ok (.newarray .int, 2) := by decide +kernel
theorem dX0_init_19 : decode cX0_init 19 = .ok (.putfield 18, 3) := by decide +kernel
theorem dX0_init_22 : decode cX0_init 22 = .ok (.aload_n 0, 1) := by decide +kernel
theorem dX0_init_23 : decode cX0_init 23 = .ok (.iconst 4, 1) := by decide +kernel
theorem dX0_init_24 : decode cX0_init 24 = .ok (.anewarray 21, 3) := by decide +kernel
theorem dX0_init_27 : decode cX0_init 27 = .ok (.putfield 23, 3) := by decide +kernel
theorem dX0_init_30 : decode cX0_init 30 = .ok (.aload_n 0, 1) := by decide +kernel
theorem dX0_init_31 : decode cX0_init 31 = .ok (.bipush 6, 2) := by decide +kernel
theorem dX0_init_33 : decode cX0_init 33 = .ok (.anewarray 27, 3) := by decide +kernel
theorem dX0_init_36 : decode cX0_init 36 = .ok (.putfield 29, 3) := by decide +kernel
theorem dX0_init_39 : decode cX0_init 39 = .ok (.aload_n 0, 1) := by decide +kernel
theorem dX0_init_40 : decode cX0_init 40 = .ok (.getfield 18, 3) := by decide +kernel
theorem dX0_init_43 : decode cX0_init 43 = .ok (.bipush 20, 2) := by decide +kernel
theorem dX0_init_45 : decode cX0_init 45 = .ok (.invokestatic 33, 3) := by decide +kernel
theorem dX0_init_48 : decode cX0_init 48 = .ok (.iconst 0, 1) := by decide +kernel
theorem dX0_init_49 : decode cX0_init 49 = .ok (.istore_n 1, 1) := by decide +kernel
theorem dX0_init_50 : decode cX0_init 50 = .ok (.iload_n 1, 1) := by decide +kernel
theorem dX0_init_51 : decode cX0_init 51 = .ok (.iconst 4, 1) := by decide +kernel
theorem dX0_init_52 : decode cX0_init 52 = .ok (.if_icmp .ge 22, 3) := by decide +kernel
theorem dX0_init_55 : decode cX0_init 55 = .ok (.aload_n 0, 1) := by decide +kernel
theorem dX0_init_56 : decode cX0_init 56 = .ok (.getfield 23, 3) := by decide +kernel
theorem dX0_init_59 : decode cX0_init 59 = .ok (.iload_n 1, 1) := by decide +kernel
theorem dX0_init_60 : decode cX0_init 60 = .ok (.new 21, 3) := by decide +kernel
theorem dX0_init_63 : decode cX0_init 63 = .ok (.dup, 1) := by decide +kernel
theorem dX0_init_64 : decode cX0_init 64 = .ok (.invokespecial 39, 3) := by decide +kernel
theorem dX0_init_67 : decode cX0_init 67 = .ok (.aastore, 1) := by decide +kernel
theorem dX0_init_68 : decode cX0_init 68 = .ok (.iinc 1 1, 3) := by decide +kernel
theorem dX0_init_71 : decode cX0_init 71 = .ok (.goto (-21), 3) := by decide +kernel
theorem dX0_init_74 : decode cX0_init 74 = .ok (.iconst 0, 1) := by decide +kernel
theorem dX0_init_75 : decode cX0_init 75 = .ok (.istore_n 1, 1) := by decide +kernel
theorem dX0_init_76 : decode cX0_init 76 = .ok (.iload_n 1, 1) := by decide +kernel
theorem dX0_init_77 : decode cX0_init 77 = .ok (.bipush 6, 2) := by decide +kernel
theorem dX0_init_79 : decode cX0_init 79 = .ok (.if_icmp .ge 22, 3) := by decide +kernel
theorem dX0_init_82 : decode cX0_init 82 = .ok (.aload_n 0, 1) := by decide +kernel
theorem dX0_init_83 : decode cX0_init 83 = .ok (.getfield 29, 3) := by decide +kernel
theorem dX0_init_86 : decode cX0_init 86 = .ok (.iload_n 1, 1) := by decide +kernel
theorem dX0_init_87 : decode cX0_init 87 = .ok (.new 27, 3) := by decide +kernel
theorem dX0_init_90 : decode cX0_init 90 = .ok (.dup, 1) := by decide +kernel
theorem dX0_init_91 : decode cX0_init 91 = .ok (.invokespecial 40, 3) := by decide +kernel
theorem dX0_init_94 : decode cX0_init 94 = .ok (.aastore, 1) := by decide +kernel
theorem dX0_init_95 : decode cX0_init 95 = .ok (.iinc 1 1, 3) := by decide +kernel
theorem dX0_init_98 : decode cX0_init 98 = .ok (.goto (-22), 3) := by decide +kernel
theorem dX0_init_101 : decode cX0_init 101 = .ok (.return_, 1) := by decide +kernel
set_option maxRecDepth 20000 in
theorem ggX0_number_X0_heatAt : GoodIn wsX0_number wsX0_heatAt := goodIn_r _ [9, 10, 11, 12, 13, 14, 25, 26, 27, 28, 29, 30, 31, 32, 33] (by decide +kernel) (by decide +kernel)
set_option maxRecDepth 20000 in
theorem gX0_number_X0_heatAt : GoodIn wsX0_number (wsV RX0 45 RX0 yX0_heatAt wsX0_heatAt) := goodIn_app (goodIn_of _ (by decide +kernel)) ggX0_number_X0_heatAt
set_option maxRecDepth 20000 in
theorem ggX0_number_X0_scoopsInTubs : GoodIn wsX0_number wsX0_scoopsInTubs := goodIn_r _ [18, 19, 20, 25, 26, 27, 28, 29, 30, 31, 32, 33, 34, 35, 36] (by decide +kernel) (by decide +kernel)
set_option maxRecDepth 20000 in
theorem gX0_number_X0_scoopsInTubs : GoodIn wsX0_number (wsV RX0 52 RX0 yX0_scoopsInTubs wsX0_scoopsInTubs) := goodIn_app (goodIn_of _ (by decide +kernel)) ggX0_number_X0_scoopsInTubs
set_option maxRecDepth 20000 in
theorem ggX0_number_X0_soldScoops : GoodIn wsX0_number wsX0_soldScoops := goodIn_r _ [24, 19, 20, 25, 26, 27, 28, 29, 30, 31, 32, 33, 34, 35, 36] (by decide +kernel) (by decide +kernel)
set_option maxRecDepth 20000 in
theorem gX0_number_X0_soldScoops : GoodIn wsX0_number (wsV RX0 56 RX0 yX0_soldScoops wsX0_soldScoops) := goodIn_app (goodIn_of _ (by decide +kernel)) ggX0_number_X0_soldScoops
theorem dX0_number_0 : decode cX0_number 0 = .ok (.iload_n 1, 1) := by decide +kernel
theorem dX0_number_1 : decode cX0_number 1 = .ok (.tableswitch 108 0 8 #[51, 56, 65, 72, 79, 86, 93, 98, 103], 51) := by decide +kernel
theorem dX0_number_52 : decode cX0_number 52 = .ok (.aload_n 0, 1) := by decide +kernel
theorem dX0_number_53 : decode cX0_number 53 = .ok (.getfield 41, 3) := by decide +kernel
theorem dX0_number_56 : decode cX0_number 56 = .ok (.ireturn, 1) := by decide +kernel
theorem dX0_number_57 : decode cX0_number 57 = .ok (.aload_n 0, 1) := by decide +kernel
theorem dX0_number_58 : decode cX0_number 58 = .ok (.aload_n 0, 1) := by decide +kernel
theorem dX0_number_59 : decode cX0_number 59 = .ok (.getfield 41, 3) := by decide +kernel
theorem dX0_number_62 : decode cX0_number 62 = .ok (.invokevirtual 45, 3) := by decide +kernel
theorem dX0_number_65 : decode cX0_number 65 = .ok (.ireturn, 1) := by decide +kernel
theorem dX0_number_66 : decode cX0_number 66 = .ok (.aload_n 0, 1) := by decide +kernel
theorem dX0_number_67 : decode cX0_number 67 = .ok (.getfield 13, 3) := by decide +kernel
theorem dX0_number_70 : decode cX0_number 70 = .ok (.iconst 0, 1) := by decide +kernel
theorem dX0_number_71 : decode cX0_number 71 = .ok (.iaload, 1) := by decide +kernel
theorem dX0_number_72 : decode cX0_number 72 = .ok (.ireturn, 1) := by decide +kernel
theorem dX0_number_73 : decode cX0_number 73 = .ok (.aload_n 0, 1) := by decide +kernel
theorem dX0_number_74 : decode cX0_number 74 = .ok (.getfield 13, 3) := by decide +kernel
theorem dX0_number_77 : decode cX0_number 77 = .ok (.iconst 1, 1) := by decide +kernel
theorem dX0_number_78 : decode cX0_number 78 = .ok (.iaload, 1) := by decide +kernel
theorem dX0_number_79 : decode cX0_number 79 = .ok (.ireturn, 1) := by decide +kernel
theorem dX0_number_80 : decode cX0_number 80 = .ok (.aload_n 0, 1) := by decide +kernel
theorem dX0_number_81 : decode cX0_number 81 = .ok (.getfield 13, 3) := by decide +kernel
theorem dX0_number_84 : decode cX0_number 84 = .ok (.iconst 2, 1) := by decide +kernel
theorem dX0_number_85 : decode cX0_number 85 = .ok (.iaload, 1) := by decide +kernel
theorem dX0_number_86 : decode cX0_number 86 = .ok (.ireturn, 1) := by decide +kernel
theorem dX0_number_87 : decode cX0_number 87 = .ok (.aload_n 0, 1) := by decide +kernel
theorem dX0_number_88 : decode cX0_number 88 = .ok (.getfield 13, 3) := by decide +kernel
theorem dX0_number_91 : decode cX0_number 91 = .ok (.iconst 3, 1) := by decide +kernel
theorem dX0_number_92 : decode cX0_number 92 = .ok (.iaload, 1) := by decide +kernel
theorem dX0_number_93 : decode cX0_number 93 = .ok (.ireturn, 1) := by decide +kernel
theorem dX0_number_94 : decode cX0_number 94 = .ok (.aload_n 0, 1) := by decide +kernel
theorem dX0_number_95 : decode cX0_number 95 = .ok (.getfield 49, 3) := by decide +kernel
theorem dX0_number_98 : decode cX0_number 98 = .ok (.ireturn, 1) := by decide +kernel
theorem dX0_number_99 : decode cX0_number 99 = .ok (.aload_n 0, 1) := by decide +kernel
theorem dX0_number_100 : decode cX0_number 100 = .ok (.invokevirtual 52, 3) := by decide +kernel
theorem dX0_number_103 : decode cX0_number 103 = .ok (.ireturn, 1) := by decide +kernel
theorem dX0_number_104 : decode cX0_number 104 = .ok (.aload_n 0, 1) := by decide +kernel
theorem dX0_number_105 : decode cX0_number 105 = .ok (.invokevirtual 56, 3) := by decide +kernel
theorem dX0_number_108 : decode cX0_number 108 = .ok (.ireturn, 1) := by decide +kernel
theorem dX0_number_109 : decode cX0_number 109 = .ok (.aload_n 0, 1) := by decide +kernel
theorem dX0_number_110 : decode cX0_number 110 = .ok (.getfield 59, 3) := by decide +kernel
theorem dX0_number_113 : decode cX0_number 113 = .ok (.ireturn, 1) := by decide +kernel
set_option maxRecDepth 20000 in
theorem ggX0_heatAt_J9_floorMod_7cf53 : GoodIn wsX0_heatAt wsJ9_floorMod_7cf53 := goodIn_r _ [5] (by decide +kernel) (by decide +kernel)
set_option maxRecDepth 20000 in
theorem gX0_heatAt_J9_floorMod_7cf53 : GoodIn wsX0_heatAt (va_wsS RX0 62 yJ9_floorMod_7cf53 wsJ9_floorMod_7cf53) := goodIn_app (goodIn_of _ (by decide +kernel)) ggX0_heatAt_J9_floorMod_7cf53
theorem dX0_heatAt_0 : decode cX0_heatAt 0 = .ok (.aload_n 0, 1) := by decide +kernel
theorem dX0_heatAt_1 : decode cX0_heatAt 1 = .ok (.getfield 18, 3) := by decide +kernel
theorem dX0_heatAt_4 : decode cX0_heatAt 4 = .ok (.iload_n 1, 1) := by decide +kernel
theorem dX0_heatAt_5 : decode cX0_heatAt 5 = .ok (.bipush 24, 2) := by decide +kernel
theorem dX0_heatAt_7 : decode cX0_heatAt 7 = .ok (.idiv, 1) := by decide +kernel
theorem dX0_heatAt_8 : decode cX0_heatAt 8 = .ok (.bipush 7, 2) := by decide +kernel
theorem dX0_heatAt_10 : decode cX0_heatAt 10 = .ok (.invokestatic 62, 3) := by decide +kernel
theorem dX0_heatAt_13 : decode cX0_heatAt 13 = .ok (.iaload, 1) := by decide +kernel
theorem dX0_heatAt_14 : decode cX0_heatAt 14 = .ok (.ireturn, 1) := by decide +kernel
theorem dX0_scoopsInTubs_0 : decode cX0_scoopsInTubs 0 = .ok (.iconst 0, 1) := by decide +kernel
theorem dX0_scoopsInTubs_1 : decode cX0_scoopsInTubs 1 = .ok (.istore_n 1, 1) := by decide +kernel
theorem dX0_scoopsInTubs_2 : decode cX0_scoopsInTubs 2 = .ok (.iconst 0, 1) := by decide +kernel
theorem dX0_scoopsInTubs_3 : decode cX0_scoopsInTubs 3 = .ok (.istore_n 2, 1) := by decide +kernel
theorem dX0_scoopsInTubs_4 : decode cX0_scoopsInTubs 4 = .ok (.iload_n 2, 1) := by decide +kernel
theorem dX0_scoopsInTubs_5 : decode cX0_scoopsInTubs 5 = .ok (.aload_n 0, 1) := by decide +kernel
theorem dX0_scoopsInTubs_6 : decode cX0_scoopsInTubs 6 = .ok (.getfield 68, 3) := by decide +kernel
theorem dX0_scoopsInTubs_9 : decode cX0_scoopsInTubs 9 = .ok (.if_icmp .ge 21, 3) := by decide +kernel
theorem dX0_scoopsInTubs_12 : decode cX0_scoopsInTubs 12 = .ok (.iload_n 1, 1) := by decide +kernel
theorem dX0_scoopsInTubs_13 : decode cX0_scoopsInTubs 13 = .ok (.aload_n 0, 1) := by decide +kernel
theorem dX0_scoopsInTubs_14 : decode cX0_scoopsInTubs 14 = .ok (.getfield 29, 3) := by decide +kernel
theorem dX0_scoopsInTubs_17 : decode cX0_scoopsInTubs 17 = .ok (.iload_n 2, 1) := by decide +kernel
theorem dX0_scoopsInTubs_18 : decode cX0_scoopsInTubs 18 = .ok (.aaload, 1) := by decide +kernel
theorem dX0_scoopsInTubs_19 : decode cX0_scoopsInTubs 19 = .ok (.getfield 71, 3) := by decide +kernel
theorem dX0_scoopsInTubs_22 : decode cX0_scoopsInTubs 22 = .ok (.iadd, 1) := by decide +kernel
theorem dX0_scoopsInTubs_23 : decode cX0_scoopsInTubs 23 = .ok (.istore_n 1, 1) := by decide +kernel
theorem dX0_scoopsInTubs_24 : decode cX0_scoopsInTubs 24 = .ok (.iinc 2 1, 3) := by decide +kernel
theorem dX0_scoopsInTubs_27 : decode cX0_scoopsInTubs 27 = .ok (.goto (-23), 3) := by decide +kernel
theorem dX0_scoopsInTubs_30 : decode cX0_scoopsInTubs 30 = .ok (.iload_n 1, 1) := by decide +kernel
theorem dX0_scoopsInTubs_31 : decode cX0_scoopsInTubs 31 = .ok (.ireturn, 1) := by decide +kernel
theorem dX0_soldScoops_0 : decode cX0_soldScoops 0 = .ok (.iconst 0, 1) := by decide +kernel
theorem dX0_soldScoops_1 : decode cX0_soldScoops 1 = .ok (.istore_n 1, 1) := by decide +kernel
theorem dX0_soldScoops_2 : decode cX0_soldScoops 2 = .ok (.iconst 0, 1) := by decide +kernel
theorem dX0_soldScoops_3 : decode cX0_soldScoops 3 = .ok (.istore_n 2, 1) := by decide +kernel
theorem dX0_soldScoops_4 : decode cX0_soldScoops 4 = .ok (.iload_n 2, 1) := by decide +kernel
theorem dX0_soldScoops_5 : decode cX0_soldScoops 5 = .ok (.aload_n 0, 1) := by decide +kernel
theorem dX0_soldScoops_6 : decode cX0_soldScoops 6 = .ok (.getfield 68, 3) := by decide +kernel
theorem dX0_soldScoops_9 : decode cX0_soldScoops 9 = .ok (.if_icmp .ge 21, 3) := by decide +kernel
theorem dX0_soldScoops_12 : decode cX0_soldScoops 12 = .ok (.iload_n 1, 1) := by decide +kernel
theorem dX0_soldScoops_13 : decode cX0_soldScoops 13 = .ok (.aload_n 0, 1) := by decide +kernel
theorem dX0_soldScoops_14 : decode cX0_soldScoops 14 = .ok (.getfield 29, 3) := by decide +kernel
theorem dX0_soldScoops_17 : decode cX0_soldScoops 17 = .ok (.iload_n 2, 1) := by decide +kernel
theorem dX0_soldScoops_18 : decode cX0_soldScoops 18 = .ok (.aaload, 1) := by decide +kernel
theorem dX0_soldScoops_19 : decode cX0_soldScoops 19 = .ok (.getfield 74, 3) := by decide +kernel
theorem dX0_soldScoops_22 : decode cX0_soldScoops 22 = .ok (.iadd, 1) := by decide +kernel
theorem dX0_soldScoops_23 : decode cX0_soldScoops 23 = .ok (.istore_n 1, 1) := by decide +kernel
theorem dX0_soldScoops_24 : decode cX0_soldScoops 24 = .ok (.iinc 2 1, 3) := by decide +kernel
theorem dX0_soldScoops_27 : decode cX0_soldScoops 27 = .ok (.goto (-23), 3) := by decide +kernel
theorem dX0_soldScoops_30 : decode cX0_soldScoops 30 = .ok (.iload_n 1, 1) := by decide +kernel
theorem dX0_soldScoops_31 : decode cX0_soldScoops 31 = .ok (.ireturn, 1) := by decide +kernel
theorem dX0_sellingTub_0 : decode cX0_sellingTub 0 = .ok (.iconst (-1), 1) := by decide +kernel
theorem dX0_sellingTub_1 : decode cX0_sellingTub 1 = .ok (.istore_n 1, 1) := by decide +kernel
theorem dX0_sellingTub_2 : decode cX0_sellingTub 2 = .ok (.bipush 101, 2) := by decide +kernel
theorem dX0_sellingTub_4 : decode cX0_sellingTub 4 = .ok (.istore_n 2, 1) := by decide +kernel
theorem dX0_sellingTub_5 : decode cX0_sellingTub 5 = .ok (.iconst 0, 1) := by decide +kernel
theorem dX0_sellingTub_6 : decode cX0_sellingTub 6 = .ok (.istore_n 3, 1) := by decide +kernel
theorem dX0_sellingTub_7 : decode cX0_sellingTub 7 = .ok (.iload_n 3, 1) := by decide +kernel
theorem dX0_sellingTub_8 : decode cX0_sellingTub 8 = .ok (.aload_n 0, 1) := by decide +kernel
theorem dX0_sellingTub_9 : decode cX0_sellingTub 9 = .ok (.getfield 68, 3) := by decide +kernel
theorem dX0_sellingTub_12 : decode cX0_sellingTub 12 = .ok (.if_icmp .ge 46, 3) := by decide +kernel
theorem dX0_sellingTub_15 : decode cX0_sellingTub 15 = .ok (.aload_n 0, 1) := by decide +kernel
theorem dX0_sellingTub_16 : decode cX0_sellingTub 16 = .ok (.getfield 29, 3) := by decide +kernel
theorem dX0_sellingTub_19 : decode cX0_sellingTub 19 = .ok (.iload_n 3, 1) := by decide +kernel
theorem dX0_sellingTub_20 : decode cX0_sellingTub 20 = .ok (.aaload, 1) := by decide +kernel
theorem dX0_sellingTub_21 : decode cX0_sellingTub 21 = .ok (.getfield 71, 3) := by decide +kernel
theorem dX0_sellingTub_24 : decode cX0_sellingTub 24 = .ok (.ifCond .le 28, 3) := by decide +kernel
theorem dX0_sellingTub_27 : decode cX0_sellingTub 27 = .ok (.aload_n 0, 1) := by decide +kernel
theorem dX0_sellingTub_28 : decode cX0_sellingTub 28 = .ok (.getfield 29, 3) := by decide +kernel
theorem dX0_sellingTub_31 : decode cX0_sellingTub 31 = .ok (.iload_n 3, 1) := by decide +kernel
theorem dX0_sellingTub_32 : decode cX0_sellingTub 32 = .ok (.aaload, 1) := by decide +kernel
theorem dX0_sellingTub_33 : decode cX0_sellingTub 33 = .ok (.getfield 77, 3) := by decide +kernel
theorem dX0_sellingTub_36 : decode cX0_sellingTub 36 = .ok (.iload_n 2, 1) := by decide +kernel
theorem dX0_sellingTub_37 : decode cX0_sellingTub 37 = .ok (.if_icmp .ge 15, 3) := by decide +kernel
theorem dX0_sellingTub_40 : decode cX0_sellingTub 40 = .ok (.iload_n 3, 1) := by decide +kernel
theorem dX0_sellingTub_41 : decode cX0_sellingTub 41 = .ok (.istore_n 1, 1) := by decide +kernel
theorem dX0_sellingTub_42 : decode cX0_sellingTub 42 = .ok (.aload_n 0, 1) := by decide +kernel
theorem dX0_sellingTub_43 : decode cX0_sellingTub 43 = .ok (.getfield 29, 3) := by decide +kernel
theorem dX0_sellingTub_46 : decode cX0_sellingTub 46 = .ok (.iload_n 3, 1) := by decide +kernel
theorem dX0_sellingTub_47 : decode cX0_sellingTub 47 = .ok (.aaload, 1) := by decide +kernel
theorem dX0_sellingTub_48 : decode cX0_sellingTub 48 = .ok (.getfield 77, 3) := by decide +kernel
theorem dX0_sellingTub_51 : decode cX0_sellingTub 51 = .ok (.istore_n 2, 1) := by decide +kernel
theorem dX0_sellingTub_52 : decode cX0_sellingTub 52 = .ok (.iinc 3 1, 3) := by decide +kernel
theorem dX0_sellingTub_55 : decode cX0_sellingTub 55 = .ok (.goto (-48), 3) := by decide +kernel
theorem dX0_sellingTub_58 : decode cX0_sellingTub 58 = .ok (.iload_n 1, 1) := by decide +kernel
theorem dX0_sellingTub_59 : decode cX0_sellingTub 59 = .ok (.ireturn, 1) := by decide +kernel
set_option maxRecDepth 20000 in
theorem ggX0_runHours_X0_runHour : GoodIn wsX0_runHours wsX0_runHour := goodIn_r _ [5, 6, 7, 8, 9, 10, 11, 12, 13, 14, 4, 15, 16, 17, 18, 19, 20, 21, 22, 23, 24, 25, 26, 27, 28, 29, 30, 31, 32, 33, 34, 35, 36, 37, 38, 39, 40, 41, 42, 43, 44, 45, 46, 47, 48, 49, 50, 51, 52, 53, 54, 55, 56, 57, 58, 59, 60, 61, 62, 63, 64, 65, 66, 67, 68, 69, 70, 71, 72, 73, 74, 75, 76, 77, 78, 79, 80, 81, 82, 83, 84, 85, 86, 87, 88, 89] (by decide +kernel) (by decide +kernel)
set_option maxRecDepth 20000 in
theorem gX0_runHours_X0_runHour : GoodIn wsX0_runHours (wsV RX0 80 RX0 yX0_runHour wsX0_runHour) := goodIn_app (goodIn_of _ (by decide +kernel)) ggX0_runHours_X0_runHour
theorem dX0_runHours_0 : decode cX0_runHours 0 = .ok (.iconst 0, 1) := by decide +kernel
theorem dX0_runHours_1 : decode cX0_runHours 1 = .ok (.istore_n 2, 1) := by decide +kernel
theorem dX0_runHours_2 : decode cX0_runHours 2 = .ok (.iload_n 2, 1) := by decide +kernel
theorem dX0_runHours_3 : decode cX0_runHours 3 = .ok (.iload_n 1, 1) := by decide +kernel
theorem dX0_runHours_4 : decode cX0_runHours 4 = .ok (.if_icmp .ge 13, 3) := by decide +kernel
theorem dX0_runHours_7 : decode cX0_runHours 7 = .ok (.aload_n 0, 1) := by decide +kernel
theorem dX0_runHours_8 : decode cX0_runHours 8 = .ok (.invokevirtual 80, 3) := by decide +kernel
theorem dX0_runHours_11 : decode cX0_runHours 11 = .ok (.iinc 2 1, 3) := by decide +kernel
theorem dX0_runHours_14 : decode cX0_runHours 14 = .ok (.goto (-12), 3) := by decide +kernel
theorem dX0_runHours_17 : decode cX0_runHours 17 = .ok (.return_, 1) := by decide +kernel
set_option maxRecDepth 20000 in
theorem ggX0_runHour_X0_heatAt : GoodIn wsX0_runHour wsX0_heatAt := goodIn_r _ [11, 12, 13, 14, 15, 16, 71, 72, 73, 74, 75, 76, 77, 78, 79] (by decide +kernel) (by decide +kernel)
set_option maxRecDepth 20000 in
theorem gX0_runHour_X0_heatAt : GoodIn wsX0_runHour (wsV RX0 45 RX0 yX0_heatAt wsX0_heatAt) := goodIn_app (goodIn_of _ (by decide +kernel)) ggX0_runHour_X0_heatAt
set_option maxRecDepth 20000 in
theorem ggX0_runHour_X1_turn : GoodIn wsX0_runHour wsX1_turn := goodIn_r _ [21, 22, 23, 24, 25, 26, 27, 28, 29, 30, 31, 32, 33, 34, 35, 36, 80, 81, 82] (by decide +kernel) (by decide +kernel)
set_option maxRecDepth 20000 in
theorem gX0_runHour_X1_turn : GoodIn wsX0_runHour (wsV RX0 86 RX1 yX1_turn wsX1_turn) := goodIn_app (goodIn_of _ (by decide +kernel)) ggX0_runHour_X1_turn
set_option maxRecDepth 20000 in
theorem ggX0_runHour_X2_standInHeat : GoodIn wsX0_runHour wsX2_standInHeat := goodIn_r _ [41, 42, 43, 44, 29, 30, 31, 45, 35, 36, 83, 84, 85] (by decide +kernel) (by decide +kernel)
set_option maxRecDepth 20000 in
theorem gX0_runHour_X2_standInHeat : GoodIn wsX0_runHour (wsV RX0 90 RX2 yX2_standInHeat wsX2_standInHeat) := goodIn_app (goodIn_of _ (by decide +kernel)) ggX0_runHour_X2_standInHeat
set_option maxRecDepth 20000 in
theorem ggX0_runHour_X0_servePeople : GoodIn wsX0_runHour wsX0_servePeople := goodIn_r _ [49, 1, 50, 51, 52, 10, 53, 6, 54, 55, 5, 56, 57, 58, 59, 4, 60, 61, 62, 40, 63, 42, 64, 43, 71, 72, 73, 74, 75, 76, 77, 78, 79, 83, 84, 85] (by decide +kernel) (by decide +kernel)
set_option maxRecDepth 20000 in
theorem gX0_runHour_X0_servePeople : GoodIn wsX0_runHour (wsV RX0 94 RX0 yX0_servePeople wsX0_servePeople) := goodIn_app (goodIn_of _ (by decide +kernel)) ggX0_runHour_X0_servePeople
set_option maxRecDepth 20000 in
theorem ggX0_runHour_X3_iceAfterHour : GoodIn wsX0_runHour wsX3_iceAfterHour := goodIn_r _ [66, 34, 35, 30, 36] (by decide +kernel) (by decide +kernel)
set_option maxRecDepth 20000 in
theorem gX0_runHour_X3_iceAfterHour_n97 : GoodIn wsX0_runHour (wsX3_iceAfterHour) := ggX0_runHour_X3_iceAfterHour
set_option maxRecDepth 20000 in
theorem ggX0_runHour_X2_forgetSoftnessIfEmpty : GoodIn wsX0_runHour wsX2_forgetSoftnessIfEmpty := goodIn_r _ [70, 42, 43, 83, 84, 85] (by decide +kernel) (by decide +kernel)
set_option maxRecDepth 20000 in
theorem gX0_runHour_X2_forgetSoftnessIfEmpty : GoodIn wsX0_runHour (wsV RX0 101 RX2 yX2_forgetSoftnessIfEmpty wsX2_forgetSoftnessIfEmpty) := goodIn_app (goodIn_of _ (by decide +kernel)) ggX0_runHour_X2_forgetSoftnessIfEmpty
theorem dX0_runHour_0 : decode cX0_runHour 0 = .ok (.aload_n 0, 1) := by decide +kernel
theorem dX0_runHour_1 : decode cX0_runHour 1 = .ok (.aload_n 0, 1) := by decide +kernel
theorem dX0_runHour_2 : decode cX0_runHour 2 = .ok (.getfield 41, 3) := by decide +kernel
theorem dX0_runHour_5 : decode cX0_runHour 5 = .ok (.invokevirtual 45, 3) := by decide +kernel
theorem dX0_runHour_8 : decode cX0_runHour 8 = .ok (.istore_n 1, 1) := by decide +kernel
theorem dX0_runHour_9 : decode cX0_runHour 9 = .ok (.iconst 0, 1) := by decide +kernel
theorem dX0_runHour_10 : decode cX0_runHour 10 = .ok (.istore_n 2, 1) := by decide +kernel
theorem dX0_runHour_11 : decode cX0_runHour 11 = .ok (.iload_n 2, 1) := by decide +kernel
theorem dX0_runHour_12 : decode cX0_runHour 12 = .ok (.aload_n 0, 1) := by decide +kernel
theorem dX0_runHour_13 : decode cX0_runHour 13 = .ok (.getfield 83, 3) := by decide +kernel
theorem dX0_runHour_16 : decode cX0_runHour 16 = .ok (.if_icmp .ge 19, 3) := by decide +kernel
theorem dX0_runHour_19 : decode cX0_runHour 19 = .ok (.aload_n 0, 1) := by decide +kernel
theorem dX0_runHour_20 : decode cX0_runHour 20 = .ok (.getfield 23, 3) := by decide +kernel
theorem dX0_runHour_23 : decode cX0_runHour 23 = .ok (.iload_n 2, 1) := by decide +kernel
theorem dX0_runHour_24 : decode cX0_runHour 24 = .ok (.aaload, 1) := by decide +kernel
theorem dX0_runHour_25 : decode cX0_runHour 25 = .ok (.iload_n 1, 1) := by decide +kernel
theorem dX0_runHour_26 : decode cX0_runHour 26 = .ok (.invokevirtual 86, 3) := by decide +kernel
theorem dX0_runHour_29 : decode cX0_runHour 29 = .ok (.iinc 2 1, 3) := by decide +kernel
theorem dX0_runHour_32 : decode cX0_runHour 32 = .ok (.goto (-21), 3) := by decide +kernel
theorem dX0_runHour_35 : decode cX0_runHour 35 = .ok (.iconst 0, 1) := by decide +kernel
theorem dX0_runHour_36 : decode cX0_runHour 36 = .ok (.istore_n 2, 1) := by decide +kernel
theorem dX0_runHour_37 : decode cX0_runHour 37 = .ok (.iload_n 2, 1) := by decide +kernel
theorem dX0_runHour_38 : decode cX0_runHour 38 = .ok (.aload_n 0, 1) := by decide +kernel
theorem dX0_runHour_39 : decode cX0_runHour 39 = .ok (.getfield 68, 3) := by decide +kernel
theorem dX0_runHour_42 : decode cX0_runHour 42 = .ok (.if_icmp .ge 25, 3) := by decide +kernel
theorem dX0_runHour_45 : decode cX0_runHour 45 = .ok (.aload_n 0, 1) := by decide +kernel
theorem dX0_runHour_46 : decode cX0_runHour 46 = .ok (.getfield 29, 3) := by decide +kernel
theorem dX0_runHour_49 : decode cX0_runHour 49 = .ok (.iload_n 2, 1) := by decide +kernel
theorem dX0_runHour_50 : decode cX0_runHour 50 = .ok (.aaload, 1) := by decide +kernel
theorem dX0_runHour_51 : decode cX0_runHour 51 = .ok (.iload_n 1, 1) := by decide +kernel
theorem dX0_runHour_52 : decode cX0_runHour 52 = .ok (.aload_n 0, 1) := by decide +kernel
theorem dX0_runHour_53 : decode cX0_runHour 53 = .ok (.getfield 13, 3) := by decide +kernel
theorem dX0_runHour_56 : decode cX0_runHour 56 = .ok (.iconst 0, 1) := by decide +kernel
theorem dX0_runHour_57 : decode cX0_runHour 57 = .ok (.iaload, 1) := by decide +kernel
theorem dX0_runHour_58 : decode cX0_runHour 58 = .ok (.invokevirtual 90, 3) := by decide +kernel
theorem dX0_runHour_61 : decode cX0_runHour 61 = .ok (.iinc 2 1, 3) := by decide +kernel
theorem dX0_runHour_64 : decode cX0_runHour 64 = .ok (.goto (-27), 3) := by decide +kernel
theorem dX0_runHour_67 : decode cX0_runHour 67 = .ok (.aload_n 0, 1) := by decide +kernel
theorem dX0_runHour_68 : decode cX0_runHour 68 = .ok (.iload_n 1, 1) := by decide +kernel
theorem dX0_runHour_69 : decode cX0_runHour 69 = .ok (.invokevirtual 94, 3) := by decide +kernel
theorem dX0_runHour_72 : decode cX0_runHour 72 = .ok (.aload_n 0, 1) := by decide +kernel
theorem dX0_runHour_73 : decode cX0_runHour 73 = .ok (.getfield 13, 3) := by decide +kernel
theorem dX0_runHour_76 : decode cX0_runHour 76 = .ok (.iconst 0, 1) := by decide +kernel
theorem dX0_runHour_77 : decode cX0_runHour 77 = .ok (.aload_n 0, 1) := by decide +kernel
theorem dX0_runHour_78 : decode cX0_runHour 78 = .ok (.getfield 13, 3) := by decide +kernel
theorem dX0_runHour_81 : decode cX0_runHour 81 = .ok (.iconst 0, 1) := by decide +kernel
theorem dX0_runHour_82 : decode cX0_runHour 82 = .ok (.iaload, 1) := by decide +kernel
theorem dX0_runHour_83 : decode cX0_runHour 83 = .ok (.aload_n 0, 1) := by decide +kernel
theorem dX0_runHour_84 : decode cX0_runHour 84 = .ok (.getfield 41, 3) := by decide +kernel
theorem dX0_runHour_87 : decode cX0_runHour 87 = .ok (.iload_n 1, 1) := by decide +kernel
theorem dX0_runHour_88 : decode cX0_runHour 88 = .ok (.invokestatic 97, 3) := by decide +kernel
theorem dX0_runHour_91 : decode cX0_runHour 91 = .ok (.iastore, 1) := by decide +kernel
theorem dX0_runHour_92 : decode cX0_runHour 92 = .ok (.aload_n 0, 1) := by decide +kernel
theorem dX0_runHour_93 : decode cX0_runHour 93 = .ok (.dup, 1) := by decide +kernel
theorem dX0_runHour_94 : decode cX0_runHour 94 = .ok (.getfield 41, 3) := by decide +kernel
theorem dX0_runHour_97 : decode cX0_runHour 97 = .ok (.iconst 1, 1) := by decide +kernel
theorem dX0_runHour_98 : decode cX0_runHour 98 = .ok (.iadd, 1) := by decide +kernel
theorem dX0_runHour_99 : decode cX0_runHour 99 = .ok (.putfield 41, 3) := by decide +kernel
theorem dX0_runHour_102 : decode cX0_runHour 102 = .ok (.iconst 0, 1) := by decide +kernel
theorem dX0_runHour_103 : decode cX0_runHour 103 = .ok (.istore_n 2, 1) := by decide +kernel
theorem dX0_runHour_104 : decode cX0_runHour 104 = .ok (.iload_n 2, 1) := by decide +kernel
theorem dX0_runHour_105 : decode cX0_runHour 105 = .ok (.aload_n 0, 1) := by decide +kernel
theorem dX0_runHour_106 : decode cX0_runHour 106 = .ok (.getfield 68, 3) := by decide +kernel
theorem dX0_runHour_109 : decode cX0_runHour 109 = .ok (.if_icmp .ge 18, 3) := by decide +kernel
theorem dX0_runHour_112 : decode cX0_runHour 112 = .ok (.aload_n 0, 1) := by decide +kernel
theorem dX0_runHour_113 : decode cX0_runHour 113 = .ok (.getfield 29, 3) := by decide +kernel
theorem dX0_runHour_116 : decode cX0_runHour 116 = .ok (.iload_n 2, 1) := by decide +kernel
theorem dX0_runHour_117 : decode cX0_runHour 117 = .ok (.aaload, 1) := by decide +kernel
theorem dX0_runHour_118 : decode cX0_runHour 118 = .ok (.invokevirtual 101, 3) := by decide +kernel
theorem dX0_runHour_121 : decode cX0_runHour 121 = .ok (.iinc 2 1, 3) := by decide +kernel
theorem dX0_runHour_124 : decode cX0_runHour 124 = .ok (.goto (-20), 3) := by decide +kernel
theorem dX0_runHour_127 : decode cX0_runHour 127 = .ok (.return_, 1) := by decide +kernel
set_option maxRecDepth 20000 in
theorem ggX0_servePeople_X0_serveOne : GoodIn wsX0_servePeople wsX0_serveOne := goodIn_r _ [6, 7, 8, 9, 10, 11, 12, 13, 5, 14, 15, 16, 17, 18, 19, 20, 21, 22, 23, 24, 25, 26, 27, 28, 29, 30, 31, 32, 33, 34, 35] (by decide +kernel) (by decide +kernel)
set_option maxRecDepth 20000 in
theorem gX0_servePeople_X0_serveOne : GoodIn wsX0_servePeople (wsV RX0 104 RX0 yX0_serveOne wsX0_serveOne) := goodIn_app (goodIn_of _ (by decide +kernel)) ggX0_servePeople_X0_serveOne
theorem dX0_servePeople_0 : decode cX0_servePeople 0 = .ok (.aload_n 0, 1) := by decide +kernel
theorem dX0_servePeople_1 : decode cX0_servePeople 1 = .ok (.getfield 41, 3) := by decide +kernel
theorem dX0_servePeople_4 : decode cX0_servePeople 4 = .ok (.bipush 24, 2) := by decide +kernel
theorem dX0_servePeople_6 : decode cX0_servePeople 6 = .ok (.irem, 1) := by decide +kernel
theorem dX0_servePeople_7 : decode cX0_servePeople 7 = .ok (.istore_n 2, 1) := by decide +kernel
theorem dX0_servePeople_8 : decode cX0_servePeople 8 = .ok (.iload_n 2, 1) := by decide +kernel
theorem dX0_servePeople_9 : decode cX0_servePeople 9 = .ok (.bipush 10, 2) := by decide +kernel
theorem dX0_servePeople_11 : decode cX0_servePeople 11 = .ok (.if_icmp .lt 9, 3) := by decide +kernel
theorem dX0_servePeople_14 : decode cX0_servePeople 14 = .ok (.iload_n 2, 1) := by decide +kernel
theorem dX0_servePeople_15 : decode cX0_servePeople 15 = .ok (.bipush 18, 2) := by decide +kernel
theorem dX0_servePeople_17 : decode cX0_servePeople 17 = .ok (.if_icmp .le 4, 3) := by decide +kernel
theorem dX0_servePeople_20 : decode cX0_servePeople 20 = .ok (.return_, 1) := by decide +kernel
theorem dX0_servePeople_21 : decode cX0_servePeople 21 = .ok (.iload_n 1, 1) := by decide +kernel
theorem dX0_servePeople_22 : decode cX0_servePeople 22 = .ok (.iconst 4, 1) := by decide +kernel
theorem dX0_servePeople_23 : decode cX0_servePeople 23 = .ok (.idiv, 1) := by decide +kernel
theorem dX0_servePeople_24 : decode cX0_servePeople 24 = .ok (.istore_n 3, 1) := by decide +kernel
theorem dX0_servePeople_25 : decode cX0_servePeople 25 = .ok (.iconst 0, 1) := by decide +kernel
theorem dX0_servePeople_26 : decode cX0_servePeople 26 = .ok (.istore 4, 2) := by decide +kernel
theorem dX0_servePeople_28 : decode cX0_servePeople 28 = .ok (.iload 4, 2) := by decide +kernel
theorem dX0_servePeople_30 : decode cX0_servePeople 30 = .ok (.iload_n 3, 1) := by decide +kernel
theorem dX0_servePeople_31 : decode cX0_servePeople 31 = .ok (.if_icmp .ge 13, 3) := by decide +kernel
theorem dX0_servePeople_34 : decode cX0_servePeople 34 = .ok (.aload_n 0, 1) := by decide +kernel
theorem dX0_servePeople_35 : decode cX0_servePeople 35 = .ok (.invokevirtual 104, 3) := by decide +kernel
theorem dX0_servePeople_38 : decode cX0_servePeople 38 = .ok (.iinc 4 1, 3) := by decide +kernel
theorem dX0_servePeople_41 : decode cX0_servePeople 41 = .ok (.goto (-13), 3) := by decide +kernel
theorem dX0_servePeople_44 : decode cX0_servePeople 44 = .ok (.return_, 1) := by decide +kernel
set_option maxRecDepth 20000 in
theorem ggX0_serveOne_X0_sellingTub : GoodIn wsX0_serveOne wsX0_sellingTub := goodIn_r _ [9, 10, 4, 19, 20, 21, 22, 23, 24, 25, 26, 27, 28, 29, 30] (by decide +kernel) (by decide +kernel)
set_option maxRecDepth 20000 in
theorem gX0_serveOne_X0_sellingTub : GoodIn wsX0_serveOne (wsV RX0 107 RX0 yX0_sellingTub wsX0_sellingTub) := goodIn_app (goodIn_of _ (by decide +kernel)) ggX0_serveOne_X0_sellingTub
set_option maxRecDepth 20000 in
theorem ggX0_serveOne_X2_sellScoop : GoodIn wsX0_serveOne wsX2_sellScoop := goodIn_r _ [15, 16, 17, 18, 28, 29, 30] (by decide +kernel) (by decide +kernel)
set_option maxRecDepth 20000 in
theorem gX0_serveOne_X2_sellScoop : GoodIn wsX0_serveOne (wsV RX0 110 RX2 yX2_sellScoop wsX2_sellScoop) := goodIn_app (goodIn_of _ (by decide +kernel)) ggX0_serveOne_X2_sellScoop
theorem dX0_serveOne_0 : decode cX0_serveOne 0 = .ok (.aload_n 0, 1) := by decide +kernel
theorem dX0_serveOne_1 : decode cX0_serveOne 1 = .ok (.invokevirtual 107, 3) := by decide +kernel
theorem dX0_serveOne_4 : decode cX0_serveOne 4 = .ok (.istore_n 1, 1) := by decide +kernel
theorem dX0_serveOne_5 : decode cX0_serveOne 5 = .ok (.iload_n 1, 1) := by decide +kernel
theorem dX0_serveOne_6 : decode cX0_serveOne 6 = .ok (.ifCond .lt 12, 3) := by decide +kernel
theorem dX0_serveOne_9 : decode cX0_serveOne 9 = .ok (.aload_n 0, 1) := by decide +kernel
theorem dX0_serveOne_10 : decode cX0_serveOne 10 = .ok (.getfield 13, 3) := by decide +kernel
theorem dX0_serveOne_13 : decode cX0_serveOne 13 = .ok (.iconst 3, 1) := by decide +kernel
theorem dX0_serveOne_14 : decode cX0_serveOne 14 = .ok (.iaload, 1) := by decide +kernel
theorem dX0_serveOne_15 : decode cX0_serveOne 15 = .ok (.ifCond .ne 14, 3) := by decide +kernel
theorem dX0_serveOne_18 : decode cX0_serveOne 18 = .ok (.aload_n 0, 1) := by decide +kernel
theorem dX0_serveOne_19 : decode cX0_serveOne 19 = .ok (.dup, 1) := by decide +kernel
theorem dX0_serveOne_20 : decode cX0_serveOne 20 = .ok (.getfield 59, 3) := by decide +kernel
theorem dX0_serveOne_23 : decode cX0_serveOne 23 = .ok (.iconst 1, 1) := by decide +kernel
theorem dX0_serveOne_24 : decode cX0_serveOne 24 = .ok (.iadd, 1) := by decide +kernel
theorem dX0_serveOne_25 : decode cX0_serveOne 25 = .ok (.putfield 59, 3) := by decide +kernel
theorem dX0_serveOne_28 : decode cX0_serveOne 28 = .ok (.return_, 1) := by decide +kernel
theorem dX0_serveOne_29 : decode cX0_serveOne 29 = .ok (.aload_n 0, 1) := by decide +kernel
theorem dX0_serveOne_30 : decode cX0_serveOne 30 = .ok (.getfield 13, 3) := by decide +kernel
theorem dX0_serveOne_33 : decode cX0_serveOne 33 = .ok (.iconst 3, 1) := by decide +kernel
theorem dX0_serveOne_34 : decode cX0_serveOne 34 = .ok (.dup2, 1) := by decide +kernel
theorem dX0_serveOne_35 : decode cX0_serveOne 35 = .ok (.iaload, 1) := by decide +kernel
theorem dX0_serveOne_36 : decode cX0_serveOne 36 = .ok (.iconst 1, 1) := by decide +kernel
theorem dX0_serveOne_37 : decode cX0_serveOne 37 = .ok (.isub, 1) := by decide +kernel
theorem dX0_serveOne_38 : decode cX0_serveOne 38 = .ok (.iastore, 1) := by decide +kernel
theorem dX0_serveOne_39 : decode cX0_serveOne 39 = .ok (.aload_n 0, 1) := by decide +kernel
theorem dX0_serveOne_40 : decode cX0_serveOne 40 = .ok (.dup, 1) := by decide +kernel
theorem dX0_serveOne_41 : decode cX0_serveOne 41 = .ok (.getfield 49, 3) := by decide +kernel
theorem dX0_serveOne_44 : decode cX0_serveOne 44 = .ok (.aload_n 0, 1) := by decide +kernel
theorem dX0_serveOne_45 : decode cX0_serveOne 45 = .ok (.getfield 29, 3) := by decide +kernel
theorem dX0_serveOne_48 : decode cX0_serveOne 48 = .ok (.iload_n 1, 1) := by decide +kernel
theorem dX0_serveOne_49 : decode cX0_serveOne 49 = .ok (.aaload, 1) := by decide +kernel
theorem dX0_serveOne_50 : decode cX0_serveOne 50 = .ok (.invokevirtual 110, 3) := by decide +kernel
theorem dX0_serveOne_53 : decode cX0_serveOne 53 = .ok (.iadd, 1) := by decide +kernel
theorem dX0_serveOne_54 : decode cX0_serveOne 54 = .ok (.putfield 49, 3) := by decide +kernel
theorem dX0_serveOne_57 : decode cX0_serveOne 57 = .ok (.return_, 1) := by decide +kernel
set_option maxRecDepth 20000 in
theorem ggX0_hoursUntilFirm_X3_firmAfterHour : GoodIn wsX0_hoursUntilFirm wsX3_firmAfterHour := goodIn_r _ [4, 5, 6, 7, 8] (by decide +kernel) (by decide +kernel)
set_option maxRecDepth 20000 in
theorem gX0_hoursUntilFirm_X3_firmAfterHour_n122 : GoodIn wsX0_hoursUntilFirm (wsX3_firmAfterHour) := ggX0_hoursUntilFirm_X3_firmAfterHour
set_option maxRecDepth 20000 in
theorem ggX0_hoursUntilFirm_X0_heatAt : GoodIn wsX0_hoursUntilFirm wsX0_heatAt := goodIn_r _ [13, 14, 15, 16, 17, 18, 27, 28, 29, 30, 31, 32, 33, 34, 35] (by decide +kernel) (by decide +kernel)
set_option maxRecDepth 20000 in
theorem gX0_hoursUntilFirm_X0_heatAt : GoodIn wsX0_hoursUntilFirm (wsV RX0 45 RX0 yX0_heatAt wsX0_heatAt) := goodIn_app (goodIn_of _ (by decide +kernel)) ggX0_hoursUntilFirm_X0_heatAt
set_option maxRecDepth 20000 in
theorem ggX0_hoursUntilFirm_X3_coldAfterHour : GoodIn wsX0_hoursUntilFirm wsX3_coldAfterHour := goodIn_r _ [20, 21, 22, 7, 23] (by decide +kernel) (by decide +kernel)
set_option maxRecDepth 20000 in
theorem gX0_hoursUntilFirm_X3_coldAfterHour_n125 : GoodIn wsX0_hoursUntilFirm (wsX3_coldAfterHour) := ggX0_hoursUntilFirm_X3_coldAfterHour
theorem dX0_hoursUntilFirm_0 : decode cX0_hoursUntilFirm 0 = .ok (.aload_n 1, 1) := by decide +kernel
theorem dX0_hoursUntilFirm_1 : decode cX0_hoursUntilFirm 1 = .ok (.getfield 113, 3) := by decide +kernel
theorem dX0_hoursUntilFirm_4 : decode cX0_hoursUntilFirm 4 = .ok (.ifCond .ne 5, 3) := by decide +kernel
theorem dX0_hoursUntilFirm_7 : decode cX0_hoursUntilFirm 7 = .ok (.iconst (-1), 1) := by decide +kernel
theorem dX0_hoursUntilFirm_8 : decode cX0_hoursUntilFirm 8 = .ok (.ireturn, 1) := by decide +kernel
theorem dX0_hoursUntilFirm_9 : decode cX0_hoursUntilFirm 9 = .ok (.aload_n 1, 1) := by decide +kernel
theorem dX0_hoursUntilFirm_10 : decode cX0_hoursUntilFirm 10 = .ok (.getfield 116, 3) := by decide +kernel
theorem dX0_hoursUntilFirm_13 : decode cX0_hoursUntilFirm 13 = .ok (.istore_n 2, 1) := by decide +kernel
theorem dX0_hoursUntilFirm_14 : decode cX0_hoursUntilFirm 14 = .ok (.aload_n 1, 1) := by decide +kernel
theorem dX0_hoursUntilFirm_15 : decode cX0_hoursUntilFirm 15 = .ok (.getfield 119, 3) := by decide +kernel
theorem dX0_hoursUntilFirm_18 : decode cX0_hoursUntilFirm 18 = .ok (.istore_n 3, 1) := by decide +kernel
theorem dX0_hoursUntilFirm_19 : decode cX0_hoursUntilFirm 19 = .ok (.iconst 0, 1) := by decide +kernel
theorem dX0_hoursUntilFirm_20 : decode cX0_hoursUntilFirm 20 = .ok (.istore 4, 2) := by decide +kernel
theorem dX0_hoursUntilFirm_22 : decode cX0_hoursUntilFirm 22 = .ok (.iload 4, 2) := by decide +kernel
theorem dX0_hoursUntilFirm_24 : decode cX0_hoursUntilFirm 24 = .ok (.bipush 100, 2) := by decide +kernel
theorem dX0_hoursUntilFirm_26 : decode cX0_hoursUntilFirm 26 = .ok (.if_icmp .gt 40, 3) := by decide +kernel
theorem dX0_hoursUntilFirm_29 : decode cX0_hoursUntilFirm 29 = .ok (.iload_n 2, 1) := by decide +kernel
theorem dX0_hoursUntilFirm_30 : decode cX0_hoursUntilFirm 30 = .ok (.bipush 50, 2) := by decide +kernel
theorem dX0_hoursUntilFirm_32 : decode cX0_hoursUntilFirm 32 = .ok (.if_icmp .lt 6, 3) := by decide +kernel
theorem dX0_hoursUntilFirm_35 : decode cX0_hoursUntilFirm 35 = .ok (.iload 4, 2) := by decide +kernel
theorem dX0_hoursUntilFirm_37 : decode cX0_hoursUntilFirm 37 = .ok (.ireturn, 1) := by decide +kernel
theorem dX0_hoursUntilFirm_38 : decode cX0_hoursUntilFirm 38 = .ok (.iload_n 2, 1) := by decide +kernel
theorem dX0_hoursUntilFirm_39 : decode cX0_hoursUntilFirm 39 = .ok (.iload_n 3, 1) := by decide +kernel
theorem dX0_hoursUntilFirm_40 : decode cX0_hoursUntilFirm 40 = .ok (.invokestatic 122, 3) := by decide +kernel
theorem dX0_hoursUntilFirm_43 : decode cX0_hoursUntilFirm 43 = .ok (.istore_n 2, 1) := by decide +kernel
theorem dX0_hoursUntilFirm_44 : decode cX0_hoursUntilFirm 44 = .ok (.iload_n 3, 1) := by decide +kernel
theorem dX0_hoursUntilFirm_45 : decode cX0_hoursUntilFirm 45 = .ok (.aload_n 0, 1) := by decide +kernel
theorem dX0_hoursUntilFirm_46 : decode cX0_hoursUntilFirm 46 = .ok (.aload_n 0, 1) := by decide +kernel
theorem dX0_hoursUntilFirm_47 : decode cX0_hoursUntilFirm 47 = .ok (.getfield 41, 3) := by decide +kernel
theorem dX0_hoursUntilFirm_50 : decode cX0_hoursUntilFirm 50 = .ok (.iload 4, 2) := by decide +kernel
theorem dX0_hoursUntilFirm_52 : decode cX0_hoursUntilFirm 52 = .ok (.iadd, 1) := by decide +kernel
theorem dX0_hoursUntilFirm_53 : decode cX0_hoursUntilFirm 53 = .ok (.invokevirtual 45, 3) := by decide +kernel
theorem dX0_hoursUntilFirm_56 : decode cX0_hoursUntilFirm 56 = .ok (.invokestatic 125, 3) := by decide +kernel
theorem dX0_hoursUntilFirm_59 : decode cX0_hoursUntilFirm 59 = .ok (.istore_n 3, 1) := by decide +kernel
theorem dX0_hoursUntilFirm_60 : decode cX0_hoursUntilFirm 60 = .ok (.iinc 4 1, 3) := by decide +kernel
theorem dX0_hoursUntilFirm_63 : decode cX0_hoursUntilFirm 63 = .ok (.goto (-41), 3) := by decide +kernel
theorem dX0_hoursUntilFirm_66 : decode cX0_hoursUntilFirm 66 = .ok (.iconst (-1), 1) := by decide +kernel
theorem dX0_hoursUntilFirm_67 : decode cX0_hoursUntilFirm 67 = .ok (.ireturn, 1) := by decide +kernel
set_option maxRecDepth 20000 in
theorem ggX0_hoursUntilNoIce_X0_heatAt : GoodIn wsX0_hoursUntilNoIce wsX0_heatAt := goodIn_r _ [7, 8, 9, 10, 11, 12, 20, 21, 22, 23, 24, 25, 26, 27, 28] (by decide +kernel) (by decide +kernel)
set_option maxRecDepth 20000 in
theorem gX0_hoursUntilNoIce_X0_heatAt : GoodIn wsX0_hoursUntilNoIce (wsV RX0 45 RX0 yX0_heatAt wsX0_heatAt) := goodIn_app (goodIn_of _ (by decide +kernel)) ggX0_hoursUntilNoIce_X0_heatAt
set_option maxRecDepth 20000 in
theorem ggX0_hoursUntilNoIce_X3_iceAfterHour : GoodIn wsX0_hoursUntilNoIce wsX3_iceAfterHour := goodIn_r _ [15, 16, 17, 18, 19] (by decide +kernel) (by decide +kernel)
set_option maxRecDepth 20000 in
theorem gX0_hoursUntilNoIce_X3_iceAfterHour_n97 : GoodIn wsX0_hoursUntilNoIce (wsX3_iceAfterHour) := ggX0_hoursUntilNoIce_X3_iceAfterHour
theorem dX0_hoursUntilNoIce_0 : decode cX0_hoursUntilNoIce 0 = .ok (.aload_n 0, 1) := by decide +kernel
theorem dX0_hoursUntilNoIce_1 : decode cX0_hoursUntilNoIce 1 = .ok (.getfield 13, 3) := by decide +kernel
theorem dX0_hoursUntilNoIce_4 : decode cX0_hoursUntilNoIce 4 = .ok (.iconst 0, 1) := by decide +kernel
theorem dX0_hoursUntilNoIce_5 : decode cX0_hoursUntilNoIce 5 = .ok (.iaload, 1) := by decide +kernel
theorem dX0_hoursUntilNoIce_6 : decode cX0_hoursUntilNoIce 6 = .ok (.istore_n 1, 1) := by decide +kernel
theorem dX0_hoursUntilNoIce_7 : decode cX0_hoursUntilNoIce 7 = .ok (.iconst 0, 1) := by decide +kernel
theorem dX0_hoursUntilNoIce_8 : decode cX0_hoursUntilNoIce 8 = .ok (.istore_n 2, 1) := by decide +kernel
theorem dX0_hoursUntilNoIce_9 : decode cX0_hoursUntilNoIce 9 = .ok (.iload_n 2, 1) := by decide +kernel
theorem dX0_hoursUntilNoIce_10 : decode cX0_hoursUntilNoIce 10 = .ok (.sipush 999, 3) := by decide +kernel
theorem dX0_hoursUntilNoIce_13 : decode cX0_hoursUntilNoIce 13 = .ok (.if_icmp .gt 36, 3) := by decide +kernel
theorem dX0_hoursUntilNoIce_16 : decode cX0_hoursUntilNoIce 16 = .ok (.iload_n 1, 1) := by decide +kernel
theorem dX0_hoursUntilNoIce_17 : decode cX0_hoursUntilNoIce 17 = .ok (.ifCond .ne 5, 3) := by decide +kernel
theorem dX0_hoursUntilNoIce_20 : decode cX0_hoursUntilNoIce 20 = .ok (.iload_n 2, 1) := by decide +kernel
theorem dX0_hoursUntilNoIce_21 : decode cX0_hoursUntilNoIce 21 = .ok (.ireturn, 1) := by decide +kernel
theorem dX0_hoursUntilNoIce_22 : decode cX0_hoursUntilNoIce 22 = .ok (.iload_n 1, 1) := by decide +kernel
theorem dX0_hoursUntilNoIce_23 : decode cX0_hoursUntilNoIce 23 = .ok (.aload_n 0, 1) := by decide +kernel
theorem dX0_hoursUntilNoIce_24 : decode cX0_hoursUntilNoIce 24 = .ok (.getfield 41, 3) := by decide +kernel
theorem dX0_hoursUntilNoIce_27 : decode cX0_hoursUntilNoIce 27 = .ok (.iload_n 2, 1) := by decide +kernel
theorem dX0_hoursUntilNoIce_28 : decode cX0_hoursUntilNoIce 28 = .ok (.iadd, 1) := by decide +kernel
theorem dX0_hoursUntilNoIce_29 : decode cX0_hoursUntilNoIce 29 = .ok (.aload_n 0, 1) := by decide +kernel
theorem dX0_hoursUntilNoIce_30 : decode cX0_hoursUntilNoIce 30 = .ok (.aload_n 0, 1) := by decide +kernel
theorem dX0_hoursUntilNoIce_31 : decode cX0_hoursUntilNoIce 31 = .ok (.getfield 41, 3) := by decide +kernel
theorem dX0_hoursUntilNoIce_34 : decode cX0_hoursUntilNoIce 34 = .ok (.iload_n 2, 1) := by decide +kernel
theorem dX0_hoursUntilNoIce_35 : decode cX0_hoursUntilNoIce 35 = .ok (.iadd, 1) := by decide +kernel
theorem dX0_hoursUntilNoIce_36 : decode cX0_hoursUntilNoIce 36 = .ok (.invokevirtual 45, 3) := by decide +kernel
theorem dX0_hoursUntilNoIce_39 : decode cX0_hoursUntilNoIce 39 = .ok (.invokestatic 97, 3) := by decide +kernel
theorem dX0_hoursUntilNoIce_42 : decode cX0_hoursUntilNoIce 42 = .ok (.istore_n 1, 1) := by decide +kernel
theorem dX0_hoursUntilNoIce_43 : decode cX0_hoursUntilNoIce 43 = .ok (.iinc 2 1, 3) := by decide +kernel
theorem dX0_hoursUntilNoIce_46 : decode cX0_hoursUntilNoIce 46 = .ok (.goto (-37), 3) := by decide +kernel
theorem dX0_hoursUntilNoIce_49 : decode cX0_hoursUntilNoIce 49 = .ok (.iconst (-1), 1) := by decide +kernel
theorem dX0_hoursUntilNoIce_50 : decode cX0_hoursUntilNoIce 50 = .ok (.ireturn, 1) := by decide +kernel
set_option maxRecDepth 20000 in
theorem ggX0_copyFrom_X1_copyFrom : GoodIn wsX0_copyFrom wsX1_copyFrom := goodIn_r _ [18, 19, 20, 21, 39, 40, 41] (by decide +kernel) (by decide +kernel)
set_option maxRecDepth 20000 in
theorem gX0_copyFrom_X1_copyFrom : GoodIn wsX0_copyFrom (wsV RX0 134 RX1 yX1_copyFrom wsX1_copyFrom) := goodIn_app (goodIn_of _ (by decide +kernel)) ggX0_copyFrom_X1_copyFrom
set_option maxRecDepth 20000 in
theorem ggX0_copyFrom_X2_copyFrom : GoodIn wsX0_copyFrom wsX2_copyFrom := goodIn_r _ [26, 27, 28, 29, 42, 43, 44] (by decide +kernel) (by decide +kernel)
set_option maxRecDepth 20000 in
theorem gX0_copyFrom_X2_copyFrom : GoodIn wsX0_copyFrom (wsV RX0 138 RX2 yX2_copyFrom wsX2_copyFrom) := goodIn_app (goodIn_of _ (by decide +kernel)) ggX0_copyFrom_X2_copyFrom
theorem dX0_copyFrom_0 : decode cX0_copyFrom 0 = .ok (.aload_n 1, 1) := by decide +kernel
theorem dX0_copyFrom_1 : decode cX0_copyFrom 1 = .ok (.getfield 13, 3) := by decide +kernel
theorem dX0_copyFrom_4 : decode cX0_copyFrom 4 = .ok (.iconst 0, 1) := by decide +kernel
theorem dX0_copyFrom_5 : decode cX0_copyFrom 5 = .ok (.aload_n 0, 1) := by decide +kernel
theorem dX0_copyFrom_6 : decode cX0_copyFrom 6 = .ok (.getfield 13, 3) := by decide +kernel
theorem dX0_copyFrom_9 : decode cX0_copyFrom 9 = .ok (.iconst 0, 1) := by decide +kernel
theorem dX0_copyFrom_10 : decode cX0_copyFrom 10 = .ok (.aload_n 0, 1) := by decide +kernel
theorem dX0_copyFrom_11 : decode cX0_copyFrom 11 = .ok (.getfield 13, 3) := by decide +kernel
theorem dX0_copyFrom_14 : decode cX0_copyFrom 14 = .ok (.arraylength, 1) := by decide +kernel
theorem dX0_copyFrom_15 : decode cX0_copyFrom 15 = .ok (.invokestatic 128, 3) := by decide +kernel
theorem dX0_copyFrom_18 : decode cX0_copyFrom 18 = .ok (.aload_n 1, 1) := by decide +kernel
theorem dX0_copyFrom_19 : decode cX0_copyFrom 19 = .ok (.getfield 18, 3) := by decide +kernel
theorem dX0_copyFrom_22 : decode cX0_copyFrom 22 = .ok (.iconst 0, 1) := by decide +kernel
theorem dX0_copyFrom_23 : decode cX0_copyFrom 23 = .ok (.aload_n 0, 1) := by decide +kernel
theorem dX0_copyFrom_24 : decode cX0_copyFrom 24 = .ok (.getfield 18, 3) := by decide +kernel
theorem dX0_copyFrom_27 : decode cX0_copyFrom 27 = .ok (.iconst 0, 1) := by decide +kernel
theorem dX0_copyFrom_28 : decode cX0_copyFrom 28 = .ok (.aload_n 0, 1) := by decide +kernel
theorem dX0_copyFrom_29 : decode cX0_copyFrom 29 = .ok (.getfield 18, 3) := by decide +kernel
theorem dX0_copyFrom_32 : decode cX0_copyFrom 32 = .ok (.arraylength, 1) := by decide +kernel
theorem dX0_copyFrom_33 : decode cX0_copyFrom 33 = .ok (.invokestatic 128, 3) := by decide +kernel
theorem dX0_copyFrom_36 : decode cX0_copyFrom 36 = .ok (.iconst 0, 1) := by decide +kernel
theorem dX0_copyFrom_37 : decode cX0_copyFrom 37 = .ok (.istore_n 2, 1) := by decide +kernel
theorem dX0_copyFrom_38 : decode cX0_copyFrom 38 = .ok (.iload_n 2, 1) := by decide +kernel
theorem dX0_copyFrom_39 : decode cX0_copyFrom 39 = .ok (.iconst 4, 1) := by decide +kernel
theorem dX0_copyFrom_40 : decode cX0_copyFrom 40 = .ok (.if_icmp .ge 24, 3) := by decide +kernel
theorem dX0_copyFrom_43 : decode cX0_copyFrom 43 = .ok (.aload_n 0, 1) := by decide +kernel
theorem dX0_copyFrom_44 : decode cX0_copyFrom 44 = .ok (.getfield 23, 3) := by decide +kernel
theorem dX0_copyFrom_47 : decode cX0_copyFrom 47 = .ok (.iload_n 2, 1) := by decide +kernel
theorem dX0_copyFrom_48 : decode cX0_copyFrom 48 = .ok (.aaload, 1) := by decide +kernel
theorem dX0_copyFrom_49 : decode cX0_copyFrom 49 = .ok (.aload_n 1, 1) := by decide +kernel
theorem dX0_copyFrom_50 : decode cX0_copyFrom 50 = .ok (.getfield 23, 3) := by decide +kernel
theorem dX0_copyFrom_53 : decode cX0_copyFrom 53 = .ok (.iload_n 2, 1) := by decide +kernel
theorem dX0_copyFrom_54 : decode cX0_copyFrom 54 = .ok (.aaload, 1) := by decide +kernel
theorem dX0_copyFrom_55 : decode cX0_copyFrom 55 = .ok (.invokevirtual 134, 3) := by decide +kernel
theorem dX0_copyFrom_58 : decode cX0_copyFrom 58 = .ok (.iinc 2 1, 3) := by decide +kernel
theorem dX0_copyFrom_61 : decode cX0_copyFrom 61 = .ok (.goto (-23), 3) := by decide +kernel
theorem dX0_copyFrom_64 : decode cX0_copyFrom 64 = .ok (.iconst 0, 1) := by decide +kernel
theorem dX0_copyFrom_65 : decode cX0_copyFrom 65 = .ok (.istore_n 2, 1) := by decide +kernel
theorem dX0_copyFrom_66 : decode cX0_copyFrom 66 = .ok (.iload_n 2, 1) := by decide +kernel
theorem dX0_copyFrom_67 : decode cX0_copyFrom 67 = .ok (.bipush 6, 2) := by decide +kernel
theorem dX0_copyFrom_69 : decode cX0_copyFrom 69 = .ok (.if_icmp .ge 24, 3) := by decide +kernel
theorem dX0_copyFrom_72 : decode cX0_copyFrom 72 = .ok (.aload_n 0, 1) := by decide +kernel
theorem dX0_copyFrom_73 : decode cX0_copyFrom 73 = .ok (.getfield 29, 3) := by decide +kernel
theorem dX0_copyFrom_76 : decode cX0_copyFrom 76 = .ok (.iload_n 2, 1) := by decide +kernel
theorem dX0_copyFrom_77 : decode cX0_copyFrom 77 = .ok (.aaload, 1) := by decide +kernel
theorem dX0_copyFrom_78 : decode cX0_copyFrom 78 = .ok (.aload_n 1, 1) := by decide +kernel
theorem dX0_copyFrom_79 : decode cX0_copyFrom 79 = .ok (.getfield 29, 3) := by decide +kernel
theorem dX0_copyFrom_82 : decode cX0_copyFrom 82 = .ok (.iload_n 2, 1) := by decide +kernel
theorem dX0_copyFrom_83 : decode cX0_copyFrom 83 = .ok (.aaload, 1) := by decide +kernel
theorem dX0_copyFrom_84 : decode cX0_copyFrom 84 = .ok (.invokevirtual 138, 3) := by decide +kernel
theorem dX0_copyFrom_87 : decode cX0_copyFrom 87 = .ok (.iinc 2 1, 3) := by decide +kernel
theorem dX0_copyFrom_90 : decode cX0_copyFrom 90 = .ok (.goto (-24), 3) := by decide +kernel
theorem dX0_copyFrom_93 : decode cX0_copyFrom 93 = .ok (.aload_n 0, 1) := by decide +kernel
theorem dX0_copyFrom_94 : decode cX0_copyFrom 94 = .ok (.aload_n 1, 1) := by decide +kernel
theorem dX0_copyFrom_95 : decode cX0_copyFrom 95 = .ok (.getfield 83, 3) := by decide +kernel
theorem dX0_copyFrom_98 : decode cX0_copyFrom 98 = .ok (.putfield 83, 3) := by decide +kernel
theorem dX0_copyFrom_101 : decode cX0_copyFrom 101 = .ok (.aload_n 0, 1) := by decide +kernel
theorem dX0_copyFrom_102 : decode cX0_copyFrom 102 = .ok (.aload_n 1, 1) := by decide +kernel
theorem dX0_copyFrom_103 : decode cX0_copyFrom 103 = .ok (.getfield 68, 3) := by decide +kernel
theorem dX0_copyFrom_106 : decode cX0_copyFrom 106 = .ok (.putfield 68, 3) := by decide +kernel
theorem dX0_copyFrom_109 : decode cX0_copyFrom 109 = .ok (.aload_n 0, 1) := by decide +kernel
theorem dX0_copyFrom_110 : decode cX0_copyFrom 110 = .ok (.aload_n 1, 1) := by decide +kernel
theorem dX0_copyFrom_111 : decode cX0_copyFrom 111 = .ok (.getfield 41, 3) := by decide +kernel
theorem dX0_copyFrom_114 : decode cX0_copyFrom 114 = .ok (.putfield 41, 3) := by decide +kernel
theorem dX0_copyFrom_117 : decode cX0_copyFrom 117 = .ok (.aload_n 0, 1) := by decide +kernel
theorem dX0_copyFrom_118 : decode cX0_copyFrom 118 = .ok (.aload_n 1, 1) := by decide +kernel
theorem dX0_copyFrom_119 : decode cX0_copyFrom 119 = .ok (.getfield 49, 3) := by decide +kernel
theorem dX0_copyFrom_122 : decode cX0_copyFrom 122 = .ok (.putfield 49, 3) := by decide +kernel
theorem dX0_copyFrom_125 : decode cX0_copyFrom 125 = .ok (.aload_n 0, 1) := by decide +kernel
theorem dX0_copyFrom_126 : decode cX0_copyFrom 126 = .ok (.aload_n 1, 1) := by decide +kernel
theorem dX0_copyFrom_127 : decode cX0_copyFrom 127 = .ok (.getfield 59, 3) := by decide +kernel
theorem dX0_copyFrom_130 : decode cX0_copyFrom 130 = .ok (.putfield 59, 3) := by decide +kernel
theorem dX0_copyFrom_133 : decode cX0_copyFrom 133 = .ok (.return_, 1) := by decide +kernel
