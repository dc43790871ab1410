theorem dX4_init_0 : decode cX4_init 0 = .ok (.aload_n 0, 1) := by decide +kernel
theorem dX4_init_1 : decode cX4_init 1 = .ok (.invokespecial 1, 3) := by decide +kernel
theorem dX4_init_4 : decode cX4_init 4 = .ok (.aload_n 0, 1) := by decide +kernel
theorem dX4_init_5 : decode cX4_init 5 = .ok (.iconst 4, 1) := by decide +kernel
theorem dX4_init_6 : decode cX4_init 6 = .ok (.newarray .int, 2) := by decide +kernel
theorem dX4_init_8 : decode cX4_init 8 = .ok (.putfield 7, 3) := by decide +kernel
theorem dX4_init_11 : decode cX4_init 11 = .ok (.aload_n 0, 1) := by decide +kernel
theorem dX4_init_12 : decode cX4_init 12 = .ok (.bipush 7, 2) := by decide +kernel
theorem dX4_init_14 : decode cX4_init 14 = .ok (.newarray .int, 2) := by decide +kernel
theorem dX4_init_16 : decode cX4_init 16 = .ok (.dup, 1) := by decide +kernel
theorem dX4_init_17 : decode cX4_init 17 = .ok (.iconst 0, 1) := by decide +kernel
theorem dX4_init_18 : decode cX4_init 18 = .ok (.bipush 20, 2) := by decide +kernel
theorem dX4_init_20 : decode cX4_init 20 = .ok (.iastore, 1) := by decide +kernel
theorem dX4_init_21 : decode cX4_init 21 = .ok (.dup, 1) := by decide +kernel
theorem dX4_init_22 : decode cX4_init 22 = .ok (.iconst 1, 1) := by decide +kernel
theorem dX4_init_23 : decode cX4_init 23 = .ok (.bipush 20, 2) := by decide +kernel
theorem dX4_init_25 : decode cX4_init 25 = .ok (.iastore, 1) := by decide +kernel
theorem dX4_init_26 : decode cX4_init 26 = .ok (.dup, 1) := by decide +kernel
theorem dX4_init_27 : decode cX4_init 27 = .ok (.iconst 2, 1) := by decide +kernel
theorem dX4_init_28 : decode cX4_init 28 = .ok (.bipush 20, 2) := by decide +kernel
theorem dX4_init_30 : decode cX4_init 30 = .ok (.iastore, 1) := by decide +kernel
theorem dX4_init_31 : decode cX4_init 31 = .ok (.dup, 1) := by decide +kernel
theorem dX4_init_32 : decode cX4_init 32 = .ok (.iconst 3, 1) := by decide +kernel
theorem dX4_init_33 : decode cX4_init 33 = .ok (.bipush 20, 2) := by decide +kernel
theorem dX4_init_35 : decode cX4_init 35 = .ok (.iastore, 1) := by decide +kernel
theorem dX4_init_36 : decode cX4_init 36 = .ok (.dup, 1) := by decide +kernel
theorem dX4_init_37 : decode cX4_init 37 = .ok (.iconst 4, 1) := by decide +kernel
theorem dX4_init_38 : decode cX4_init 38 = .ok (.bipush 20, 2) := by decide +kernel
theorem dX4_init_40 : decode cX4_init 40 = .ok (.iastore, 1) := by decide +kernel
theorem dX4_init_41 : decode cX4_init 41 = .ok (.dup, 1) := by decide +kernel
theorem dX4_init_42 : decode cX4_init 42 = .ok (.iconst 5, 1) := by decide +kernel
theorem dX4_init_43 : decode cX4_init 43 = .ok (.bipush 20, 2) := by decide +kernel
theorem dX4_init_45 : decode cX4_init 45 = .ok (.iastore, 1) := by decide +kernel
theorem dX4_init_46 : decode cX4_init 46 = .ok (.dup, 1) := by decide +kernel
theorem dX4_init_47 : decode cX4_init 47 = .ok (.bipush 6, 2) := by decide +kernel
theorem dX4_init_49 : decode cX4_init 49 = .ok (.bipush 20, 2) := by decide +kernel
theorem dX4_init_51 : decode cX4_init 51 = .ok (.iastore, 1) := by decide +kernel
theorem dX4_init_52 : decode cX4_init 52 = .ok (.putfield 13, 3) := by decide +kernel
theorem dX4_init_55 : decode cX4_init 55 = .ok (.aload_n 0, 1) := by decide +kernel
theorem dX4_init_56 : decode cX4_init 56 = .ok (.iconst 0, 1) := by decide +kernel
theorem dX4_init_57 : decode cX4_init 57 = .ok (.anewarray 16, 3) := by decide +kernel
theorem dX4_init_60 : decode cX4_init 60 = .ok (.putfield 17, 3) := by decide +kernel
theorem dX4_init_63 : decode cX4_init 63 = .ok (.aload_n 0, 1) := by decide +kernel
theorem dX4_init_64 : decode cX4_init 64 = .ok (.iconst 0, 1) := by decide +kernel
theorem dX4_init_65 : decode cX4_init 65 = .ok (.anewarray 16, 3) := by decide +kernel
theorem dX4_init_68 : decode cX4_init 68 = .ok (.putfield 21, 3) := by decide +kernel
theorem dX4_init_71 : decode cX4_init 71 = .ok (.return_, 1) := by decide +kernel
theorem dX4_more_0 : decode cX4_more 0 = .ok (.aload_n 0, 1) := by decide +kernel
theorem dX4_more_1 : decode cX4_more 1 = .ok (.arraylength, 1) := by decide +kernel
theorem dX4_more_2 : decode cX4_more 2 = .ok (.iconst 1, 1) := by decide +kernel
theorem dX4_more_3 : decode cX4_more 3 = .ok (.iadd, 1) := by decide +kernel
theorem dX4_more_4 : decode cX4_more 4 = .ok (.anewarray 16, 3) := by decide +kernel
theorem dX4_more_7 : decode cX4_more 7 = .ok (.astore_n 1, 1) := by decide +kernel
theorem dX4_more_8 : decode cX4_more 8 = .ok (.iconst 0, 1) := by decide +kernel
theorem dX4_more_9 : decode cX4_more 9 = .ok (.istore_n 2, 1) := by decide +kernel
theorem dX4_more_10 : decode cX4_more 10 = .ok (.iload_n 2, 1) := by decide +kernel
theorem dX4_more_11 : decode cX4_more 11 = .ok (.aload_n 0, 1) := by decide +kernel
theorem dX4_more_12 : decode cX4_more 12 = .ok (.arraylength, 1) := by decide +kernel
theorem dX4_more_13 : decode cX4_more 13 = .ok (.if_icmp .ge 15, 3) := by decide +kernel
theorem dX4_more_16 : decode cX4_more 16 = .ok (.aload_n 1, 1) := by decide +kernel
theorem dX4_more_17 : decode cX4_more 17 = .ok (.iload_n 2, 1) := by decide +kernel
theorem dX4_more_18 : decode cX4_more 18 = .ok (.aload_n 0, 1) := by decide +kernel
theorem dX4_more_19 : decode cX4_more 19 = .ok (.iload_n 2, 1) := by decide +kernel
theorem dX4_more_20 : decode cX4_more 20 = .ok (.aaload, 1) := by decide +kernel
theorem dX4_more_21 : decode cX4_more 21 = .ok (.aastore, 1) := by decide +kernel
theorem dX4_more_22 : decode cX4_more 22 = .ok (.iinc 2 1, 3) := by decide +kernel
theorem dX4_more_25 : decode cX4_more 25 = .ok (.goto (-15), 3) := by decide +kernel
theorem dX4_more_28 : decode cX4_more 28 = .ok (.aload_n 1, 1) := by decide +kernel
theorem dX4_more_29 : decode cX4_more 29 = .ok (.aload_n 0, 1) := by decide +kernel
theorem dX4_more_30 : decode cX4_more 30 = .ok (.arraylength, 1) := by decide +kernel
theorem dX4_more_31 : decode cX4_more 31 = .ok (.iconst 3, 1) := by decide +kernel
theorem dX4_more_32 : decode cX4_more 32 = .ok (.newarray .int, 2) := by decide +kernel
theorem dX4_more_34 : decode cX4_more 34 = .ok (.aastore, 1) := by decide +kernel
theorem dX4_more_35 : decode cX4_more 35 = .ok (.aload_n 1, 1) := by decide +kernel
theorem dX4_more_36 : decode cX4_more 36 = .ok (.areturn, 1) := by decide +kernel
theorem dX4_hot_0 : decode cX4_hot 0 = .ok (.aload_n 0, 1) := by decide +kernel
theorem dX4_hot_1 : decode cX4_hot 1 = .ok (.getfield 13, 3) := by decide +kernel
theorem dX4_hot_4 : decode cX4_hot 4 = .ok (.aload_n 0, 1) := by decide +kernel
theorem dX4_hot_5 : decode cX4_hot 5 = .ok (.getfield 24, 3) := by decide +kernel
theorem dX4_hot_8 : decode cX4_hot 8 = .ok (.bipush 24, 2) := by decide +kernel
theorem dX4_hot_10 : decode cX4_hot 10 = .ok (.idiv, 1) := by decide +kernel
theorem dX4_hot_11 : decode cX4_hot 11 = .ok (.bipush 7, 2) := by decide +kernel
theorem dX4_hot_13 : decode cX4_hot 13 = .ok (.irem, 1) := by decide +kernel
theorem dX4_hot_14 : decode cX4_hot 14 = .ok (.iaload, 1) := by decide +kernel
theorem dX4_hot_15 : decode cX4_hot 15 = .ok (.ireturn, 1) := by decide +kernel
theorem dX4_next_0 : decode cX4_next 0 = .ok (.iconst (-1), 1) := by decide +kernel
theorem dX4_next_1 : decode cX4_next 1 = .ok (.istore_n 1, 1) := by decide +kernel
theorem dX4_next_2 : decode cX4_next 2 = .ok (.aload_n 0, 1) := by decide +kernel
theorem dX4_next_3 : decode cX4_next 3 = .ok (.getfield 21, 3) := by decide +kernel
theorem dX4_next_6 : decode cX4_next 6 = .ok (.arraylength, 1) := by decide +kernel
theorem dX4_next_7 : decode cX4_next 7 = .ok (.iconst 1, 1) := by decide +kernel
theorem dX4_next_8 : decode cX4_next 8 = .ok (.isub, 1) := by decide +kernel
theorem dX4_next_9 : decode cX4_next 9 = .ok (.istore_n 2, 1) := by decide +kernel
theorem dX4_next_10 : decode cX4_next 10 = .ok (.iload_n 2, 1) := by decide +kernel
theorem dX4_next_11 : decode cX4_next 11 = .ok (.ifCond .lt 45, 3) := by decide +kernel
theorem dX4_next_14 : decode cX4_next 14 = .ok (.aload_n 0, 1) := by decide +kernel
theorem dX4_next_15 : decode cX4_next 15 = .ok (.getfield 21, 3) := by decide +kernel
theorem dX4_next_18 : decode cX4_next 18 = .ok (.iload_n 2, 1) := by decide +kernel
theorem dX4_next_19 : decode cX4_next 19 = .ok (.aaload, 1) := by decide +kernel
theorem dX4_next_20 : decode cX4_next 20 = .ok (.iconst 0, 1) := by decide +kernel
theorem dX4_next_21 : decode cX4_next 21 = .ok (.iaload, 1) := by decide +kernel
theorem dX4_next_22 : decode cX4_next 22 = .ok (.ifCond .le 28, 3) := by decide +kernel
theorem dX4_next_25 : decode cX4_next 25 = .ok (.iload_n 1, 1) := by decide +kernel
theorem dX4_next_26 : decode cX4_next 26 = .ok (.ifCond .lt 22, 3) := by decide +kernel
theorem dX4_next_29 : decode cX4_next 29 = .ok (.aload_n 0, 1) := by decide +kernel
theorem dX4_next_30 : decode cX4_next 30 = .ok (.getfield 21, 3) := by decide +kernel
theorem dX4_next_33 : decode cX4_next 33 = .ok (.iload_n 2, 1) := by decide +kernel
theorem dX4_next_34 : decode cX4_next 34 = .ok (.aaload, 1) := by decide +kernel
theorem dX4_next_35 : decode cX4_next 35 = .ok (.iconst 1, 1) := by decide +kernel
theorem dX4_next_36 : decode cX4_next 36 = .ok (.iaload, 1) := by decide +kernel
theorem dX4_next_37 : decode cX4_next 37 = .ok (.aload_n 0, 1) := by decide +kernel
theorem dX4_next_38 : decode cX4_next 38 = .ok (.getfield 21, 3) := by decide +kernel
theorem dX4_next_41 : decode cX4_next 41 = .ok (.iload_n 1, 1) := by decide +kernel
theorem dX4_next_42 : decode cX4_next 42 = .ok (.aaload, 1) := by decide +kernel
theorem dX4_next_43 : decode cX4_next 43 = .ok (.iconst 1, 1) := by decide +kernel
theorem dX4_next_44 : decode cX4_next 44 = .ok (.iaload, 1) := by decide +kernel
theorem dX4_next_45 : decode cX4_next 45 = .ok (.if_icmp .gt 5, 3) := by decide +kernel
theorem dX4_next_48 : decode cX4_next 48 = .ok (.iload_n 2, 1) := by decide +kernel
theorem dX4_next_49 : decode cX4_next 49 = .ok (.istore_n 1, 1) := by decide +kernel
theorem dX4_next_50 : decode cX4_next 50 = .ok (.iinc 2 (-1), 3) := by decide +kernel
theorem dX4_next_53 : decode cX4_next 53 = .ok (.goto (-43), 3) := by decide +kernel
theorem dX4_next_56 : decode cX4_next 56 = .ok (.iload_n 1, 1) := by decide +kernel
theorem dX4_next_57 : decode cX4_next 57 = .ok (.ireturn, 1) := by decide +kernel
set_option maxRecDepth 20000 in
theorem ggX4_pass_X4_hot : GoodIn wsX4_pass wsX4_hot := goodIn_r _ [15, 16, 5, 21, 22, 23, 24, 25, 26, 27] (by decide +kernel) (by decide +kernel)
set_option maxRecDepth 20000 in
theorem gX4_pass_X4_hot : GoodIn wsX4_pass (wsV RX4 28 RX4 yX4_hot wsX4_hot) := goodIn_app (goodIn_of _ (by decide +kernel)) ggX4_pass_X4_hot
set_option maxRecDepth 20000 in
theorem ggX4_pass_X4_next : GoodIn wsX4_pass wsX4_next := goodIn_r _ [20, 3, 21, 22, 23, 24, 25, 26, 27] (by decide +kernel) (by decide +kernel)
set_option maxRecDepth 20000 in
theorem gX4_pass_X4_next : GoodIn wsX4_pass (wsV RX4 35 RX4 yX4_next wsX4_next) := goodIn_app (goodIn_of _ (by decide +kernel)) ggX4_pass_X4_next
theorem dX4_pass_0 : decode cX4_pass 0 = .ok (.aload_n 0, 1) := by decide +kernel
theorem dX4_pass_1 : decode cX4_pass 1 = .ok (.invokevirtual 28, 3) := by decide +kernel
theorem dX4_pass_4 : decode cX4_pass 4 = .ok (.istore_n 1, 1) := by decide +kernel
theorem dX4_pass_5 : decode cX4_pass 5 = .ok (.aload_n 0, 1) := by decide +kernel
theorem dX4_pass_6 : decode cX4_pass 6 = .ok (.getfield 32, 3) := by decide +kernel
theorem dX4_pass_9 : decode cX4_pass 9 = .ok (.istore_n 2, 1) := by decide +kernel
theorem dX4_pass_10 : decode cX4_pass 10 = .ok (.aload_n 0, 1) := by decide +kernel
theorem dX4_pass_11 : decode cX4_pass 11 = .ok (.getfield 17, 3) := by decide +kernel
theorem dX4_pass_14 : decode cX4_pass 14 = .ok (.astore_n 3, 1) := by decide +kernel
theorem dX4_pass_15 : decode cX4_pass 15 = .ok (.aload_n 3, 1) := by decide +kernel
theorem dX4_pass_16 : decode cX4_pass 16 = .ok (.arraylength, 1) := by decide +kernel
theorem dX4_pass_17 : decode cX4_pass 17 = .ok (.istore 4, 2) := by decide +kernel
theorem dX4_pass_19 : decode cX4_pass 19 = .ok (.iconst 0, 1) := by decide +kernel
theorem dX4_pass_20 : decode cX4_pass 20 = .ok (.istore 5, 2) := by decide +kernel
theorem dX4_pass_22 : decode cX4_pass 22 = .ok (.iload 5, 2) := by decide +kernel
theorem dX4_pass_24 : decode cX4_pass 24 = .ok (.iload 4, 2) := by decide +kernel
theorem dX4_pass_26 : decode cX4_pass 26 = .ok (.if_icmp .ge 75, 3) := by decide +kernel
theorem dX4_pass_29 : decode cX4_pass 29 = .ok (.aload_n 3, 1) := by decide +kernel
theorem dX4_pass_30 : decode cX4_pass 30 = .ok (.iload 5, 2) := by decide +kernel
theorem dX4_pass_32 : decode cX4_pass 32 = .ok (.aaload, 1) := by decide +kernel
theorem dX4_pass_33 : decode cX4_pass 33 = .ok (.astore 6, 2) := by decide +kernel
theorem dX4_pass_35 : decode cX4_pass 35 = .ok (.aload 6, 2) := by decide +kernel
theorem dX4_pass_37 : decode cX4_pass 37 = .ok (.iconst 1, 1) := by decide +kernel
theorem dX4_pass_38 : decode cX4_pass 38 = .ok (.iaload, 1) := by decide +kernel
theorem dX4_pass_39 : decode cX4_pass 39 = .ok (.ifCond .le 16, 3) := by decide +kernel
theorem dX4_pass_42 : decode cX4_pass 42 = .ok (.aload 6, 2) := by decide +kernel
theorem dX4_pass_44 : decode cX4_pass 44 = .ok (.iconst 2, 1) := by decide +kernel
theorem dX4_pass_45 : decode cX4_pass 45 = .ok (.dup2, 1) := by decide +kernel
theorem dX4_pass_46 : decode cX4_pass 46 = .ok (.iaload, 1) := by decide +kernel
theorem dX4_pass_47 : decode cX4_pass 47 = .ok (.aload 6, 2) := by decide +kernel
theorem dX4_pass_49 : decode cX4_pass 49 = .ok (.iconst 0, 1) := by decide +kernel
theorem dX4_pass_50 : decode cX4_pass 50 = .ok (.iaload, 1) := by decide +kernel
theorem dX4_pass_51 : decode cX4_pass 51 = .ok (.iconst 3, 1) := by decide +kernel
theorem dX4_pass_52 : decode cX4_pass 52 = .ok (.idiv, 1) := by decide +kernel
theorem dX4_pass_53 : decode cX4_pass 53 = .ok (.iadd, 1) := by decide +kernel
theorem dX4_pass_54 : decode cX4_pass 54 = .ok (.iastore, 1) := by decide +kernel
theorem dX4_pass_55 : decode cX4_pass 55 = .ok (.aload 6, 2) := by decide +kernel
theorem dX4_pass_57 : decode cX4_pass 57 = .ok (.iconst 2, 1) := by decide +kernel
theorem dX4_pass_58 : decode cX4_pass 58 = .ok (.iaload, 1) := by decide +kernel
theorem dX4_pass_59 : decode cX4_pass 59 = .ok (.bipush 100, 2) := by decide +kernel
theorem dX4_pass_61 : decode cX4_pass 61 = .ok (.if_icmp .le 9, 3) := by decide +kernel
theorem dX4_pass_64 : decode cX4_pass 64 = .ok (.aload 6, 2) := by decide +kernel
theorem dX4_pass_66 : decode cX4_pass 66 = .ok (.iconst 2, 1) := by decide +kernel
theorem dX4_pass_67 : decode cX4_pass 67 = .ok (.bipush 100, 2) := by decide +kernel
theorem dX4_pass_69 : decode cX4_pass 69 = .ok (.iastore, 1) := by decide +kernel
theorem dX4_pass_70 : decode cX4_pass 70 = .ok (.aload 6, 2) := by decide +kernel
theorem dX4_pass_72 : decode cX4_pass 72 = .ok (.iconst 0, 1) := by decide +kernel
theorem dX4_pass_73 : decode cX4_pass 73 = .ok (.dup2, 1) := by decide +kernel
theorem dX4_pass_74 : decode cX4_pass 74 = .ok (.iaload, 1) := by decide +kernel
theorem dX4_pass_75 : decode cX4_pass 75 = .ok (.iload_n 1, 1) := by decide +kernel
theorem dX4_pass_76 : decode cX4_pass 76 = .ok (.bipush 10, 2) := by decide +kernel
theorem dX4_pass_78 : decode cX4_pass 78 = .ok (.idiv, 1) := by decide +kernel
theorem dX4_pass_79 : decode cX4_pass 79 = .ok (.iconst 1, 1) := by decide +kernel
theorem dX4_pass_80 : decode cX4_pass 80 = .ok (.iadd, 1) := by decide +kernel
theorem dX4_pass_81 : decode cX4_pass 81 = .ok (.isub, 1) := by decide +kernel
theorem dX4_pass_82 : decode cX4_pass 82 = .ok (.iastore, 1) := by decide +kernel
theorem dX4_pass_83 : decode cX4_pass 83 = .ok (.aload 6, 2) := by decide +kernel
theorem dX4_pass_85 : decode cX4_pass 85 = .ok (.iconst 0, 1) := by decide +kernel
theorem dX4_pass_86 : decode cX4_pass 86 = .ok (.iaload, 1) := by decide +kernel
theorem dX4_pass_87 : decode cX4_pass 87 = .ok (.ifCond .ge 8, 3) := by decide +kernel
theorem dX4_pass_90 : decode cX4_pass 90 = .ok (.aload 6, 2) := by decide +kernel
theorem dX4_pass_92 : decode cX4_pass 92 = .ok (.iconst 0, 1) := by decide +kernel
theorem dX4_pass_93 : decode cX4_pass 93 = .ok (.iconst 0, 1) := by decide +kernel
theorem dX4_pass_94 : decode cX4_pass 94 = .ok (.iastore, 1) := by decide +kernel
theorem dX4_pass_95 : decode cX4_pass 95 = .ok (.iinc 5 1, 3) := by decide +kernel
theorem dX4_pass_98 : decode cX4_pass 98 = .ok (.goto (-76), 3) := by decide +kernel
theorem dX4_pass_101 : decode cX4_pass 101 = .ok (.aload_n 0, 1) := by decide +kernel
theorem dX4_pass_102 : decode cX4_pass 102 = .ok (.getfield 21, 3) := by decide +kernel
theorem dX4_pass_105 : decode cX4_pass 105 = .ok (.astore_n 3, 1) := by decide +kernel
theorem dX4_pass_106 : decode cX4_pass 106 = .ok (.aload_n 3, 1) := by decide +kernel
theorem dX4_pass_107 : decode cX4_pass 107 = .ok (.arraylength, 1) := by decide +kernel
theorem dX4_pass_108 : decode cX4_pass 108 = .ok (.istore 4, 2) := by decide +kernel
theorem dX4_pass_110 : decode cX4_pass 110 = .ok (.iconst 0, 1) := by decide +kernel
theorem dX4_pass_111 : decode cX4_pass 111 = .ok (.istore 5, 2) := by decide +kernel
theorem dX4_pass_113 : decode cX4_pass 113 = .ok (.iload 5, 2) := by decide +kernel
theorem dX4_pass_115 : decode cX4_pass 115 = .ok (.iload 4, 2) := by decide +kernel
theorem dX4_pass_117 : decode cX4_pass 117 = .ok (.if_icmp .ge 132, 3) := by decide +kernel
theorem dX4_pass_120 : decode cX4_pass 120 = .ok (.aload_n 3, 1) := by decide +kernel
theorem dX4_pass_121 : decode cX4_pass 121 = .ok (.iload 5, 2) := by decide +kernel
theorem dX4_pass_123 : decode cX4_pass 123 = .ok (.aaload, 1) := by decide +kernel
theorem dX4_pass_124 : decode cX4_pass 124 = .ok (.astore 6, 2) := by decide +kernel
theorem dX4_pass_126 : decode cX4_pass 126 = .ok (.aload 6, 2) := by decide +kernel
theorem dX4_pass_128 : decode cX4_pass 128 = .ok (.iconst 0, 1) := by decide +kernel
theorem dX4_pass_129 : decode cX4_pass 129 = .ok (.iaload, 1) := by decide +kernel
theorem dX4_pass_130 : decode cX4_pass 130 = .ok (.ifCond .ne 6, 3) := by decide +kernel
theorem dX4_pass_133 : decode cX4_pass 133 = .ok (.goto 110, 3) := by decide +kernel
theorem dX4_pass_136 : decode cX4_pass 136 = .ok (.iload_n 1, 1) := by decide +kernel
theorem dX4_pass_137 : decode cX4_pass 137 = .ok (.bipush 20, 2) := by decide +kernel
theorem dX4_pass_139 : decode cX4_pass 139 = .ok (.if_icmp .le 32, 3) := by decide +kernel
theorem dX4_pass_142 : decode cX4_pass 142 = .ok (.aload_n 0, 1) := by decide +kernel
theorem dX4_pass_143 : decode cX4_pass 143 = .ok (.getfield 7, 3) := by decide +kernel
theorem dX4_pass_146 : decode cX4_pass 146 = .ok (.iconst 0, 1) := by decide +kernel
theorem dX4_pass_147 : decode cX4_pass 147 = .ok (.iaload, 1) := by decide +kernel
theorem dX4_pass_148 : decode cX4_pass 148 = .ok (.bipush 100, 2) := by decide +kernel
theorem dX4_pass_150 : decode cX4_pass 150 = .ok (.if_icmp .ge 21, 3) := by decide +kernel
theorem dX4_pass_153 : decode cX4_pass 153 = .ok (.aload 6, 2) := by decide +kernel
theorem dX4_pass_155 : decode cX4_pass 155 = .ok (.iconst 1, 1) := by decide +kernel
theorem dX4_pass_156 : decode cX4_pass 156 = .ok (.dup2, 1) := by decide +kernel
theorem dX4_pass_157 : decode cX4_pass 157 = .ok (.iaload, 1) := by decide +kernel
theorem dX4_pass_158 : decode cX4_pass 158 = .ok (.iconst 1, 1) := by decide +kernel
theorem dX4_pass_159 : decode cX4_pass 159 = .ok (.iload_n 1, 1) := by decide +kernel
theorem dX4_pass_160 : decode cX4_pass 160 = .ok (.bipush 20, 2) := by decide +kernel
theorem dX4_pass_162 : decode cX4_pass 162 = .ok (.isub, 1) := by decide +kernel
theorem dX4_pass_163 : decode cX4_pass 163 = .ok (.iconst 4, 1) := by decide +kernel
theorem dX4_pass_164 : decode cX4_pass 164 = .ok (.idiv, 1) := by decide +kernel
theorem dX4_pass_165 : decode cX4_pass 165 = .ok (.iadd, 1) := by decide +kernel
theorem dX4_pass_166 : decode cX4_pass 166 = .ok (.iadd, 1) := by decide +kernel
theorem dX4_pass_167 : decode cX4_pass 167 = .ok (.iastore, 1) := by decide +kernel
theorem dX4_pass_168 : decode cX4_pass 168 = .ok (.goto 11, 3) := by decide +kernel
theorem dX4_pass_171 : decode cX4_pass 171 = .ok (.aload 6, 2) := by decide +kernel
theorem dX4_pass_173 : decode cX4_pass 173 = .ok (.iconst 1, 1) := by decide +kernel
theorem dX4_pass_174 : decode cX4_pass 174 = .ok (.dup2, 1) := by decide +kernel
theorem dX4_pass_175 : decode cX4_pass 175 = .ok (.iaload, 1) := by decide +kernel
theorem dX4_pass_176 : decode cX4_pass 176 = .ok (.iconst 1, 1) := by decide +kernel
theorem dX4_pass_177 : decode cX4_pass 177 = .ok (.isub, 1) := by decide +kernel
theorem dX4_pass_178 : decode cX4_pass 178 = .ok (.iastore, 1) := by decide +kernel
theorem dX4_pass_179 : decode cX4_pass 179 = .ok (.aload 6, 2) := by decide +kernel
theorem dX4_pass_181 : decode cX4_pass 181 = .ok (.iconst 1, 1) := by decide +kernel
theorem dX4_pass_182 : decode cX4_pass 182 = .ok (.aload 6, 2) := by decide +kernel
theorem dX4_pass_184 : decode cX4_pass 184 = .ok (.iconst 1, 1) := by decide +kernel
theorem dX4_pass_185 : decode cX4_pass 185 = .ok (.iaload, 1) := by decide +kernel
theorem dX4_pass_186 : decode cX4_pass 186 = .ok (.ifCond .ge 7, 3) := by decide +kernel
theorem dX4_pass_189 : decode cX4_pass 189 = .ok (.iconst 0, 1) := by decide +kernel
theorem dX4_pass_190 : decode cX4_pass 190 = .ok (.goto 21, 3) := by decide +kernel
theorem dX4_pass_193 : decode cX4_pass 193 = .ok (.aload 6, 2) := by decide +kernel
theorem dX4_pass_195 : decode cX4_pass 195 = .ok (.iconst 1, 1) := by decide +kernel
theorem dX4_pass_196 : decode cX4_pass 196 = .ok (.iaload, 1) := by decide +kernel
theorem dX4_pass_197 : decode cX4_pass 197 = .ok (.bipush 100, 2) := by decide +kernel
theorem dX4_pass_199 : decode cX4_pass 199 = .ok (.if_icmp .le 8, 3) := by decide +kernel
theorem dX4_pass_202 : decode cX4_pass 202 = .ok (.bipush 100, 2) := by decide +kernel
theorem dX4_pass_204 : decode cX4_pass 204 = .ok (.goto 7, 3) := by decide +kernel
theorem dX4_pass_207 : decode cX4_pass 207 = .ok (.aload 6, 2) := by decide +kernel
theorem dX4_pass_209 : decode cX4_pass 209 = .ok (.iconst 1, 1) := by decide +kernel
theorem dX4_pass_210 : decode cX4_pass 210 = .ok (.iaload, 1) := by decide +kernel
theorem dX4_pass_211 : decode cX4_pass 211 = .ok (.iastore, 1) := by decide +kernel
theorem dX4_pass_212 : decode cX4_pass 212 = .ok (.aload 6, 2) := by decide +kernel
theorem dX4_pass_214 : decode cX4_pass 214 = .ok (.iconst 1, 1) := by decide +kernel
theorem dX4_pass_215 : decode cX4_pass 215 = .ok (.iaload, 1) := by decide +kernel
theorem dX4_pass_216 : decode cX4_pass 216 = .ok (.bipush 100, 2) := by decide +kernel
theorem dX4_pass_218 : decode cX4_pass 218 = .ok (.if_icmp .ne 25, 3) := by decide +kernel
theorem dX4_pass_221 : decode cX4_pass 221 = .ok (.aload 6, 2) := by decide +kernel
theorem dX4_pass_223 : decode cX4_pass 223 = .ok (.iconst 0, 1) := by decide +kernel
theorem dX4_pass_224 : decode cX4_pass 224 = .ok (.aload 6, 2) := by decide +kernel
theorem dX4_pass_226 : decode cX4_pass 226 = .ok (.iconst 0, 1) := by decide +kernel
theorem dX4_pass_227 : decode cX4_pass 227 = .ok (.iaload, 1) := by decide +kernel
theorem dX4_pass_228 : decode cX4_pass 228 = .ok (.iconst 2, 1) := by decide +kernel
theorem dX4_pass_229 : decode cX4_pass 229 = .ok (.if_icmp .le 12, 3) := by decide +kernel
theorem dX4_pass_232 : decode cX4_pass 232 = .ok (.aload 6, 2) := by decide +kernel
theorem dX4_pass_234 : decode cX4_pass 234 = .ok (.iconst 0, 1) := by decide +kernel
theorem dX4_pass_235 : decode cX4_pass 235 = .ok (.iaload, 1) := by decide +kernel
theorem dX4_pass_236 : decode cX4_pass 236 = .ok (.iconst 2, 1) := by decide +kernel
theorem dX4_pass_237 : decode cX4_pass 237 = .ok (.isub, 1) := by decide +kernel
theorem dX4_pass_238 : decode cX4_pass 238 = .ok (.goto 4, 3) := by decide +kernel
theorem dX4_pass_241 : decode cX4_pass 241 = .ok (.iconst 0, 1) := by decide +kernel
theorem dX4_pass_242 : decode cX4_pass 242 = .ok (.iastore, 1) := by decide +kernel
theorem dX4_pass_243 : decode cX4_pass 243 = .ok (.iinc 5 1, 3) := by decide +kernel
theorem dX4_pass_246 : decode cX4_pass 246 = .ok (.goto (-133), 3) := by decide +kernel
theorem dX4_pass_249 : decode cX4_pass 249 = .ok (.aload_n 0, 1) := by decide +kernel
theorem dX4_pass_250 : decode cX4_pass 250 = .ok (.getfield 24, 3) := by decide +kernel
theorem dX4_pass_253 : decode cX4_pass 253 = .ok (.bipush 24, 2) := by decide +kernel
theorem dX4_pass_255 : decode cX4_pass 255 = .ok (.irem, 1) := by decide +kernel
theorem dX4_pass_256 : decode cX4_pass 256 = .ok (.istore_n 3, 1) := by decide +kernel
theorem dX4_pass_257 : decode cX4_pass 257 = .ok (.iload_n 1, 1) := by decide +kernel
theorem dX4_pass_258 : decode cX4_pass 258 = .ok (.iconst 4, 1) := by decide +kernel
theorem dX4_pass_259 : decode cX4_pass 259 = .ok (.idiv, 1) := by decide +kernel
theorem dX4_pass_260 : decode cX4_pass 260 = .ok (.istore 4, 2) := by decide +kernel
theorem dX4_pass_262 : decode cX4_pass 262 = .ok (.iload 4, 2) := by decide +kernel
theorem dX4_pass_264 : decode cX4_pass 264 = .ok (.ifCond .le 119, 3) := by decide +kernel
theorem dX4_pass_267 : decode cX4_pass 267 = .ok (.iload_n 3, 1) := by decide +kernel
theorem dX4_pass_268 : decode cX4_pass 268 = .ok (.bipush 9, 2) := by decide +kernel
theorem dX4_pass_270 : decode cX4_pass 270 = .ok (.if_icmp .le 113, 3) := by decide +kernel
theorem dX4_pass_273 : decode cX4_pass 273 = .ok (.iload_n 3, 1) := by decide +kernel
theorem dX4_pass_274 : decode cX4_pass 274 = .ok (.bipush 19, 2) := by decide +kernel
theorem dX4_pass_276 : decode cX4_pass 276 = .ok (.if_icmp .ge 107, 3) := by decide +kernel
theorem dX4_pass_279 : decode cX4_pass 279 = .ok (.aload_n 0, 1) := by decide +kernel
theorem dX4_pass_280 : decode cX4_pass 280 = .ok (.invokevirtual 35, 3) := by decide +kernel
theorem dX4_pass_283 : decode cX4_pass 283 = .ok (.istore 5, 2) := by decide +kernel
theorem dX4_pass_285 : decode cX4_pass 285 = .ok (.iload 5, 2) := by decide +kernel
theorem dX4_pass_287 : decode cX4_pass 287 = .ok (.ifCond .lt 13, 3) := by decide +kernel
theorem dX4_pass_290 : decode cX4_pass 290 = .ok (.aload_n 0, 1) := by decide +kernel
theorem dX4_pass_291 : decode cX4_pass 291 = .ok (.getfield 7, 3) := by decide +kernel
theorem dX4_pass_294 : decode cX4_pass 294 = .ok (.iconst 3, 1) := by decide +kernel
theorem dX4_pass_295 : decode cX4_pass 295 = .ok (.iaload, 1) := by decide +kernel
theorem dX4_pass_296 : decode cX4_pass 296 = .ok (.iconst 1, 1) := by decide +kernel
theorem dX4_pass_297 : decode cX4_pass 297 = .ok (.if_icmp .ge 16, 3) := by decide +kernel
theorem dX4_pass_300 : decode cX4_pass 300 = .ok (.aload_n 0, 1) := by decide +kernel
theorem dX4_pass_301 : decode cX4_pass 301 = .ok (.dup, 1) := by decide +kernel
theorem dX4_pass_302 : decode cX4_pass 302 = .ok (.getfield 38, 3) := by decide +kernel
theorem dX4_pass_305 : decode cX4_pass 305 = .ok (.iconst 1, 1) := by decide +kernel
theorem dX4_pass_306 : decode cX4_pass 306 = .ok (.iadd, 1) := by decide +kernel
theorem dX4_pass_307 : decode cX4_pass 307 = .ok (.putfield 38, 3) := by decide +kernel
theorem dX4_pass_310 : decode cX4_pass 310 = .ok (.goto 67, 3) := by decide +kernel
theorem dX4_pass_313 : decode cX4_pass 313 = .ok (.aload_n 0, 1) := by decide +kernel
theorem dX4_pass_314 : decode cX4_pass 314 = .ok (.getfield 7, 3) := by decide +kernel
theorem dX4_pass_317 : decode cX4_pass 317 = .ok (.iconst 3, 1) := by decide +kernel
theorem dX4_pass_318 : decode cX4_pass 318 = .ok (.dup2, 1) := by decide +kernel
theorem dX4_pass_319 : decode cX4_pass 319 = .ok (.iaload, 1) := by decide +kernel
theorem dX4_pass_320 : decode cX4_pass 320 = .ok (.iconst 1, 1) := by decide +kernel
theorem dX4_pass_321 : decode cX4_pass 321 = .ok (.isub, 1) := by decide +kernel
theorem dX4_pass_322 : decode cX4_pass 322 = .ok (.iastore, 1) := by decide +kernel
theorem dX4_pass_323 : decode cX4_pass 323 = .ok (.aload_n 0, 1) := by decide +kernel
theorem dX4_pass_324 : decode cX4_pass 324 = .ok (.getfield 21, 3) := by decide +kernel
theorem dX4_pass_327 : decode cX4_pass 327 = .ok (.iload 5, 2) := by decide +kernel
theorem dX4_pass_329 : decode cX4_pass 329 = .ok (.aaload, 1) := by decide +kernel
theorem dX4_pass_330 : decode cX4_pass 330 = .ok (.iconst 0, 1) := by decide +kernel
theorem dX4_pass_331 : decode cX4_pass 331 = .ok (.dup2, 1) := by decide +kernel
theorem dX4_pass_332 : decode cX4_pass 332 = .ok (.iaload, 1) := by decide +kernel
theorem dX4_pass_333 : decode cX4_pass 333 = .ok (.iconst 1, 1) := by decide +kernel
theorem dX4_pass_334 : decode cX4_pass 334 = .ok (.isub, 1) := by decide +kernel
theorem dX4_pass_335 : decode cX4_pass 335 = .ok (.iastore, 1) := by decide +kernel
theorem dX4_pass_336 : decode cX4_pass 336 = .ok (.aload_n 0, 1) := by decide +kernel
theorem dX4_pass_337 : decode cX4_pass 337 = .ok (.getfield 21, 3) := by decide +kernel
theorem dX4_pass_340 : decode cX4_pass 340 = .ok (.iload 5, 2) := by decide +kernel
theorem dX4_pass_342 : decode cX4_pass 342 = .ok (.aaload, 1) := by decide +kernel
theorem dX4_pass_343 : decode cX4_pass 343 = .ok (.iconst 2, 1) := by decide +kernel
theorem dX4_pass_344 : decode cX4_pass 344 = .ok (.dup2, 1) := by decide +kernel
theorem dX4_pass_345 : decode cX4_pass 345 = .ok (.iaload, 1) := by decide +kernel
theorem dX4_pass_346 : decode cX4_pass 346 = .ok (.iconst 1, 1) := by decide +kernel
theorem dX4_pass_347 : decode cX4_pass 347 = .ok (.iadd, 1) := by decide +kernel
theorem dX4_pass_348 : decode cX4_pass 348 = .ok (.iastore, 1) := by decide +kernel
theorem dX4_pass_349 : decode cX4_pass 349 = .ok (.aload_n 0, 1) := by decide +kernel
theorem dX4_pass_350 : decode cX4_pass 350 = .ok (.dup, 1) := by decide +kernel
theorem dX4_pass_351 : decode cX4_pass 351 = .ok (.getfield 32, 3) := by decide +kernel
theorem dX4_pass_354 : decode cX4_pass 354 = .ok (.aload_n 0, 1) := by decide +kernel
theorem dX4_pass_355 : decode cX4_pass 355 = .ok (.getfield 21, 3) := by decide +kernel
theorem dX4_pass_358 : decode cX4_pass 358 = .ok (.iload 5, 2) := by decide +kernel
theorem dX4_pass_360 : decode cX4_pass 360 = .ok (.aaload, 1) := by decide +kernel
theorem dX4_pass_361 : decode cX4_pass 361 = .ok (.iconst 1, 1) := by decide +kernel
theorem dX4_pass_362 : decode cX4_pass 362 = .ok (.iaload, 1) := by decide +kernel
theorem dX4_pass_363 : decode cX4_pass 363 = .ok (.bipush 50, 2) := by decide +kernel
theorem dX4_pass_365 : decode cX4_pass 365 = .ok (.if_icmp .lt 7, 3) := by decide +kernel
theorem dX4_pass_368 : decode cX4_pass 368 = .ok (.iconst 2, 1) := by decide +kernel
theorem dX4_pass_369 : decode cX4_pass 369 = .ok (.goto 4, 3) := by decide +kernel
theorem dX4_pass_372 : decode cX4_pass 372 = .ok (.iconst 3, 1) := by decide +kernel
theorem dX4_pass_373 : decode cX4_pass 373 = .ok (.iadd, 1) := by decide +kernel
theorem dX4_pass_374 : decode cX4_pass 374 = .ok (.putfield 32, 3) := by decide +kernel
theorem dX4_pass_377 : decode cX4_pass 377 = .ok (.iinc 4 (-1), 3) := by decide +kernel
theorem dX4_pass_380 : decode cX4_pass 380 = .ok (.goto (-118), 3) := by decide +kernel
theorem dX4_pass_383 : decode cX4_pass 383 = .ok (.aload_n 0, 1) := by decide +kernel
theorem dX4_pass_384 : decode cX4_pass 384 = .ok (.getfield 24, 3) := by decide +kernel
theorem dX4_pass_387 : decode cX4_pass 387 = .ok (.iconst 4, 1) := by decide +kernel
theorem dX4_pass_388 : decode cX4_pass 388 = .ok (.irem, 1) := by decide +kernel
theorem dX4_pass_389 : decode cX4_pass 389 = .ok (.ifCond .ne 23, 3) := by decide +kernel
theorem dX4_pass_392 : decode cX4_pass 392 = .ok (.aload_n 0, 1) := by decide +kernel
theorem dX4_pass_393 : decode cX4_pass 393 = .ok (.getfield 7, 3) := by decide +kernel
theorem dX4_pass_396 : decode cX4_pass 396 = .ok (.iconst 0, 1) := by decide +kernel
theorem dX4_pass_397 : decode cX4_pass 397 = .ok (.iconst 0, 1) := by decide +kernel
theorem dX4_pass_398 : decode cX4_pass 398 = .ok (.aload_n 0, 1) := by decide +kernel
theorem dX4_pass_399 : decode cX4_pass 399 = .ok (.getfield 7, 3) := by decide +kernel
theorem dX4_pass_402 : decode cX4_pass 402 = .ok (.iconst 0, 1) := by decide +kernel
theorem dX4_pass_403 : decode cX4_pass 403 = .ok (.iaload, 1) := by decide +kernel
theorem dX4_pass_404 : decode cX4_pass 404 = .ok (.iload_n 1, 1) := by decide +kernel
theorem dX4_pass_405 : decode cX4_pass 405 = .ok (.iconst 5, 1) := by decide +kernel
theorem dX4_pass_406 : decode cX4_pass 406 = .ok (.idiv, 1) := by decide +kernel
theorem dX4_pass_407 : decode cX4_pass 407 = .ok (.isub, 1) := by decide +kernel
theorem dX4_pass_408 : decode cX4_pass 408 = .ok (.invokestatic 41, 3) := by decide +kernel
theorem dX4_pass_411 : decode cX4_pass 411 = .ok (.iastore, 1) := by decide +kernel
theorem dX4_pass_412 : decode cX4_pass 412 = .ok (.aload_n 0, 1) := by decide +kernel
theorem dX4_pass_413 : decode cX4_pass 413 = .ok (.dup, 1) := by decide +kernel
theorem dX4_pass_414 : decode cX4_pass 414 = .ok (.getfield 24, 3) := by decide +kernel
theorem dX4_pass_417 : decode cX4_pass 417 = .ok (.iconst 1, 1) := by decide +kernel
theorem dX4_pass_418 : decode cX4_pass 418 = .ok (.iadd, 1) := by decide +kernel
theorem dX4_pass_419 : decode cX4_pass 419 = .ok (.putfield 24, 3) := by decide +kernel
theorem dX4_pass_422 : decode cX4_pass 422 = .ok (.aload_n 0, 1) := by decide +kernel
theorem dX4_pass_423 : decode cX4_pass 423 = .ok (.getfield 21, 3) := by decide +kernel
theorem dX4_pass_426 : decode cX4_pass 426 = .ok (.astore 4, 2) := by decide +kernel
theorem dX4_pass_428 : decode cX4_pass 428 = .ok (.aload 4, 2) := by decide +kernel
theorem dX4_pass_430 : decode cX4_pass 430 = .ok (.arraylength, 1) := by decide +kernel
theorem dX4_pass_431 : decode cX4_pass 431 = .ok (.istore 5, 2) := by decide +kernel
theorem dX4_pass_433 : decode cX4_pass 433 = .ok (.iconst 0, 1) := by decide +kernel
theorem dX4_pass_434 : decode cX4_pass 434 = .ok (.istore 6, 2) := by decide +kernel
theorem dX4_pass_436 : decode cX4_pass 436 = .ok (.iload 6, 2) := by decide +kernel
theorem dX4_pass_438 : decode cX4_pass 438 = .ok (.iload 5, 2) := by decide +kernel
theorem dX4_pass_440 : decode cX4_pass 440 = .ok (.if_icmp .ge 28, 3) := by decide +kernel
theorem dX4_pass_443 : decode cX4_pass 443 = .ok (.aload 4, 2) := by decide +kernel
theorem dX4_pass_445 : decode cX4_pass 445 = .ok (.iload 6, 2) := by decide +kernel
theorem dX4_pass_447 : decode cX4_pass 447 = .ok (.aaload, 1) := by decide +kernel
theorem dX4_pass_448 : decode cX4_pass 448 = .ok (.astore 7, 2) := by decide +kernel
theorem dX4_pass_450 : decode cX4_pass 450 = .ok (.aload 7, 2) := by decide +kernel
theorem dX4_pass_452 : decode cX4_pass 452 = .ok (.iconst 0, 1) := by decide +kernel
theorem dX4_pass_453 : decode cX4_pass 453 = .ok (.iaload, 1) := by decide +kernel
theorem dX4_pass_454 : decode cX4_pass 454 = .ok (.ifCond .ne 8, 3) := by decide +kernel
theorem dX4_pass_457 : decode cX4_pass 457 = .ok (.aload 7, 2) := by decide +kernel
theorem dX4_pass_459 : decode cX4_pass 459 = .ok (.iconst 1, 1) := by decide +kernel
theorem dX4_pass_460 : decode cX4_pass 460 = .ok (.iconst 0, 1) := by decide +kernel
theorem dX4_pass_461 : decode cX4_pass 461 = .ok (.iastore, 1) := by decide +kernel
theorem dX4_pass_462 : decode cX4_pass 462 = .ok (.iinc 6 1, 3) := by decide +kernel
theorem dX4_pass_465 : decode cX4_pass 465 = .ok (.goto (-29), 3) := by decide +kernel
theorem dX4_pass_468 : decode cX4_pass 468 = .ok (.aload_n 0, 1) := by decide +kernel
theorem dX4_pass_469 : decode cX4_pass 469 = .ok (.getfield 32, 3) := by decide +kernel
theorem dX4_pass_472 : decode cX4_pass 472 = .ok (.iload_n 2, 1) := by decide +kernel
theorem dX4_pass_473 : decode cX4_pass 473 = .ok (.isub, 1) := by decide +kernel
theorem dX4_pass_474 : decode cX4_pass 474 = .ok (.ireturn, 1) := by decide +kernel
theorem dX4_sum_0 : decode cX4_sum 0 = .ok (.iconst 0, 1) := by decide +kernel
theorem dX4_sum_1 : decode cX4_sum 1 = .ok (.istore_n 2, 1) := by decide +kernel
theorem dX4_sum_2 : decode cX4_sum 2 = .ok (.aload_n 0, 1) := by decide +kernel
theorem dX4_sum_3 : decode cX4_sum 3 = .ok (.getfield 21, 3) := by decide +kernel
theorem dX4_sum_6 : decode cX4_sum 6 = .ok (.astore_n 3, 1) := by decide +kernel
theorem dX4_sum_7 : decode cX4_sum 7 = .ok (.aload_n 3, 1) := by decide +kernel
theorem dX4_sum_8 : decode cX4_sum 8 = .ok (.arraylength, 1) := by decide +kernel
theorem dX4_sum_9 : decode cX4_sum 9 = .ok (.istore 4, 2) := by decide +kernel
theorem dX4_sum_11 : decode cX4_sum 11 = .ok (.iconst 0, 1) := by decide +kernel
theorem dX4_sum_12 : decode cX4_sum 12 = .ok (.istore 5, 2) := by decide +kernel
theorem dX4_sum_14 : decode cX4_sum 14 = .ok (.iload 5, 2) := by decide +kernel
theorem dX4_sum_16 : decode cX4_sum 16 = .ok (.iload 4, 2) := by decide +kernel
theorem dX4_sum_18 : decode cX4_sum 18 = .ok (.if_icmp .ge 22, 3) := by decide +kernel
theorem dX4_sum_21 : decode cX4_sum 21 = .ok (.aload_n 3, 1) := by decide +kernel
theorem dX4_sum_22 : decode cX4_sum 22 = .ok (.iload 5, 2) := by decide +kernel
theorem dX4_sum_24 : decode cX4_sum 24 = .ok (.aaload, 1) := by decide +kernel
theorem dX4_sum_25 : decode cX4_sum 25 = .ok (.astore 6, 2) := by decide +kernel
theorem dX4_sum_27 : decode cX4_sum 27 = .ok (.iload_n 2, 1) := by decide +kernel
theorem dX4_sum_28 : decode cX4_sum 28 = .ok (.aload 6, 2) := by decide +kernel
theorem dX4_sum_30 : decode cX4_sum 30 = .ok (.iload_n 1, 1) := by decide +kernel
theorem dX4_sum_31 : decode cX4_sum 31 = .ok (.iaload, 1) := by decide +kernel
theorem dX4_sum_32 : decode cX4_sum 32 = .ok (.iadd, 1) := by decide +kernel
theorem dX4_sum_33 : decode cX4_sum 33 = .ok (.istore_n 2, 1) := by decide +kernel
theorem dX4_sum_34 : decode cX4_sum 34 = .ok (.iinc 5 1, 3) := by decide +kernel
theorem dX4_sum_37 : decode cX4_sum 37 = .ok (.goto (-23), 3) := by decide +kernel
theorem dX4_sum_40 : decode cX4_sum 40 = .ok (.iload_n 2, 1) := by decide +kernel
theorem dX4_sum_41 : decode cX4_sum 41 = .ok (.ireturn, 1) := by decide +kernel
set_option maxRecDepth 20000 in
theorem ggX4_counts_X4_hot : GoodIn wsX4_counts wsX4_hot := goodIn_r _ [10, 11, 2, 17, 18, 19, 20, 21, 22, 23] (by decide +kernel) (by decide +kernel)
set_option maxRecDepth 20000 in
theorem gX4_counts_X4_hot : GoodIn wsX4_counts (wsV RX4 28 RX4 yX4_hot wsX4_hot) := goodIn_app (goodIn_of _ (by decide +kernel)) ggX4_counts_X4_hot
set_option maxRecDepth 20000 in
theorem ggX4_counts_X4_sum : GoodIn wsX4_counts wsX4_sum := goodIn_r _ [15, 16, 17, 18, 19, 20, 21, 22, 23] (by decide +kernel) (by decide +kernel)
set_option maxRecDepth 20000 in
theorem gX4_counts_X4_sum : GoodIn wsX4_counts (wsV RX4 47 RX4 yX4_sum wsX4_sum) := goodIn_app (goodIn_of _ (by decide +kernel)) ggX4_counts_X4_sum
