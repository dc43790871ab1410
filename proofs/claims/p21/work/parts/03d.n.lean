set_option maxRecDepth 20000 in
theorem ggX3_init_X0_init : GoodIn wsX3_init wsX0_init := goodIn_r _ [11, 12, 2, 3, 13, 14, 15, 16, 17, 18, 19, 20, 21, 22, 23, 24, 25, 26, 27, 28, 29, 30, 31, 32, 33, 34, 35, 36, 37, 38, 39, 40, 41, 42, 45, 46, 47, 48, 49, 50] (by decide +kernel) (by decide +kernel)
set_option maxRecDepth 20000 in
theorem gX3_init_X0_init : GoodIn wsX3_init (wsX0_init) := ggX3_init_X0_init
theorem dX3_init_0 : decode cX3_init 0 = .ok (.aload_n 0, 1) := by decide +kernel
theorem dX3_init_1 : decode cX3_init 1 = .ok (.invokespecial 1, 3) := by decide +kernel
theorem dX3_init_4 : decode cX3_init 4 = .ok (.aload_n 0, 1) := by decide +kernel
theorem dX3_init_5 : decode cX3_init 5 = .ok (.new 7, 3) := by decide +kernel
theorem dX3_init_8 : decode cX3_init 8 = .ok (.dup, 1) := by decide +kernel
theorem dX3_init_9 : decode cX3_init 9 = .ok (.invokespecial 9, 3) := by decide +kernel
theorem dX3_init_12 : decode cX3_init 12 = .ok (.putfield 10, 3) := by decide +kernel
theorem dX3_init_15 : decode cX3_init 15 = .ok (.aload_n 0, 1) := by decide +kernel
theorem dX3_init_16 : decode cX3_init 16 = .ok (.new 7, 3) := by decide +kernel
theorem dX3_init_19 : decode cX3_init 19 = .ok (.dup, 1) := by decide +kernel
theorem dX3_init_20 : decode cX3_init 20 = .ok (.invokespecial 9, 3) := by decide +kernel
theorem dX3_init_23 : decode cX3_init 23 = .ok (.putfield 16, 3) := by decide +kernel
theorem dX3_init_26 : decode cX3_init 26 = .ok (.return_, 1) := by decide +kernel
theorem dX3_bring_0 : decode cX3_bring 0 = .ok (.iload_n 1, 1) := by decide +kernel
theorem dX3_bring_1 : decode cX3_bring 1 = .ok (.ifCond .lt 8, 3) := by decide +kernel
theorem dX3_bring_4 : decode cX3_bring 4 = .ok (.iload_n 1, 1) := by decide +kernel
theorem dX3_bring_5 : decode cX3_bring 5 = .ok (.iconst 3, 1) := by decide +kernel
theorem dX3_bring_6 : decode cX3_bring 6 = .ok (.if_icmp .le 13, 3) := by decide +kernel
theorem dX3_bring_9 : decode cX3_bring 9 = .ok (.new 19, 3) := by decide +kernel
theorem dX3_bring_12 : decode cX3_bring 12 = .ok (.dup, 1) := by decide +kernel
theorem dX3_bring_13 : decode cX3_bring 13 = .ok (.ldc 21, 2) := by decide +kernel
theorem dX3_bring_15 : decode cX3_bring 15 = .ok (.invokespecial 23, 3) := by decide +kernel
theorem dX3_bring_18 : decode cX3_bring 18 = .ok (.athrow, 1) := by decide +kernel
theorem dX3_bring_19 : decode cX3_bring 19 = .ok (.iload_n 2, 1) := by decide +kernel
theorem dX3_bring_20 : decode cX3_bring 20 = .ok (.iconst 1, 1) := by decide +kernel
theorem dX3_bring_21 : decode cX3_bring 21 = .ok (.if_icmp .lt 10, 3) := by decide +kernel
theorem dX3_bring_24 : decode cX3_bring 24 = .ok (.iload_n 2, 1) := by decide +kernel
theorem dX3_bring_25 : decode cX3_bring 25 = .ok (.sipush 300, 3) := by decide +kernel
theorem dX3_bring_28 : decode cX3_bring 28 = .ok (.if_icmp .le 13, 3) := by decide +kernel
theorem dX3_bring_31 : decode cX3_bring 31 = .ok (.new 26, 3) := by decide +kernel
theorem dX3_bring_34 : decode cX3_bring 34 = .ok (.dup, 1) := by decide +kernel
theorem dX3_bring_35 : decode cX3_bring 35 = .ok (.ldc 28, 2) := by decide +kernel
theorem dX3_bring_37 : decode cX3_bring 37 = .ok (.invokespecial 30, 3) := by decide +kernel
theorem dX3_bring_40 : decode cX3_bring 40 = .ok (.athrow, 1) := by decide +kernel
theorem dX3_bring_41 : decode cX3_bring 41 = .ok (.aload_n 0, 1) := by decide +kernel
theorem dX3_bring_42 : decode cX3_bring 42 = .ok (.getfield 10, 3) := by decide +kernel
theorem dX3_bring_45 : decode cX3_bring 45 = .ok (.getfield 31, 3) := by decide +kernel
theorem dX3_bring_48 : decode cX3_bring 48 = .ok (.iload_n 1, 1) := by decide +kernel
theorem dX3_bring_49 : decode cX3_bring 49 = .ok (.getstatic 35, 3) := by decide +kernel
theorem dX3_bring_52 : decode cX3_bring 52 = .ok (.iload_n 1, 1) := by decide +kernel
theorem dX3_bring_53 : decode cX3_bring 53 = .ok (.iaload, 1) := by decide +kernel
theorem dX3_bring_54 : decode cX3_bring 54 = .ok (.aload_n 0, 1) := by decide +kernel
theorem dX3_bring_55 : decode cX3_bring 55 = .ok (.getfield 10, 3) := by decide +kernel
theorem dX3_bring_58 : decode cX3_bring 58 = .ok (.getfield 31, 3) := by decide +kernel
theorem dX3_bring_61 : decode cX3_bring 61 = .ok (.iload_n 1, 1) := by decide +kernel
theorem dX3_bring_62 : decode cX3_bring 62 = .ok (.iaload, 1) := by decide +kernel
theorem dX3_bring_63 : decode cX3_bring 63 = .ok (.iload_n 2, 1) := by decide +kernel
theorem dX3_bring_64 : decode cX3_bring 64 = .ok (.iadd, 1) := by decide +kernel
theorem dX3_bring_65 : decode cX3_bring 65 = .ok (.invokestatic 38, 3) := by decide +kernel
theorem dX3_bring_68 : decode cX3_bring 68 = .ok (.iastore, 1) := by decide +kernel
theorem dX3_bring_69 : decode cX3_bring 69 = .ok (.aload_n 0, 1) := by decide +kernel
theorem dX3_bring_70 : decode cX3_bring 70 = .ok (.getfield 10, 3) := by decide +kernel
theorem dX3_bring_73 : decode cX3_bring 73 = .ok (.getfield 31, 3) := by decide +kernel
theorem dX3_bring_76 : decode cX3_bring 76 = .ok (.iload_n 1, 1) := by decide +kernel
theorem dX3_bring_77 : decode cX3_bring 77 = .ok (.iaload, 1) := by decide +kernel
theorem dX3_bring_78 : decode cX3_bring 78 = .ok (.ireturn, 1) := by decide +kernel
theorem dX3_setHeat_0 : decode cX3_setHeat 0 = .ok (.iload_n 1, 1) := by decide +kernel
theorem dX3_setHeat_1 : decode cX3_setHeat 1 = .ok (.ifCond .lt 9, 3) := by decide +kernel
theorem dX3_setHeat_4 : decode cX3_setHeat 4 = .ok (.iload_n 1, 1) := by decide +kernel
theorem dX3_setHeat_5 : decode cX3_setHeat 5 = .ok (.bipush 7, 2) := by decide +kernel
theorem dX3_setHeat_7 : decode cX3_setHeat 7 = .ok (.if_icmp .lt 13, 3) := by decide +kernel
theorem dX3_setHeat_10 : decode cX3_setHeat 10 = .ok (.new 19, 3) := by decide +kernel
theorem dX3_setHeat_13 : decode cX3_setHeat 13 = .ok (.dup, 1) := by decide +kernel
theorem dX3_setHeat_14 : decode cX3_setHeat 14 = .ok (.ldc 44, 2) := by decide +kernel
theorem dX3_setHeat_16 : decode cX3_setHeat 16 = .ok (.invokespecial 23, 3) := by decide +kernel
theorem dX3_setHeat_19 : decode cX3_setHeat 19 = .ok (.athrow, 1) := by decide +kernel
theorem dX3_setHeat_20 : decode cX3_setHeat 20 = .ok (.iload_n 2, 1) := by decide +kernel
theorem dX3_setHeat_21 : decode cX3_setHeat 21 = .ok (.ifCond .lt 9, 3) := by decide +kernel
theorem dX3_setHeat_24 : decode cX3_setHeat 24 = .ok (.iload_n 2, 1) := by decide +kernel
theorem dX3_setHeat_25 : decode cX3_setHeat 25 = .ok (.bipush 40, 2) := by decide +kernel
theorem dX3_setHeat_27 : decode cX3_setHeat 27 = .ok (.if_icmp .le 13, 3) := by decide +kernel
theorem dX3_setHeat_30 : decode cX3_setHeat 30 = .ok (.new 26, 3) := by decide +kernel
theorem dX3_setHeat_33 : decode cX3_setHeat 33 = .ok (.dup, 1) := by decide +kernel
theorem dX3_setHeat_34 : decode cX3_setHeat 34 = .ok (.ldc 46, 2) := by decide +kernel
theorem dX3_setHeat_36 : decode cX3_setHeat 36 = .ok (.invokespecial 30, 3) := by decide +kernel
theorem dX3_setHeat_39 : decode cX3_setHeat 39 = .ok (.athrow, 1) := by decide +kernel
theorem dX3_setHeat_40 : decode cX3_setHeat 40 = .ok (.aload_n 0, 1) := by decide +kernel
theorem dX3_setHeat_41 : decode cX3_setHeat 41 = .ok (.getfield 10, 3) := by decide +kernel
theorem dX3_setHeat_44 : decode cX3_setHeat 44 = .ok (.getfield 48, 3) := by decide +kernel
theorem dX3_setHeat_47 : decode cX3_setHeat 47 = .ok (.iload_n 1, 1) := by decide +kernel
theorem dX3_setHeat_48 : decode cX3_setHeat 48 = .ok (.iaload, 1) := by decide +kernel
theorem dX3_setHeat_49 : decode cX3_setHeat 49 = .ok (.istore_n 3, 1) := by decide +kernel
theorem dX3_setHeat_50 : decode cX3_setHeat 50 = .ok (.aload_n 0, 1) := by decide +kernel
theorem dX3_setHeat_51 : decode cX3_setHeat 51 = .ok (.getfield 10, 3) := by decide +kernel
theorem dX3_setHeat_54 : decode cX3_setHeat 54 = .ok (.getfield 48, 3) := by decide +kernel
theorem dX3_setHeat_57 : decode cX3_setHeat 57 = .ok (.iload_n 1, 1) := by decide +kernel
theorem dX3_setHeat_58 : decode cX3_setHeat 58 = .ok (.iload_n 2, 1) := by decide +kernel
theorem dX3_setHeat_59 : decode cX3_setHeat 59 = .ok (.iastore, 1) := by decide +kernel
theorem dX3_setHeat_60 : decode cX3_setHeat 60 = .ok (.iload_n 3, 1) := by decide +kernel
theorem dX3_setHeat_61 : decode cX3_setHeat 61 = .ok (.ireturn, 1) := by decide +kernel
theorem dX3_churn_0 : decode cX3_churn 0 = .ok (.aload_n 0, 1) := by decide +kernel
theorem dX3_churn_1 : decode cX3_churn 1 = .ok (.getfield 10, 3) := by decide +kernel
theorem dX3_churn_4 : decode cX3_churn 4 = .ok (.getfield 51, 3) := by decide +kernel
theorem dX3_churn_7 : decode cX3_churn 7 = .ok (.iconst 4, 1) := by decide +kernel
theorem dX3_churn_8 : decode cX3_churn 8 = .ok (.if_icmp .lt 13, 3) := by decide +kernel
theorem dX3_churn_11 : decode cX3_churn 11 = .ok (.new 55, 3) := by decide +kernel
theorem dX3_churn_14 : decode cX3_churn 14 = .ok (.dup, 1) := by decide +kernel
theorem dX3_churn_15 : decode cX3_churn 15 = .ok (.ldc 57, 2) := by decide +kernel
theorem dX3_churn_17 : decode cX3_churn 17 = .ok (.invokespecial 59, 3) := by decide +kernel
theorem dX3_churn_20 : decode cX3_churn 20 = .ok (.athrow, 1) := by decide +kernel
theorem dX3_churn_21 : decode cX3_churn 21 = .ok (.aload_n 0, 1) := by decide +kernel
theorem dX3_churn_22 : decode cX3_churn 22 = .ok (.getfield 10, 3) := by decide +kernel
theorem dX3_churn_25 : decode cX3_churn 25 = .ok (.getfield 51, 3) := by decide +kernel
theorem dX3_churn_28 : decode cX3_churn 28 = .ok (.istore_n 1, 1) := by decide +kernel
theorem dX3_churn_29 : decode cX3_churn 29 = .ok (.aload_n 0, 1) := by decide +kernel
theorem dX3_churn_30 : decode cX3_churn 30 = .ok (.getfield 10, 3) := by decide +kernel
theorem dX3_churn_33 : decode cX3_churn 33 = .ok (.iload_n 1, 1) := by decide +kernel
theorem dX3_churn_34 : decode cX3_churn 34 = .ok (.iconst 1, 1) := by decide +kernel
theorem dX3_churn_35 : decode cX3_churn 35 = .ok (.iadd, 1) := by decide +kernel
theorem dX3_churn_36 : decode cX3_churn 36 = .ok (.putfield 51, 3) := by decide +kernel
theorem dX3_churn_39 : decode cX3_churn 39 = .ok (.iload_n 1, 1) := by decide +kernel
theorem dX3_churn_40 : decode cX3_churn 40 = .ok (.ireturn, 1) := by decide +kernel
theorem dX3_tub_0 : decode cX3_tub 0 = .ok (.aload_n 0, 1) := by decide +kernel
theorem dX3_tub_1 : decode cX3_tub 1 = .ok (.getfield 10, 3) := by decide +kernel
theorem dX3_tub_4 : decode cX3_tub 4 = .ok (.getfield 60, 3) := by decide +kernel
theorem dX3_tub_7 : decode cX3_tub 7 = .ok (.bipush 6, 2) := by decide +kernel
theorem dX3_tub_9 : decode cX3_tub 9 = .ok (.if_icmp .lt 13, 3) := by decide +kernel
theorem dX3_tub_12 : decode cX3_tub 12 = .ok (.new 55, 3) := by decide +kernel
theorem dX3_tub_15 : decode cX3_tub 15 = .ok (.dup, 1) := by decide +kernel
theorem dX3_tub_16 : decode cX3_tub 16 = .ok (.ldc 63, 2) := by decide +kernel
theorem dX3_tub_18 : decode cX3_tub 18 = .ok (.invokespecial 59, 3) := by decide +kernel
theorem dX3_tub_21 : decode cX3_tub 21 = .ok (.athrow, 1) := by decide +kernel
theorem dX3_tub_22 : decode cX3_tub 22 = .ok (.aload_n 0, 1) := by decide +kernel
theorem dX3_tub_23 : decode cX3_tub 23 = .ok (.getfield 10, 3) := by decide +kernel
theorem dX3_tub_26 : decode cX3_tub 26 = .ok (.getfield 60, 3) := by decide +kernel
theorem dX3_tub_29 : decode cX3_tub 29 = .ok (.istore_n 1, 1) := by decide +kernel
theorem dX3_tub_30 : decode cX3_tub 30 = .ok (.aload_n 0, 1) := by decide +kernel
theorem dX3_tub_31 : decode cX3_tub 31 = .ok (.getfield 10, 3) := by decide +kernel
theorem dX3_tub_34 : decode cX3_tub 34 = .ok (.iload_n 1, 1) := by decide +kernel
theorem dX3_tub_35 : decode cX3_tub 35 = .ok (.iconst 1, 1) := by decide +kernel
theorem dX3_tub_36 : decode cX3_tub 36 = .ok (.iadd, 1) := by decide +kernel
theorem dX3_tub_37 : decode cX3_tub 37 = .ok (.putfield 60, 3) := by decide +kernel
theorem dX3_tub_40 : decode cX3_tub 40 = .ok (.iload_n 1, 1) := by decide +kernel
theorem dX3_tub_41 : decode cX3_tub 41 = .ok (.ireturn, 1) := by decide +kernel
set_option maxRecDepth 20000 in
theorem ggX3_pack_X3_existingChurn : GoodIn wsX3_pack wsX3_existingChurn := goodIn_ca (goodIn_r _ [8, 9, 10, 3, 26, 27, 28, 29, 30, 31, 32, 33, 34, 35, 36] (by decide +kernel) (by decide +kernel)) (goodIn_sub (fun _ h => List.mem_cons_of_mem _ (List.mem_append_left _ (List.mem_append_right _ h))) (by decide +kernel))
set_option maxRecDepth 20000 in
theorem gX3_pack_X3_existingChurn : GoodIn wsX3_pack (wsV RX3 65 RX3 yX3_existingChurn wsX3_existingChurn) := goodIn_app (goodIn_of _ (by decide +kernel)) ggX3_pack_X3_existingChurn
set_option maxRecDepth 20000 in
theorem ggX3_pack_X3_checkPacked : GoodIn wsX3_pack wsX3_checkPacked := goodIn_ca (goodIn_r _ [13, 14, 15] (by decide +kernel) (by decide +kernel)) (goodIn_sub (fun _ h => List.mem_cons_of_mem _ (List.mem_append_right _ h)) (by decide +kernel))
set_option maxRecDepth 20000 in
theorem gX3_pack_X3_checkPacked : GoodIn wsX3_pack (va_wsS RX3 69 yX3_checkPacked wsX3_checkPacked) := goodIn_app (goodIn_of _ (by decide +kernel)) ggX3_pack_X3_checkPacked
set_option maxRecDepth 20000 in
theorem ggX3_pack_X3_coldWithBrine : GoodIn wsX3_pack wsX3_coldWithBrine := goodIn_r _ [18, 19, 20, 21, 22, 23, 24, 7, 25] (by decide +kernel) (by decide +kernel)
set_option maxRecDepth 20000 in
theorem gX3_pack_X3_coldWithBrine : GoodIn wsX3_pack (va_wsS RX3 80 yX3_coldWithBrine wsX3_coldWithBrine) := goodIn_app (goodIn_of _ (by decide +kernel)) ggX3_pack_X3_coldWithBrine
theorem dX3_pack_0 : decode cX3_pack 0 = .ok (.aload_n 0, 1) := by decide +kernel
theorem dX3_pack_1 : decode cX3_pack 1 = .ok (.iload_n 1, 1) := by decide +kernel
theorem dX3_pack_2 : decode cX3_pack 2 = .ok (.invokevirtual 65, 3) := by decide +kernel
theorem dX3_pack_5 : decode cX3_pack 5 = .ok (.astore 4, 2) := by decide +kernel
theorem dX3_pack_7 : decode cX3_pack 7 = .ok (.iload_n 2, 1) := by decide +kernel
theorem dX3_pack_8 : decode cX3_pack 8 = .ok (.invokestatic 69, 3) := by decide +kernel
theorem dX3_pack_11 : decode cX3_pack 11 = .ok (.iload_n 3, 1) := by decide +kernel
theorem dX3_pack_12 : decode cX3_pack 12 = .ok (.invokestatic 69, 3) := by decide +kernel
theorem dX3_pack_15 : decode cX3_pack 15 = .ok (.iload_n 2, 1) := by decide +kernel
theorem dX3_pack_16 : decode cX3_pack 16 = .ok (.aload_n 0, 1) := by decide +kernel
theorem dX3_pack_17 : decode cX3_pack 17 = .ok (.getfield 10, 3) := by decide +kernel
theorem dX3_pack_20 : decode cX3_pack 20 = .ok (.getfield 31, 3) := by decide +kernel
theorem dX3_pack_23 : decode cX3_pack 23 = .ok (.iconst 0, 1) := by decide +kernel
theorem dX3_pack_24 : decode cX3_pack 24 = .ok (.iaload, 1) := by decide +kernel
theorem dX3_pack_25 : decode cX3_pack 25 = .ok (.if_icmp .gt 16, 3) := by decide +kernel
theorem dX3_pack_28 : decode cX3_pack 28 = .ok (.iload_n 3, 1) := by decide +kernel
theorem dX3_pack_29 : decode cX3_pack 29 = .ok (.aload_n 0, 1) := by decide +kernel
theorem dX3_pack_30 : decode cX3_pack 30 = .ok (.getfield 10, 3) := by decide +kernel
theorem dX3_pack_33 : decode cX3_pack 33 = .ok (.getfield 31, 3) := by decide +kernel
theorem dX3_pack_36 : decode cX3_pack 36 = .ok (.iconst 1, 1) := by decide +kernel
theorem dX3_pack_37 : decode cX3_pack 37 = .ok (.iaload, 1) := by decide +kernel
theorem dX3_pack_38 : decode cX3_pack 38 = .ok (.if_icmp .le 13, 3) := by decide +kernel
theorem dX3_pack_41 : decode cX3_pack 41 = .ok (.new 55, 3) := by decide +kernel
theorem dX3_pack_44 : decode cX3_pack 44 = .ok (.dup, 1) := by decide +kernel
theorem dX3_pack_45 : decode cX3_pack 45 = .ok (.ldc 73, 2) := by decide +kernel
theorem dX3_pack_47 : decode cX3_pack 47 = .ok (.invokespecial 59, 3) := by decide +kernel
theorem dX3_pack_50 : decode cX3_pack 50 = .ok (.athrow, 1) := by decide +kernel
theorem dX3_pack_51 : decode cX3_pack 51 = .ok (.aload_n 0, 1) := by decide +kernel
theorem dX3_pack_52 : decode cX3_pack 52 = .ok (.getfield 10, 3) := by decide +kernel
theorem dX3_pack_55 : decode cX3_pack 55 = .ok (.getfield 31, 3) := by decide +kernel
theorem dX3_pack_58 : decode cX3_pack 58 = .ok (.iconst 0, 1) := by decide +kernel
theorem dX3_pack_59 : decode cX3_pack 59 = .ok (.dup2, 1) := by decide +kernel
theorem dX3_pack_60 : decode cX3_pack 60 = .ok (.iaload, 1) := by decide +kernel
theorem dX3_pack_61 : decode cX3_pack 61 = .ok (.iload_n 2, 1) := by decide +kernel
theorem dX3_pack_62 : decode cX3_pack 62 = .ok (.isub, 1) := by decide +kernel
theorem dX3_pack_63 : decode cX3_pack 63 = .ok (.iastore, 1) := by decide +kernel
theorem dX3_pack_64 : decode cX3_pack 64 = .ok (.aload_n 0, 1) := by decide +kernel
theorem dX3_pack_65 : decode cX3_pack 65 = .ok (.getfield 10, 3) := by decide +kernel
theorem dX3_pack_68 : decode cX3_pack 68 = .ok (.getfield 31, 3) := by decide +kernel
theorem dX3_pack_71 : decode cX3_pack 71 = .ok (.iconst 1, 1) := by decide +kernel
theorem dX3_pack_72 : decode cX3_pack 72 = .ok (.dup2, 1) := by decide +kernel
theorem dX3_pack_73 : decode cX3_pack 73 = .ok (.iaload, 1) := by decide +kernel
theorem dX3_pack_74 : decode cX3_pack 74 = .ok (.iload_n 3, 1) := by decide +kernel
theorem dX3_pack_75 : decode cX3_pack 75 = .ok (.isub, 1) := by decide +kernel
theorem dX3_pack_76 : decode cX3_pack 76 = .ok (.iastore, 1) := by decide +kernel
theorem dX3_pack_77 : decode cX3_pack 77 = .ok (.aload 4, 2) := by decide +kernel
theorem dX3_pack_79 : decode cX3_pack 79 = .ok (.aload 4, 2) := by decide +kernel
theorem dX3_pack_81 : decode cX3_pack 81 = .ok (.getfield 75, 3) := by decide +kernel
theorem dX3_pack_84 : decode cX3_pack 84 = .ok (.iload_n 2, 1) := by decide +kernel
theorem dX3_pack_85 : decode cX3_pack 85 = .ok (.iload_n 3, 1) := by decide +kernel
theorem dX3_pack_86 : decode cX3_pack 86 = .ok (.invokestatic 80, 3) := by decide +kernel
theorem dX3_pack_89 : decode cX3_pack 89 = .ok (.putfield 75, 3) := by decide +kernel
theorem dX3_pack_92 : decode cX3_pack 92 = .ok (.aload 4, 2) := by decide +kernel
theorem dX3_pack_94 : decode cX3_pack 94 = .ok (.getfield 75, 3) := by decide +kernel
theorem dX3_pack_97 : decode cX3_pack 97 = .ok (.ireturn, 1) := by decide +kernel
set_option maxRecDepth 20000 in
theorem ggX3_pour_X3_existingChurn : GoodIn wsX3_pour wsX3_existingChurn := goodIn_ca (goodIn_r _ [10, 11, 12, 5, 20, 21, 22, 23, 24, 25, 26, 27, 28, 29, 30] (by decide +kernel) (by decide +kernel)) (goodIn_sub (fun _ h => List.mem_cons_of_mem _ (List.mem_append_right _ h)) (by decide +kernel))
set_option maxRecDepth 20000 in
theorem gX3_pour_X3_existingChurn : GoodIn wsX3_pour (wsV RX3 65 RX3 yX3_existingChurn wsX3_existingChurn) := goodIn_app (goodIn_of _ (by decide +kernel)) ggX3_pour_X3_existingChurn
set_option maxRecDepth 20000 in
theorem ggX3_pour_X1_add : GoodIn wsX3_pour wsX1_add := goodIn_r _ [17, 18, 19, 31, 32, 33] (by decide +kernel) (by decide +kernel)
set_option maxRecDepth 20000 in
theorem gX3_pour_X1_add : GoodIn wsX3_pour (wsV RX3 93 RX1 yX1_add wsX1_add) := goodIn_app (goodIn_of _ (by decide +kernel)) ggX3_pour_X1_add
theorem dX3_pour_0 : decode cX3_pour 0 = .ok (.aload_n 0, 1) := by decide +kernel
theorem dX3_pour_1 : decode cX3_pour 1 = .ok (.iload_n 1, 1) := by decide +kernel
theorem dX3_pour_2 : decode cX3_pour 2 = .ok (.invokevirtual 65, 3) := by decide +kernel
theorem dX3_pour_5 : decode cX3_pour 5 = .ok (.astore_n 3, 1) := by decide +kernel
theorem dX3_pour_6 : decode cX3_pour 6 = .ok (.iload_n 2, 1) := by decide +kernel
theorem dX3_pour_7 : decode cX3_pour 7 = .ok (.iconst 1, 1) := by decide +kernel
theorem dX3_pour_8 : decode cX3_pour 8 = .ok (.if_icmp .lt 9, 3) := by decide +kernel
theorem dX3_pour_11 : decode cX3_pour 11 = .ok (.iload_n 2, 1) := by decide +kernel
theorem dX3_pour_12 : decode cX3_pour 12 = .ok (.bipush 20, 2) := by decide +kernel
theorem dX3_pour_14 : decode cX3_pour 14 = .ok (.if_icmp .le 13, 3) := by decide +kernel
theorem dX3_pour_17 : decode cX3_pour 17 = .ok (.new 26, 3) := by decide +kernel
theorem dX3_pour_20 : decode cX3_pour 20 = .ok (.dup, 1) := by decide +kernel
theorem dX3_pour_21 : decode cX3_pour 21 = .ok (.ldc 84, 2) := by decide +kernel
theorem dX3_pour_23 : decode cX3_pour 23 = .ok (.invokespecial 30, 3) := by decide +kernel
theorem dX3_pour_26 : decode cX3_pour 26 = .ok (.athrow, 1) := by decide +kernel
theorem dX3_pour_27 : decode cX3_pour 27 = .ok (.iload_n 2, 1) := by decide +kernel
theorem dX3_pour_28 : decode cX3_pour 28 = .ok (.aload_n 0, 1) := by decide +kernel
theorem dX3_pour_29 : decode cX3_pour 29 = .ok (.getfield 10, 3) := by decide +kernel
theorem dX3_pour_32 : decode cX3_pour 32 = .ok (.getfield 31, 3) := by decide +kernel
theorem dX3_pour_35 : decode cX3_pour 35 = .ok (.iconst 2, 1) := by decide +kernel
theorem dX3_pour_36 : decode cX3_pour 36 = .ok (.iaload, 1) := by decide +kernel
theorem dX3_pour_37 : decode cX3_pour 37 = .ok (.if_icmp .le 13, 3) := by decide +kernel
theorem dX3_pour_40 : decode cX3_pour 40 = .ok (.new 55, 3) := by decide +kernel
theorem dX3_pour_43 : decode cX3_pour 43 = .ok (.dup, 1) := by decide +kernel
theorem dX3_pour_44 : decode cX3_pour 44 = .ok (.ldc 86, 2) := by decide +kernel
theorem dX3_pour_46 : decode cX3_pour 46 = .ok (.invokespecial 59, 3) := by decide +kernel
theorem dX3_pour_49 : decode cX3_pour 49 = .ok (.athrow, 1) := by decide +kernel
theorem dX3_pour_50 : decode cX3_pour 50 = .ok (.aload_n 3, 1) := by decide +kernel
theorem dX3_pour_51 : decode cX3_pour 51 = .ok (.getfield 88, 3) := by decide +kernel
theorem dX3_pour_54 : decode cX3_pour 54 = .ok (.iload_n 2, 1) := by decide +kernel
theorem dX3_pour_55 : decode cX3_pour 55 = .ok (.iadd, 1) := by decide +kernel
theorem dX3_pour_56 : decode cX3_pour 56 = .ok (.bipush 20, 2) := by decide +kernel
theorem dX3_pour_58 : decode cX3_pour 58 = .ok (.if_icmp .le 13, 3) := by decide +kernel
theorem dX3_pour_61 : decode cX3_pour 61 = .ok (.new 55, 3) := by decide +kernel
theorem dX3_pour_64 : decode cX3_pour 64 = .ok (.dup, 1) := by decide +kernel
theorem dX3_pour_65 : decode cX3_pour 65 = .ok (.ldc 91, 2) := by decide +kernel
theorem dX3_pour_67 : decode cX3_pour 67 = .ok (.invokespecial 59, 3) := by decide +kernel
theorem dX3_pour_70 : decode cX3_pour 70 = .ok (.athrow, 1) := by decide +kernel
theorem dX3_pour_71 : decode cX3_pour 71 = .ok (.aload_n 0, 1) := by decide +kernel
theorem dX3_pour_72 : decode cX3_pour 72 = .ok (.getfield 10, 3) := by decide +kernel
theorem dX3_pour_75 : decode cX3_pour 75 = .ok (.getfield 31, 3) := by decide +kernel
theorem dX3_pour_78 : decode cX3_pour 78 = .ok (.iconst 2, 1) := by decide +kernel
theorem dX3_pour_79 : decode cX3_pour 79 = .ok (.dup2, 1) := by decide +kernel
theorem dX3_pour_80 : decode cX3_pour 80 = .ok (.iaload, 1) := by decide +kernel
theorem dX3_pour_81 : decode cX3_pour 81 = .ok (.iload_n 2, 1) := by decide +kernel
theorem dX3_pour_82 : decode cX3_pour 82 = .ok (.isub, 1) := by decide +kernel
theorem dX3_pour_83 : decode cX3_pour 83 = .ok (.iastore, 1) := by decide +kernel
theorem dX3_pour_84 : decode cX3_pour 84 = .ok (.aload_n 3, 1) := by decide +kernel
theorem dX3_pour_85 : decode cX3_pour 85 = .ok (.iload_n 2, 1) := by decide +kernel
theorem dX3_pour_86 : decode cX3_pour 86 = .ok (.invokevirtual 93, 3) := by decide +kernel
theorem dX3_pour_89 : decode cX3_pour 89 = .ok (.aload_n 3, 1) := by decide +kernel
theorem dX3_pour_90 : decode cX3_pour 90 = .ok (.getfield 96, 3) := by decide +kernel
theorem dX3_pour_93 : decode cX3_pour 93 = .ok (.ireturn, 1) := by decide +kernel
set_option maxRecDepth 20000 in
theorem ggX3_scoop_X3_existingChurn : GoodIn wsX3_scoop wsX3_existingChurn := goodIn_ca (goodIn_r _ [7, 8, 9, 10, 35, 36, 37, 38, 39, 40, 41, 42, 43, 44, 45] (by decide +kernel) (by decide +kernel)) (goodIn_sub (fun _ h => List.mem_cons_of_mem _ (List.mem_append_right _ h)) (by decide +kernel))
set_option maxRecDepth 20000 in
theorem gX3_scoop_X3_existingChurn : GoodIn wsX3_scoop (wsV RX3 65 RX3 yX3_existingChurn wsX3_existingChurn) := goodIn_app (goodIn_of _ (by decide +kernel)) ggX3_scoop_X3_existingChurn
set_option maxRecDepth 20000 in
theorem ggX3_scoop_X3_existingTub : GoodIn wsX3_scoop wsX3_existingTub := goodIn_ca (goodIn_r _ [14, 8, 9, 10, 35, 36, 37, 38, 39, 40, 41, 42, 43, 44, 45] (by decide +kernel) (by decide +kernel)) (goodIn_sub (fun _ h => List.mem_cons_of_mem _ (List.mem_append_right _ h)) (by decide +kernel))
set_option maxRecDepth 20000 in
theorem gX3_scoop_X3_existingTub : GoodIn wsX3_scoop (wsV RX3 99 RX3 yX3_existingTub wsX3_existingTub) := goodIn_app (goodIn_of _ (by decide +kernel)) ggX3_scoop_X3_existingTub
set_option maxRecDepth 20000 in
theorem ggX3_scoop_X2_take : GoodIn wsX3_scoop wsX2_take := goodIn_r _ [19, 20, 21, 22, 23, 24, 25, 26, 27, 28, 32, 33, 34] (by decide +kernel) (by decide +kernel)
set_option maxRecDepth 20000 in
theorem gX3_scoop_X2_take : GoodIn wsX3_scoop (wsV RX3 105 RX2 yX2_take wsX2_take) := goodIn_app (goodIn_of _ (by decide +kernel)) ggX3_scoop_X2_take
theorem dX3_scoop_0 : decode cX3_scoop 0 = .ok (.aload_n 0, 1) := by decide +kernel
theorem dX3_scoop_1 : decode cX3_scoop 1 = .ok (.iload_n 1, 1) := by decide +kernel
theorem dX3_scoop_2 : decode cX3_scoop 2 = .ok (.invokevirtual 65, 3) := by decide +kernel
theorem dX3_scoop_5 : decode cX3_scoop 5 = .ok (.astore_n 3, 1) := by decide +kernel
theorem dX3_scoop_6 : decode cX3_scoop 6 = .ok (.aload_n 0, 1) := by decide +kernel
theorem dX3_scoop_7 : decode cX3_scoop 7 = .ok (.iload_n 2, 1) := by decide +kernel
theorem dX3_scoop_8 : decode cX3_scoop 8 = .ok (.invokevirtual 99, 3) := by decide +kernel
theorem dX3_scoop_11 : decode cX3_scoop 11 = .ok (.astore 4, 2) := by decide +kernel
theorem dX3_scoop_13 : decode cX3_scoop 13 = .ok (.aload_n 3, 1) := by decide +kernel
theorem dX3_scoop_14 : decode cX3_scoop 14 = .ok (.getfield 88, 3) := by decide +kernel
theorem dX3_scoop_17 : decode cX3_scoop 17 = .ok (.ifCond .eq 12, 3) := by decide +kernel
theorem dX3_scoop_20 : decode cX3_scoop 20 = .ok (.aload_n 3, 1) := by decide +kernel
theorem dX3_scoop_21 : decode cX3_scoop 21 = .ok (.getfield 96, 3) := by decide +kernel
theorem dX3_scoop_24 : decode cX3_scoop 24 = .ok (.bipush 50, 2) := by decide +kernel
theorem dX3_scoop_26 : decode cX3_scoop 26 = .ok (.if_icmp .ge 13, 3) := by decide +kernel
theorem dX3_scoop_29 : decode cX3_scoop 29 = .ok (.new 55, 3) := by decide +kernel
theorem dX3_scoop_32 : decode cX3_scoop 32 = .ok (.dup, 1) := by decide +kernel
theorem dX3_scoop_33 : decode cX3_scoop 33 = .ok (.ldc 103, 2) := by decide +kernel
theorem dX3_scoop_35 : decode cX3_scoop 35 = .ok (.invokespecial 59, 3) := by decide +kernel
theorem dX3_scoop_38 : decode cX3_scoop 38 = .ok (.athrow, 1) := by decide +kernel
theorem dX3_scoop_39 : decode cX3_scoop 39 = .ok (.aload 4, 2) := by decide +kernel
theorem dX3_scoop_41 : decode cX3_scoop 41 = .ok (.aload_n 3, 1) := by decide +kernel
theorem dX3_scoop_42 : decode cX3_scoop 42 = .ok (.getfield 88, 3) := by decide +kernel
theorem dX3_scoop_45 : decode cX3_scoop 45 = .ok (.aload_n 3, 1) := by decide +kernel
theorem dX3_scoop_46 : decode cX3_scoop 46 = .ok (.getfield 96, 3) := by decide +kernel
theorem dX3_scoop_49 : decode cX3_scoop 49 = .ok (.invokevirtual 105, 3) := by decide +kernel
theorem dX3_scoop_52 : decode cX3_scoop 52 = .ok (.aload_n 3, 1) := by decide +kernel
theorem dX3_scoop_53 : decode cX3_scoop 53 = .ok (.iconst 0, 1) := by decide +kernel
theorem dX3_scoop_54 : decode cX3_scoop 54 = .ok (.putfield 88, 3) := by decide +kernel
theorem dX3_scoop_57 : decode cX3_scoop 57 = .ok (.aload_n 3, 1) := by decide +kernel
theorem dX3_scoop_58 : decode cX3_scoop 58 = .ok (.iconst 0, 1) := by decide +kernel
theorem dX3_scoop_59 : decode cX3_scoop 59 = .ok (.putfield 96, 3) := by decide +kernel
theorem dX3_scoop_62 : decode cX3_scoop 62 = .ok (.aload 4, 2) := by decide +kernel
theorem dX3_scoop_64 : decode cX3_scoop 64 = .ok (.getfield 111, 3) := by decide +kernel
theorem dX3_scoop_67 : decode cX3_scoop 67 = .ok (.ireturn, 1) := by decide +kernel
set_option maxRecDepth 20000 in
theorem ggX3_told_X3_existingChurn : GoodIn wsX3_told wsX3_existingChurn := goodIn_ca (goodIn_r _ [7, 1, 2, 8, 17, 18, 19, 20, 21, 22, 23, 24, 25, 26, 27] (by decide +kernel) (by decide +kernel)) (goodIn_sub (fun _ h => List.mem_cons_of_mem _ (List.mem_append_right _ h)) (by decide +kernel))
set_option maxRecDepth 20000 in
theorem gX3_told_X3_existingChurn : GoodIn wsX3_told (wsV RX3 65 RX3 yX3_existingChurn wsX3_existingChurn) := goodIn_app (goodIn_of _ (by decide +kernel)) ggX3_told_X3_existingChurn
set_option maxRecDepth 20000 in
theorem ggX3_told_X1_number : GoodIn wsX3_told wsX1_number := goodIn_r _ [13, 14, 15, 16, 28, 29, 30] (by decide +kernel) (by decide +kernel)
set_option maxRecDepth 20000 in
theorem gX3_told_X1_number : GoodIn wsX3_told (wsV RX3 116 RX1 yX1_number wsX1_number) := goodIn_app (goodIn_of _ (by decide +kernel)) ggX3_told_X1_number
theorem dX3_told_0 : decode cX3_told 0 = .ok (.aload_n 0, 1) := by decide +kernel
theorem dX3_told_1 : decode cX3_told 1 = .ok (.iload_n 1, 1) := by decide +kernel
theorem dX3_told_2 : decode cX3_told 2 = .ok (.invokevirtual 65, 3) := by decide +kernel
theorem dX3_told_5 : decode cX3_told 5 = .ok (.astore_n 3, 1) := by decide +kernel
theorem dX3_told_6 : decode cX3_told 6 = .ok (.iload_n 2, 1) := by decide +kernel
theorem dX3_told_7 : decode cX3_told 7 = .ok (.ifCond .lt 8, 3) := by decide +kernel
theorem dX3_told_10 : decode cX3_told 10 = .ok (.iload_n 2, 1) := by decide +kernel
theorem dX3_told_11 : decode cX3_told 11 = .ok (.iconst 3, 1) := by decide +kernel
theorem dX3_told_12 : decode cX3_told 12 = .ok (.if_icmp .lt 13, 3) := by decide +kernel
theorem dX3_told_15 : decode cX3_told 15 = .ok (.new 19, 3) := by decide +kernel
theorem dX3_told_18 : decode cX3_told 18 = .ok (.dup, 1) := by decide +kernel
theorem dX3_told_19 : decode cX3_told 19 = .ok (.ldc 114, 2) := by decide +kernel
theorem dX3_told_21 : decode cX3_told 21 = .ok (.invokespecial 23, 3) := by decide +kernel
theorem dX3_told_24 : decode cX3_told 24 = .ok (.athrow, 1) := by decide +kernel
theorem dX3_told_25 : decode cX3_told 25 = .ok (.aload_n 3, 1) := by decide +kernel
theorem dX3_told_26 : decode cX3_told 26 = .ok (.iload_n 2, 1) := by decide +kernel
theorem dX3_told_27 : decode cX3_told 27 = .ok (.invokevirtual 116, 3) := by decide +kernel
theorem dX3_told_30 : decode cX3_told 30 = .ok (.ireturn, 1) := by decide +kernel
set_option maxRecDepth 20000 in
theorem ggX3_about_X3_existingTub : GoodIn wsX3_about wsX3_existingTub := goodIn_ca (goodIn_r _ [7, 1, 2, 8, 17, 18, 19, 20, 21, 22, 23, 24, 25, 26, 27] (by decide +kernel) (by decide +kernel)) (goodIn_sub (fun _ h => List.mem_cons_of_mem _ (List.mem_append_right _ h)) (by decide +kernel))
set_option maxRecDepth 20000 in
theorem gX3_about_X3_existingTub : GoodIn wsX3_about (wsV RX3 99 RX3 yX3_existingTub wsX3_existingTub) := goodIn_app (goodIn_of _ (by decide +kernel)) ggX3_about_X3_existingTub
set_option maxRecDepth 20000 in
theorem ggX3_about_X2_number : GoodIn wsX3_about wsX2_number := goodIn_r _ [13, 14, 15, 16, 28, 29, 30] (by decide +kernel) (by decide +kernel)
set_option maxRecDepth 20000 in
theorem gX3_about_X2_number : GoodIn wsX3_about (wsV RX3 120 RX2 yX2_number wsX2_number) := goodIn_app (goodIn_of _ (by decide +kernel)) ggX3_about_X2_number
theorem dX3_about_0 : decode cX3_about 0 = .ok (.aload_n 0, 1) := by decide +kernel
theorem dX3_about_1 : decode cX3_about 1 = .ok (.iload_n 1, 1) := by decide +kernel
theorem dX3_about_2 : decode cX3_about 2 = .ok (.invokevirtual 99, 3) := by decide +kernel
theorem dX3_about_5 : decode cX3_about 5 = .ok (.astore_n 3, 1) := by decide +kernel
theorem dX3_about_6 : decode cX3_about 6 = .ok (.iload_n 2, 1) := by decide +kernel
theorem dX3_about_7 : decode cX3_about 7 = .ok (.ifCond .lt 8, 3) := by decide +kernel
theorem dX3_about_10 : decode cX3_about 10 = .ok (.iload_n 2, 1) := by decide +kernel
theorem dX3_about_11 : decode cX3_about 11 = .ok (.iconst 3, 1) := by decide +kernel
theorem dX3_about_12 : decode cX3_about 12 = .ok (.if_icmp .lt 13, 3) := by decide +kernel
theorem dX3_about_15 : decode cX3_about 15 = .ok (.new 19, 3) := by decide +kernel
theorem dX3_about_18 : decode cX3_about 18 = .ok (.dup, 1) := by decide +kernel
theorem dX3_about_19 : decode cX3_about 19 = .ok (.ldc 114, 2) := by decide +kernel
theorem dX3_about_21 : decode cX3_about 21 = .ok (.invokespecial 23, 3) := by decide +kernel
theorem dX3_about_24 : decode cX3_about 24 = .ok (.athrow, 1) := by decide +kernel
theorem dX3_about_25 : decode cX3_about 25 = .ok (.aload_n 3, 1) := by decide +kernel
theorem dX3_about_26 : decode cX3_about 26 = .ok (.iload_n 2, 1) := by decide +kernel
theorem dX3_about_27 : decode cX3_about 27 = .ok (.invokevirtual 120, 3) := by decide +kernel
theorem dX3_about_30 : decode cX3_about 30 = .ok (.ireturn, 1) := by decide +kernel
set_option maxRecDepth 20000 in
theorem ggX3_count_X0_number : GoodIn wsX3_count wsX0_number := goodIn_r _ [8, 9, 10, 11, 12, 13, 14, 15, 7, 16, 17, 18, 19, 20, 21, 22, 23, 24, 25, 26, 27, 28, 29, 30, 31, 34, 35, 36, 37, 38, 39, 40, 41, 42, 43, 44, 45] (by decide +kernel) (by decide +kernel)
set_option maxRecDepth 20000 in
theorem gX3_count_X0_number : GoodIn wsX3_count (wsV RX3 123 RX0 yX0_number wsX0_number) := goodIn_app (goodIn_of _ (by decide +kernel)) ggX3_count_X0_number
theorem dX3_count_0 : decode cX3_count 0 = .ok (.iload_n 1, 1) := by decide +kernel
theorem dX3_count_1 : decode cX3_count 1 = .ok (.ifCond .lt 9, 3) := by decide +kernel
theorem dX3_count_4 : decode cX3_count 4 = .ok (.iload_n 1, 1) := by decide +kernel
theorem dX3_count_5 : decode cX3_count 5 = .ok (.bipush 10, 2) := by decide +kernel
theorem dX3_count_7 : decode cX3_count 7 = .ok (.if_icmp .lt 13, 3) := by decide +kernel
theorem dX3_count_10 : decode cX3_count 10 = .ok (.new 19, 3) := by decide +kernel
theorem dX3_count_13 : decode cX3_count 13 = .ok (.dup, 1) := by decide +kernel
theorem dX3_count_14 : decode cX3_count 14 = .ok (.ldc 121, 2) := by decide +kernel
theorem dX3_count_16 : decode cX3_count 16 = .ok (.invokespecial 23, 3) := by decide +kernel
theorem dX3_count_19 : decode cX3_count 19 = .ok (.athrow, 1) := by decide +kernel
theorem dX3_count_20 : decode cX3_count 20 = .ok (.aload_n 0, 1) := by decide +kernel
theorem dX3_count_21 : decode cX3_count 21 = .ok (.getfield 10, 3) := by decide +kernel
theorem dX3_count_24 : decode cX3_count 24 = .ok (.iload_n 1, 1) := by decide +kernel
theorem dX3_count_25 : decode cX3_count 25 = .ok (.invokevirtual 123, 3) := by decide +kernel
theorem dX3_count_28 : decode cX3_count 28 = .ok (.ireturn, 1) := by decide +kernel
set_option maxRecDepth 20000 in
theorem ggX3_next_X0_sellingTub : GoodIn wsX3_next wsX0_sellingTub := goodIn_r _ [6, 7, 8, 11, 12, 13, 14, 15, 16, 17, 18, 19, 20, 21, 22] (by decide +kernel) (by decide +kernel)
set_option maxRecDepth 20000 in
theorem gX3_next_X0_sellingTub : GoodIn wsX3_next (wsV RX3 124 RX0 yX0_sellingTub wsX0_sellingTub) := goodIn_app (goodIn_of _ (by decide +kernel)) ggX3_next_X0_sellingTub
theorem dX3_next_0 : decode cX3_next 0 = .ok (.aload_n 0, 1) := by decide +kernel
theorem dX3_next_1 : decode cX3_next 1 = .ok (.getfield 10, 3) := by decide +kernel
theorem dX3_next_4 : decode cX3_next 4 = .ok (.invokevirtual 124, 3) := by decide +kernel
theorem dX3_next_7 : decode cX3_next 7 = .ok (.ireturn, 1) := by decide +kernel
