theorem dX1_init_0 : decode cX1_init 0 = .ok (.aload_n 0, 1) := by decide +kernel
theorem dX1_init_1 : decode cX1_init 1 = .ok (.invokespecial 1, 3) := by decide +kernel
theorem dX1_init_4 : decode cX1_init 4 = .ok (.return_, 1) := by decide +kernel
theorem dX1_number_0 : decode cX1_number 0 = .ok (.iload_n 1, 1) := by decide +kernel
theorem dX1_number_1 : decode cX1_number 1 = .ok (.lookupswitch 37 #[(0, 27), (1, 32)], 27) := by decide +kernel
theorem dX1_number_28 : decode cX1_number 28 = .ok (.aload_n 0, 1) := by decide +kernel
theorem dX1_number_29 : decode cX1_number 29 = .ok (.getfield 7, 3) := by decide +kernel
theorem dX1_number_32 : decode cX1_number 32 = .ok (.ireturn, 1) := by decide +kernel
theorem dX1_number_33 : decode cX1_number 33 = .ok (.aload_n 0, 1) := by decide +kernel
theorem dX1_number_34 : decode cX1_number 34 = .ok (.getfield 13, 3) := by decide +kernel
theorem dX1_number_37 : decode cX1_number 37 = .ok (.ireturn, 1) := by decide +kernel
theorem dX1_number_38 : decode cX1_number 38 = .ok (.aload_n 0, 1) := by decide +kernel
theorem dX1_number_39 : decode cX1_number 39 = .ok (.getfield 16, 3) := by decide +kernel
theorem dX1_number_42 : decode cX1_number 42 = .ok (.ireturn, 1) := by decide +kernel
theorem dX1_add_0 : decode cX1_add 0 = .ok (.aload_n 0, 1) := by decide +kernel
theorem dX1_add_1 : decode cX1_add 1 = .ok (.getfield 13, 3) := by decide +kernel
theorem dX1_add_4 : decode cX1_add 4 = .ok (.istore_n 2, 1) := by decide +kernel
theorem dX1_add_5 : decode cX1_add 5 = .ok (.aload_n 0, 1) := by decide +kernel
theorem dX1_add_6 : decode cX1_add 6 = .ok (.iload_n 2, 1) := by decide +kernel
theorem dX1_add_7 : decode cX1_add 7 = .ok (.iload_n 1, 1) := by decide +kernel
theorem dX1_add_8 : decode cX1_add 8 = .ok (.iadd, 1) := by decide +kernel
theorem dX1_add_9 : decode cX1_add 9 = .ok (.putfield 13, 3) := by decide +kernel
theorem dX1_add_12 : decode cX1_add 12 = .ok (.aload_n 0, 1) := by decide +kernel
theorem dX1_add_13 : decode cX1_add 13 = .ok (.aload_n 0, 1) := by decide +kernel
theorem dX1_add_14 : decode cX1_add 14 = .ok (.getfield 13, 3) := by decide +kernel
theorem dX1_add_17 : decode cX1_add 17 = .ok (.ifCond .ne 7, 3) := by decide +kernel
theorem dX1_add_20 : decode cX1_add 20 = .ok (.iconst 0, 1) := by decide +kernel
theorem dX1_add_21 : decode cX1_add 21 = .ok (.goto 14, 3) := by decide +kernel
theorem dX1_add_24 : decode cX1_add 24 = .ok (.aload_n 0, 1) := by decide +kernel
theorem dX1_add_25 : decode cX1_add 25 = .ok (.getfield 16, 3) := by decide +kernel
theorem dX1_add_28 : decode cX1_add 28 = .ok (.iload_n 2, 1) := by decide +kernel
theorem dX1_add_29 : decode cX1_add 29 = .ok (.imul, 1) := by decide +kernel
theorem dX1_add_30 : decode cX1_add 30 = .ok (.aload_n 0, 1) := by decide +kernel
theorem dX1_add_31 : decode cX1_add 31 = .ok (.getfield 13, 3) := by decide +kernel
theorem dX1_add_34 : decode cX1_add 34 = .ok (.idiv, 1) := by decide +kernel
theorem dX1_add_35 : decode cX1_add 35 = .ok (.putfield 16, 3) := by decide +kernel
theorem dX1_add_38 : decode cX1_add 38 = .ok (.return_, 1) := by decide +kernel
set_option maxRecDepth 20000 in
theorem ggX1_turn_X3_firmAfterHour : GoodIn wsX1_turn wsX3_firmAfterHour := goodIn_r _ [6, 7, 8, 9, 10] (by decide +kernel) (by decide +kernel)
set_option maxRecDepth 20000 in
theorem gX1_turn_X3_firmAfterHour_n19 : GoodIn wsX1_turn (wsX3_firmAfterHour) := ggX1_turn_X3_firmAfterHour
set_option maxRecDepth 20000 in
theorem ggX1_turn_X3_coldAfterHour : GoodIn wsX1_turn wsX3_coldAfterHour := goodIn_r _ [12, 13, 14, 9, 15] (by decide +kernel) (by decide +kernel)
set_option maxRecDepth 20000 in
theorem gX1_turn_X3_coldAfterHour_n25 : GoodIn wsX1_turn (wsX3_coldAfterHour) := ggX1_turn_X3_coldAfterHour
theorem dX1_turn_0 : decode cX1_turn 0 = .ok (.aload_n 0, 1) := by decide +kernel
theorem dX1_turn_1 : decode cX1_turn 1 = .ok (.getfield 13, 3) := by decide +kernel
theorem dX1_turn_4 : decode cX1_turn 4 = .ok (.ifCond .le 18, 3) := by decide +kernel
theorem dX1_turn_7 : decode cX1_turn 7 = .ok (.aload_n 0, 1) := by decide +kernel
theorem dX1_turn_8 : decode cX1_turn 8 = .ok (.aload_n 0, 1) := by decide +kernel
theorem dX1_turn_9 : decode cX1_turn 9 = .ok (.getfield 16, 3) := by decide +kernel
theorem dX1_turn_12 : decode cX1_turn 12 = .ok (.aload_n 0, 1) := by decide +kernel
theorem dX1_turn_13 : decode cX1_turn 13 = .ok (.getfield 7, 3) := by decide +kernel
theorem dX1_turn_16 : decode cX1_turn 16 = .ok (.invokestatic 19, 3) := by decide +kernel
theorem dX1_turn_19 : decode cX1_turn 19 = .ok (.putfield 16, 3) := by decide +kernel
theorem dX1_turn_22 : decode cX1_turn 22 = .ok (.aload_n 0, 1) := by decide +kernel
theorem dX1_turn_23 : decode cX1_turn 23 = .ok (.aload_n 0, 1) := by decide +kernel
theorem dX1_turn_24 : decode cX1_turn 24 = .ok (.getfield 7, 3) := by decide +kernel
theorem dX1_turn_27 : decode cX1_turn 27 = .ok (.iload_n 1, 1) := by decide +kernel
theorem dX1_turn_28 : decode cX1_turn 28 = .ok (.invokestatic 25, 3) := by decide +kernel
theorem dX1_turn_31 : decode cX1_turn 31 = .ok (.putfield 7, 3) := by decide +kernel
theorem dX1_turn_34 : decode cX1_turn 34 = .ok (.return_, 1) := by decide +kernel
theorem dX1_copyFrom_0 : decode cX1_copyFrom 0 = .ok (.aload_n 0, 1) := by decide +kernel
theorem dX1_copyFrom_1 : decode cX1_copyFrom 1 = .ok (.aload_n 1, 1) := by decide +kernel
theorem dX1_copyFrom_2 : decode cX1_copyFrom 2 = .ok (.getfield 7, 3) := by decide +kernel
theorem dX1_copyFrom_5 : decode cX1_copyFrom 5 = .ok (.putfield 7, 3) := by decide +kernel
theorem dX1_copyFrom_8 : decode cX1_copyFrom 8 = .ok (.aload_n 0, 1) := by decide +kernel
theorem dX1_copyFrom_9 : decode cX1_copyFrom 9 = .ok (.aload_n 1, 1) := by decide +kernel
theorem dX1_copyFrom_10 : decode cX1_copyFrom 10 = .ok (.getfield 13, 3) := by decide +kernel
theorem dX1_copyFrom_13 : decode cX1_copyFrom 13 = .ok (.putfield 13, 3) := by decide +kernel
theorem dX1_copyFrom_16 : decode cX1_copyFrom 16 = .ok (.aload_n 0, 1) := by decide +kernel
theorem dX1_copyFrom_17 : decode cX1_copyFrom 17 = .ok (.aload_n 1, 1) := by decide +kernel
theorem dX1_copyFrom_18 : decode cX1_copyFrom 18 = .ok (.getfield 16, 3) := by decide +kernel
theorem dX1_copyFrom_21 : decode cX1_copyFrom 21 = .ok (.putfield 16, 3) := by decide +kernel
theorem dX1_copyFrom_24 : decode cX1_copyFrom 24 = .ok (.return_, 1) := by decide +kernel
theorem dX2_init_0 : decode cX2_init 0 = .ok (.aload_n 0, 1) := by decide +kernel
theorem dX2_init_1 : decode cX2_init 1 = .ok (.invokespecial 3, 3) := by decide +kernel
theorem dX2_init_4 : decode cX2_init 4 = .ok (.return_, 1) := by decide +kernel
theorem dX2_number_0 : decode cX2_number 0 = .ok (.iload_n 1, 1) := by decide +kernel
theorem dX2_number_1 : decode cX2_number 1 = .ok (.lookupswitch 37 #[(0, 27), (1, 32)], 27) := by decide +kernel
theorem dX2_number_28 : decode cX2_number 28 = .ok (.aload_n 0, 1) := by decide +kernel
theorem dX2_number_29 : decode cX2_number 29 = .ok (.getfield 9, 3) := by decide +kernel
theorem dX2_number_32 : decode cX2_number 32 = .ok (.ireturn, 1) := by decide +kernel
theorem dX2_number_33 : decode cX2_number 33 = .ok (.aload_n 0, 1) := by decide +kernel
theorem dX2_number_34 : decode cX2_number 34 = .ok (.getfield 15, 3) := by decide +kernel
theorem dX2_number_37 : decode cX2_number 37 = .ok (.ireturn, 1) := by decide +kernel
theorem dX2_number_38 : decode cX2_number 38 = .ok (.aload_n 0, 1) := by decide +kernel
theorem dX2_number_39 : decode cX2_number 39 = .ok (.getfield 18, 3) := by decide +kernel
theorem dX2_number_42 : decode cX2_number 42 = .ok (.ireturn, 1) := by decide +kernel
theorem dX2_take_0 : decode cX2_take 0 = .ok (.aload_n 0, 1) := by decide +kernel
theorem dX2_take_1 : decode cX2_take 1 = .ok (.bipush 60, 2) := by decide +kernel
theorem dX2_take_3 : decode cX2_take 3 = .ok (.aload_n 0, 1) := by decide +kernel
theorem dX2_take_4 : decode cX2_take 4 = .ok (.getfield 9, 3) := by decide +kernel
theorem dX2_take_7 : decode cX2_take 7 = .ok (.iconst 2, 1) := by decide +kernel
theorem dX2_take_8 : decode cX2_take 8 = .ok (.iload_n 1, 1) := by decide +kernel
theorem dX2_take_9 : decode cX2_take 9 = .ok (.imul, 1) := by decide +kernel
theorem dX2_take_10 : decode cX2_take 10 = .ok (.iadd, 1) := by decide +kernel
theorem dX2_take_11 : decode cX2_take 11 = .ok (.invokestatic 21, 3) := by decide +kernel
theorem dX2_take_14 : decode cX2_take 14 = .ok (.putfield 9, 3) := by decide +kernel
theorem dX2_take_17 : decode cX2_take 17 = .ok (.aload_n 0, 1) := by decide +kernel
theorem dX2_take_18 : decode cX2_take 18 = .ok (.aload_n 0, 1) := by decide +kernel
theorem dX2_take_19 : decode cX2_take 19 = .ok (.getfield 15, 3) := by decide +kernel
theorem dX2_take_22 : decode cX2_take 22 = .ok (.bipush 100, 2) := by decide +kernel
theorem dX2_take_24 : decode cX2_take 24 = .ok (.iload_n 2, 1) := by decide +kernel
theorem dX2_take_25 : decode cX2_take 25 = .ok (.isub, 1) := by decide +kernel
theorem dX2_take_26 : decode cX2_take 26 = .ok (.invokestatic 27, 3) := by decide +kernel
theorem dX2_take_29 : decode cX2_take 29 = .ok (.putfield 15, 3) := by decide +kernel
theorem dX2_take_32 : decode cX2_take 32 = .ok (.return_, 1) := by decide +kernel
theorem dX2_standInHeat_0 : decode cX2_standInHeat 0 = .ok (.aload_n 0, 1) := by decide +kernel
theorem dX2_standInHeat_1 : decode cX2_standInHeat 1 = .ok (.getfield 9, 3) := by decide +kernel
theorem dX2_standInHeat_4 : decode cX2_standInHeat 4 = .ok (.ifCond .ne 4, 3) := by decide +kernel
theorem dX2_standInHeat_7 : decode cX2_standInHeat 7 = .ok (.return_, 1) := by decide +kernel
theorem dX2_standInHeat_8 : decode cX2_standInHeat 8 = .ok (.iload_n 1, 1) := by decide +kernel
theorem dX2_standInHeat_9 : decode cX2_standInHeat 9 = .ok (.bipush 20, 2) := by decide +kernel
theorem dX2_standInHeat_11 : decode cX2_standInHeat 11 = .ok (.if_icmp .le 34, 3) := by decide +kernel
theorem dX2_standInHeat_14 : decode cX2_standInHeat 14 = .ok (.iload_n 2, 1) := by decide +kernel
theorem dX2_standInHeat_15 : decode cX2_standInHeat 15 = .ok (.bipush 100, 2) := by decide +kernel
theorem dX2_standInHeat_17 : decode cX2_standInHeat 17 = .ok (.if_icmp .ge 28, 3) := by decide +kernel
theorem dX2_standInHeat_20 : decode cX2_standInHeat 20 = .ok (.aload_n 0, 1) := by decide +kernel
theorem dX2_standInHeat_21 : decode cX2_standInHeat 21 = .ok (.bipush 100, 2) := by decide +kernel
theorem dX2_standInHeat_23 : decode cX2_standInHeat 23 = .ok (.aload_n 0, 1) := by decide +kernel
theorem dX2_standInHeat_24 : decode cX2_standInHeat 24 = .ok (.getfield 15, 3) := by decide +kernel
theorem dX2_standInHeat_27 : decode cX2_standInHeat 27 = .ok (.iload_n 1, 1) := by decide +kernel
theorem dX2_standInHeat_28 : decode cX2_standInHeat 28 = .ok (.bipush 20, 2) := by decide +kernel
theorem dX2_standInHeat_30 : decode cX2_standInHeat 30 = .ok (.isub, 1) := by decide +kernel
theorem dX2_standInHeat_31 : decode cX2_standInHeat 31 = .ok (.iconst 4, 1) := by decide +kernel
theorem dX2_standInHeat_32 : decode cX2_standInHeat 32 = .ok (.idiv, 1) := by decide +kernel
theorem dX2_standInHeat_33 : decode cX2_standInHeat 33 = .ok (.iadd, 1) := by decide +kernel
theorem dX2_standInHeat_34 : decode cX2_standInHeat 34 = .ok (.iconst 1, 1) := by decide +kernel
theorem dX2_standInHeat_35 : decode cX2_standInHeat 35 = .ok (.iadd, 1) := by decide +kernel
theorem dX2_standInHeat_36 : decode cX2_standInHeat 36 = .ok (.invokestatic 21, 3) := by decide +kernel
theorem dX2_standInHeat_39 : decode cX2_standInHeat 39 = .ok (.putfield 15, 3) := by decide +kernel
theorem dX2_standInHeat_42 : decode cX2_standInHeat 42 = .ok (.goto 17, 3) := by decide +kernel
theorem dX2_standInHeat_45 : decode cX2_standInHeat 45 = .ok (.aload_n 0, 1) := by decide +kernel
theorem dX2_standInHeat_46 : decode cX2_standInHeat 46 = .ok (.iconst 0, 1) := by decide +kernel
theorem dX2_standInHeat_47 : decode cX2_standInHeat 47 = .ok (.aload_n 0, 1) := by decide +kernel
theorem dX2_standInHeat_48 : decode cX2_standInHeat 48 = .ok (.getfield 15, 3) := by decide +kernel
theorem dX2_standInHeat_51 : decode cX2_standInHeat 51 = .ok (.iconst 1, 1) := by decide +kernel
theorem dX2_standInHeat_52 : decode cX2_standInHeat 52 = .ok (.isub, 1) := by decide +kernel
theorem dX2_standInHeat_53 : decode cX2_standInHeat 53 = .ok (.invokestatic 27, 3) := by decide +kernel
theorem dX2_standInHeat_56 : decode cX2_standInHeat 56 = .ok (.putfield 15, 3) := by decide +kernel
theorem dX2_standInHeat_59 : decode cX2_standInHeat 59 = .ok (.aload_n 0, 1) := by decide +kernel
theorem dX2_standInHeat_60 : decode cX2_standInHeat 60 = .ok (.getfield 15, 3) := by decide +kernel
theorem dX2_standInHeat_63 : decode cX2_standInHeat 63 = .ok (.bipush 100, 2) := by decide +kernel
theorem dX2_standInHeat_65 : decode cX2_standInHeat 65 = .ok (.if_icmp .ne 17, 3) := by decide +kernel
theorem dX2_standInHeat_68 : decode cX2_standInHeat 68 = .ok (.aload_n 0, 1) := by decide +kernel
theorem dX2_standInHeat_69 : decode cX2_standInHeat 69 = .ok (.iconst 0, 1) := by decide +kernel
theorem dX2_standInHeat_70 : decode cX2_standInHeat 70 = .ok (.aload_n 0, 1) := by decide +kernel
theorem dX2_standInHeat_71 : decode cX2_standInHeat 71 = .ok (.getfield 9, 3) := by decide +kernel
theorem dX2_standInHeat_74 : decode cX2_standInHeat 74 = .ok (.iconst 2, 1) := by decide +kernel
theorem dX2_standInHeat_75 : decode cX2_standInHeat 75 = .ok (.isub, 1) := by decide +kernel
theorem dX2_standInHeat_76 : decode cX2_standInHeat 76 = .ok (.invokestatic 27, 3) := by decide +kernel
theorem dX2_standInHeat_79 : decode cX2_standInHeat 79 = .ok (.putfield 9, 3) := by decide +kernel
theorem dX2_standInHeat_82 : decode cX2_standInHeat 82 = .ok (.return_, 1) := by decide +kernel
theorem dX2_sellScoop_0 : decode cX2_sellScoop 0 = .ok (.aload_n 0, 1) := by decide +kernel
theorem dX2_sellScoop_1 : decode cX2_sellScoop 1 = .ok (.dup, 1) := by decide +kernel
theorem dX2_sellScoop_2 : decode cX2_sellScoop 2 = .ok (.getfield 9, 3) := by decide +kernel
theorem dX2_sellScoop_5 : decode cX2_sellScoop 5 = .ok (.iconst 1, 1) := by decide +kernel
theorem dX2_sellScoop_6 : decode cX2_sellScoop 6 = .ok (.isub, 1) := by decide +kernel
theorem dX2_sellScoop_7 : decode cX2_sellScoop 7 = .ok (.putfield 9, 3) := by decide +kernel
theorem dX2_sellScoop_10 : decode cX2_sellScoop 10 = .ok (.aload_n 0, 1) := by decide +kernel
theorem dX2_sellScoop_11 : decode cX2_sellScoop 11 = .ok (.dup, 1) := by decide +kernel
theorem dX2_sellScoop_12 : decode cX2_sellScoop 12 = .ok (.getfield 18, 3) := by decide +kernel
theorem dX2_sellScoop_15 : decode cX2_sellScoop 15 = .ok (.iconst 1, 1) := by decide +kernel
theorem dX2_sellScoop_16 : decode cX2_sellScoop 16 = .ok (.iadd, 1) := by decide +kernel
theorem dX2_sellScoop_17 : decode cX2_sellScoop 17 = .ok (.putfield 18, 3) := by decide +kernel
theorem dX2_sellScoop_20 : decode cX2_sellScoop 20 = .ok (.aload_n 0, 1) := by decide +kernel
theorem dX2_sellScoop_21 : decode cX2_sellScoop 21 = .ok (.getfield 15, 3) := by decide +kernel
theorem dX2_sellScoop_24 : decode cX2_sellScoop 24 = .ok (.bipush 50, 2) := by decide +kernel
theorem dX2_sellScoop_26 : decode cX2_sellScoop 26 = .ok (.if_icmp .lt 7, 3) := by decide +kernel
theorem dX2_sellScoop_29 : decode cX2_sellScoop 29 = .ok (.iconst 2, 1) := by decide +kernel
theorem dX2_sellScoop_30 : decode cX2_sellScoop 30 = .ok (.goto 4, 3) := by decide +kernel
theorem dX2_sellScoop_33 : decode cX2_sellScoop 33 = .ok (.iconst 3, 1) := by decide +kernel
theorem dX2_sellScoop_34 : decode cX2_sellScoop 34 = .ok (.ireturn, 1) := by decide +kernel
theorem dX2_forgetSoftnessIfEmpty_0 : decode cX2_forgetSoftnessIfEmpty 0 = .ok (.aload_n 0, 1) := by decide +kernel
theorem dX2_forgetSoftnessIfEmpty_1 : decode cX2_forgetSoftnessIfEmpty 1 = .ok (.getfield 9, 3) := by decide +kernel
theorem dX2_forgetSoftnessIfEmpty_4 : decode cX2_forgetSoftnessIfEmpty 4 = .ok (.ifCond .ne 8, 3) := by decide +kernel
theorem dX2_forgetSoftnessIfEmpty_7 : decode cX2_forgetSoftnessIfEmpty 7 = .ok (.aload_n 0, 1) := by decide +kernel
theorem dX2_forgetSoftnessIfEmpty_8 : decode cX2_forgetSoftnessIfEmpty 8 = .ok (.iconst 0, 1) := by decide +kernel
theorem dX2_forgetSoftnessIfEmpty_9 : decode cX2_forgetSoftnessIfEmpty 9 = .ok (.putfield 15, 3) := by decide +kernel
theorem dX2_forgetSoftnessIfEmpty_12 : decode cX2_forgetSoftnessIfEmpty 12 = .ok (.return_, 1) := by decide +kernel
theorem dX2_copyFrom_0 : decode cX2_copyFrom 0 = .ok (.aload_n 0, 1) := by decide +kernel
theorem dX2_copyFrom_1 : decode cX2_copyFrom 1 = .ok (.aload_n 1, 1) := by decide +kernel
theorem dX2_copyFrom_2 : decode cX2_copyFrom 2 = .ok (.getfield 9, 3) := by decide +kernel
theorem dX2_copyFrom_5 : decode cX2_copyFrom 5 = .ok (.putfield 9, 3) := by decide +kernel
theorem dX2_copyFrom_8 : decode cX2_copyFrom 8 = .ok (.aload_n 0, 1) := by decide +kernel
theorem dX2_copyFrom_9 : decode cX2_copyFrom 9 = .ok (.aload_n 1, 1) := by decide +kernel
theorem dX2_copyFrom_10 : decode cX2_copyFrom 10 = .ok (.getfield 15, 3) := by decide +kernel
theorem dX2_copyFrom_13 : decode cX2_copyFrom 13 = .ok (.putfield 15, 3) := by decide +kernel
theorem dX2_copyFrom_16 : decode cX2_copyFrom 16 = .ok (.aload_n 0, 1) := by decide +kernel
theorem dX2_copyFrom_17 : decode cX2_copyFrom 17 = .ok (.aload_n 1, 1) := by decide +kernel
theorem dX2_copyFrom_18 : decode cX2_copyFrom 18 = .ok (.getfield 18, 3) := by decide +kernel
theorem dX2_copyFrom_21 : decode cX2_copyFrom 21 = .ok (.putfield 18, 3) := by decide +kernel
theorem dX2_copyFrom_24 : decode cX2_copyFrom 24 = .ok (.return_, 1) := by decide +kernel
