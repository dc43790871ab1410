set_option maxRecDepth 20000 in
theorem ggX3_pass_X3_checkHours : GoodIn wsX3_pass wsX3_checkHours := goodIn_ca (goodIn_r _ [5, 6, 7] (by decide +kernel) (by decide +kernel)) (goodIn_sub (fun _ h => List.mem_cons_of_mem _ (List.mem_append_right _ h)) (by decide +kernel))
set_option maxRecDepth 20000 in
theorem gX3_pass_X3_checkHours : GoodIn wsX3_pass (va_wsS RX3 128 yX3_checkHours wsX3_checkHours) := goodIn_app (goodIn_of _ (by decide +kernel)) ggX3_pass_X3_checkHours
set_option maxRecDepth 20000 in
theorem ggX3_pass_X0_runHours : GoodIn wsX3_pass wsX0_runHours := goodIn_r _ [12, 13, 14, 15, 11, 16, 17, 18, 19, 20, 21, 22, 23, 24, 25, 26, 27, 28, 29, 30, 31, 32, 33, 34, 35, 36, 37, 38, 39, 40, 4, 41, 42, 43, 44, 45, 46, 47, 48, 49, 50, 51, 52, 53, 54, 55, 56, 57, 58, 59, 60, 61, 62, 63, 64, 65, 66, 67, 68, 69, 70, 71, 72, 73, 74, 75, 76, 77, 78, 79, 80, 81, 82, 83, 84, 87, 88, 89, 90, 91, 92, 93, 94, 95, 96, 97, 98, 99, 100, 101] (by decide +kernel) (by decide +kernel)
set_option maxRecDepth 20000 in
theorem gX3_pass_X0_runHours : GoodIn wsX3_pass (wsV RX3 134 RX0 yX0_runHours wsX0_runHours) := goodIn_app (goodIn_of _ (by decide +kernel)) ggX3_pass_X0_runHours
theorem dX3_pass_0 : decode cX3_pass 0 = .ok (.iload_n 1, 1) := by decide +kernel
theorem dX3_pass_1 : decode cX3_pass 1 = .ok (.invokestatic 128, 3) := by decide +kernel
theorem dX3_pass_4 : decode cX3_pass 4 = .ok (.aload_n 0, 1) := by decide +kernel
theorem dX3_pass_5 : decode cX3_pass 5 = .ok (.getfield 10, 3) := by decide +kernel
theorem dX3_pass_8 : decode cX3_pass 8 = .ok (.getfield 131, 3) := by decide +kernel
theorem dX3_pass_11 : decode cX3_pass 11 = .ok (.istore_n 2, 1) := by decide +kernel
theorem dX3_pass_12 : decode cX3_pass 12 = .ok (.aload_n 0, 1) := by decide +kernel
theorem dX3_pass_13 : decode cX3_pass 13 = .ok (.getfield 10, 3) := by decide +kernel
theorem dX3_pass_16 : decode cX3_pass 16 = .ok (.iload_n 1, 1) := by decide +kernel
theorem dX3_pass_17 : decode cX3_pass 17 = .ok (.invokevirtual 134, 3) := by decide +kernel
theorem dX3_pass_20 : decode cX3_pass 20 = .ok (.aload_n 0, 1) := by decide +kernel
theorem dX3_pass_21 : decode cX3_pass 21 = .ok (.getfield 10, 3) := by decide +kernel
theorem dX3_pass_24 : decode cX3_pass 24 = .ok (.getfield 131, 3) := by decide +kernel
theorem dX3_pass_27 : decode cX3_pass 27 = .ok (.iload_n 2, 1) := by decide +kernel
theorem dX3_pass_28 : decode cX3_pass 28 = .ok (.isub, 1) := by decide +kernel
theorem dX3_pass_29 : decode cX3_pass 29 = .ok (.ireturn, 1) := by decide +kernel
set_option maxRecDepth 20000 in
theorem ggX3_done_X3_existingChurn : GoodIn wsX3_done wsX3_existingChurn := goodIn_ca (goodIn_r _ [6, 7, 8, 1, 35, 36, 37, 38, 39, 40, 41, 42, 43, 44, 45] (by decide +kernel) (by decide +kernel)) (goodIn_sub (fun _ h => List.mem_cons_of_mem _ (List.mem_append_right _ h)) (by decide +kernel))
set_option maxRecDepth 20000 in
theorem gX3_done_X3_existingChurn : GoodIn wsX3_done (wsV RX3 65 RX3 yX3_existingChurn wsX3_existingChurn) := goodIn_app (goodIn_of _ (by decide +kernel)) ggX3_done_X3_existingChurn
set_option maxRecDepth 20000 in
theorem ggX3_done_X0_hoursUntilFirm : GoodIn wsX3_done wsX0_hoursUntilFirm := goodIn_r _ [13, 14, 15, 5, 16, 17, 18, 19, 20, 21, 22, 23, 12, 24, 25, 26, 27, 28, 29, 30, 31, 32, 33, 34, 46, 47, 48, 37, 38, 39, 40, 41, 42, 43, 44, 45] (by decide +kernel) (by decide +kernel)
set_option maxRecDepth 20000 in
theorem gX3_done_X0_hoursUntilFirm : GoodIn wsX3_done (wsV RX3 137 RX0 yX0_hoursUntilFirm wsX0_hoursUntilFirm) := goodIn_app (goodIn_of _ (by decide +kernel)) ggX3_done_X0_hoursUntilFirm
theorem dX3_done_0 : decode cX3_done 0 = .ok (.aload_n 0, 1) := by decide +kernel
theorem dX3_done_1 : decode cX3_done 1 = .ok (.getfield 10, 3) := by decide +kernel
theorem dX3_done_4 : decode cX3_done 4 = .ok (.aload_n 0, 1) := by decide +kernel
theorem dX3_done_5 : decode cX3_done 5 = .ok (.iload_n 1, 1) := by decide +kernel
theorem dX3_done_6 : decode cX3_done 6 = .ok (.invokevirtual 65, 3) := by decide +kernel
theorem dX3_done_9 : decode cX3_done 9 = .ok (.invokevirtual 137, 3) := by decide +kernel
theorem dX3_done_12 : decode cX3_done 12 = .ok (.ireturn, 1) := by decide +kernel
set_option maxRecDepth 20000 in
theorem ggX3_foresee_X3_checkHours : GoodIn wsX3_foresee wsX3_checkHours := goodIn_ca (goodIn_r _ [8, 9, 10] (by decide +kernel) (by decide +kernel)) (goodIn_sub (fun _ h => List.mem_cons_of_mem _ (List.mem_append_right _ h)) (by decide +kernel))
set_option maxRecDepth 20000 in
theorem gX3_foresee_X3_checkHours : GoodIn wsX3_foresee (va_wsS RX3 128 yX3_checkHours wsX3_checkHours) := goodIn_app (goodIn_of _ (by decide +kernel)) ggX3_foresee_X3_checkHours
set_option maxRecDepth 20000 in
theorem ggX3_foresee_X0_copyFrom : GoodIn wsX3_foresee wsX0_copyFrom := goodIn_r _ [15, 16, 17, 18, 19, 20, 21, 22, 23, 24, 25, 26, 27, 28, 29, 30, 31, 32, 33, 34, 35, 36, 37, 38, 39, 40, 41, 42, 43, 44, 118, 119, 120, 121, 122, 123, 124, 125, 126, 127, 128, 129, 130, 131, 132] (by decide +kernel) (by decide +kernel)
set_option maxRecDepth 20000 in
theorem gX3_foresee_X0_copyFrom : GoodIn wsX3_foresee (wsV RX3 143 RX0 yX0_copyFrom wsX0_copyFrom) := goodIn_app (goodIn_of _ (by decide +kernel)) ggX3_foresee_X0_copyFrom
set_option maxRecDepth 20000 in
theorem ggX3_foresee_X0_runHours : GoodIn wsX3_foresee wsX0_runHours := goodIn_r _ [48, 49, 50, 51, 14, 52, 26, 24, 22, 25, 23, 16, 53, 54, 55, 56, 21, 57, 58, 59, 60, 61, 62, 63, 32, 64, 35, 36, 34, 65, 7, 66, 67, 68, 69, 70, 71, 72, 73, 74, 75, 76, 77, 78, 40, 79, 42, 43, 80, 81, 82, 83, 84, 85, 86, 87, 88, 89, 28, 27, 90, 91, 92, 93, 94, 95, 96, 97, 44, 98, 99, 100, 101, 102, 103, 118, 119, 120, 121, 122, 123, 124, 125, 126, 127, 128, 129, 130, 131, 132] (by decide +kernel) (by decide +kernel)
set_option maxRecDepth 20000 in
theorem gX3_foresee_X0_runHours : GoodIn wsX3_foresee (wsV RX3 134 RX0 yX0_runHours wsX0_runHours) := goodIn_app (goodIn_of _ (by decide +kernel)) ggX3_foresee_X0_runHours
set_option maxRecDepth 20000 in
theorem ggX3_foresee_X0_number : GoodIn wsX3_foresee wsX0_number := goodIn_r _ [107, 26, 16, 27, 28, 53, 54, 55, 14, 56, 21, 57, 58, 59, 60, 108, 109, 110, 111, 25, 23, 112, 113, 114, 115, 118, 119, 120, 121, 122, 123, 124, 125, 126, 130, 131, 132] (by decide +kernel) (by decide +kernel)
set_option maxRecDepth 20000 in
theorem gX3_foresee_X0_number : GoodIn wsX3_foresee (wsV RX3 123 RX0 yX0_number wsX0_number) := goodIn_app (goodIn_of _ (by decide +kernel)) ggX3_foresee_X0_number
theorem dX3_foresee_0 : decode cX3_foresee 0 = .ok (.iload_n 1, 1) := by decide +kernel
theorem dX3_foresee_1 : decode cX3_foresee 1 = .ok (.invokestatic 128, 3) := by decide +kernel
theorem dX3_foresee_4 : decode cX3_foresee 4 = .ok (.iload_n 2, 1) := by decide +kernel
theorem dX3_foresee_5 : decode cX3_foresee 5 = .ok (.iconst 2, 1) := by decide +kernel
theorem dX3_foresee_6 : decode cX3_foresee 6 = .ok (.if_icmp .eq 25, 3) := by decide +kernel
theorem dX3_foresee_9 : decode cX3_foresee 9 = .ok (.iload_n 2, 1) := by decide +kernel
theorem dX3_foresee_10 : decode cX3_foresee 10 = .ok (.bipush 6, 2) := by decide +kernel
theorem dX3_foresee_12 : decode cX3_foresee 12 = .ok (.if_icmp .lt 9, 3) := by decide +kernel
theorem dX3_foresee_15 : decode cX3_foresee 15 = .ok (.iload_n 2, 1) := by decide +kernel
theorem dX3_foresee_16 : decode cX3_foresee 16 = .ok (.bipush 10, 2) := by decide +kernel
theorem dX3_foresee_18 : decode cX3_foresee 18 = .ok (.if_icmp .lt 13, 3) := by decide +kernel
theorem dX3_foresee_21 : decode cX3_foresee 21 = .ok (.new 19, 3) := by decide +kernel
theorem dX3_foresee_24 : decode cX3_foresee 24 = .ok (.dup, 1) := by decide +kernel
theorem dX3_foresee_25 : decode cX3_foresee 25 = .ok (.ldc 141, 2) := by decide +kernel
theorem dX3_foresee_27 : decode cX3_foresee 27 = .ok (.invokespecial 23, 3) := by decide +kernel
theorem dX3_foresee_30 : decode cX3_foresee 30 = .ok (.athrow, 1) := by decide +kernel
theorem dX3_foresee_31 : decode cX3_foresee 31 = .ok (.aload_n 0, 1) := by decide +kernel
theorem dX3_foresee_32 : decode cX3_foresee 32 = .ok (.getfield 16, 3) := by decide +kernel
theorem dX3_foresee_35 : decode cX3_foresee 35 = .ok (.aload_n 0, 1) := by decide +kernel
theorem dX3_foresee_36 : decode cX3_foresee 36 = .ok (.getfield 10, 3) := by decide +kernel
theorem dX3_foresee_39 : decode cX3_foresee 39 = .ok (.invokevirtual 143, 3) := by decide +kernel
theorem dX3_foresee_42 : decode cX3_foresee 42 = .ok (.aload_n 0, 1) := by decide +kernel
theorem dX3_foresee_43 : decode cX3_foresee 43 = .ok (.getfield 16, 3) := by decide +kernel
theorem dX3_foresee_46 : decode cX3_foresee 46 = .ok (.iload_n 1, 1) := by decide +kernel
theorem dX3_foresee_47 : decode cX3_foresee 47 = .ok (.invokevirtual 134, 3) := by decide +kernel
theorem dX3_foresee_50 : decode cX3_foresee 50 = .ok (.aload_n 0, 1) := by decide +kernel
theorem dX3_foresee_51 : decode cX3_foresee 51 = .ok (.getfield 16, 3) := by decide +kernel
theorem dX3_foresee_54 : decode cX3_foresee 54 = .ok (.iload_n 2, 1) := by decide +kernel
theorem dX3_foresee_55 : decode cX3_foresee 55 = .ok (.invokevirtual 123, 3) := by decide +kernel
theorem dX3_foresee_58 : decode cX3_foresee 58 = .ok (.ireturn, 1) := by decide +kernel
set_option maxRecDepth 20000 in
theorem ggX3_lasts_X0_hoursUntilNoIce : GoodIn wsX3_lasts wsX0_hoursUntilNoIce := goodIn_r _ [6, 7, 8, 9, 10, 11, 5, 12, 13, 14, 15, 16, 17, 18, 19, 20, 21, 22, 23, 24, 27, 28, 29, 30, 31, 32, 33, 34, 35] (by decide +kernel) (by decide +kernel)
set_option maxRecDepth 20000 in
theorem gX3_lasts_X0_hoursUntilNoIce : GoodIn wsX3_lasts (wsV RX3 147 RX0 yX0_hoursUntilNoIce wsX0_hoursUntilNoIce) := goodIn_app (goodIn_of _ (by decide +kernel)) ggX3_lasts_X0_hoursUntilNoIce
theorem dX3_lasts_0 : decode cX3_lasts 0 = .ok (.aload_n 0, 1) := by decide +kernel
theorem dX3_lasts_1 : decode cX3_lasts 1 = .ok (.getfield 10, 3) := by decide +kernel
theorem dX3_lasts_4 : decode cX3_lasts 4 = .ok (.invokevirtual 147, 3) := by decide +kernel
theorem dX3_lasts_7 : decode cX3_lasts 7 = .ok (.ireturn, 1) := by decide +kernel
set_option maxRecDepth 20000 in
theorem ggX3_share_X0_soldScoops : GoodIn wsX3_share wsX0_soldScoops := goodIn_r _ [6, 7, 8, 11, 12, 13, 14, 15, 16, 17, 18, 19, 20, 21, 22] (by decide +kernel) (by decide +kernel)
set_option maxRecDepth 20000 in
theorem gX3_share_X0_soldScoops : GoodIn wsX3_share (wsV RX3 156 RX0 yX0_soldScoops wsX0_soldScoops) := goodIn_app (goodIn_of _ (by decide +kernel)) ggX3_share_X0_soldScoops
theorem dX3_share_0 : decode cX3_share 0 = .ok (.aload_n 0, 1) := by decide +kernel
theorem dX3_share_1 : decode cX3_share 1 = .ok (.getfield 10, 3) := by decide +kernel
theorem dX3_share_4 : decode cX3_share 4 = .ok (.invokevirtual 156, 3) := by decide +kernel
theorem dX3_share_7 : decode cX3_share 7 = .ok (.istore_n 1, 1) := by decide +kernel
theorem dX3_share_8 : decode cX3_share 8 = .ok (.iload_n 1, 1) := by decide +kernel
theorem dX3_share_9 : decode cX3_share 9 = .ok (.aload_n 0, 1) := by decide +kernel
theorem dX3_share_10 : decode cX3_share 10 = .ok (.getfield 10, 3) := by decide +kernel
theorem dX3_share_13 : decode cX3_share 13 = .ok (.getfield 159, 3) := by decide +kernel
theorem dX3_share_16 : decode cX3_share 16 = .ok (.iadd, 1) := by decide +kernel
theorem dX3_share_17 : decode cX3_share 17 = .ok (.istore_n 2, 1) := by decide +kernel
theorem dX3_share_18 : decode cX3_share 18 = .ok (.iload_n 2, 1) := by decide +kernel
theorem dX3_share_19 : decode cX3_share 19 = .ok (.ifCond .ne 7, 3) := by decide +kernel
theorem dX3_share_22 : decode cX3_share 22 = .ok (.dconst 0, 1) := by decide +kernel
theorem dX3_share_23 : decode cX3_share 23 = .ok (.goto 8, 3) := by decide +kernel
theorem dX3_share_26 : decode cX3_share 26 = .ok (.iload_n 1, 1) := by decide +kernel
theorem dX3_share_27 : decode cX3_share 27 = .ok (.i2d, 1) := by decide +kernel
theorem dX3_share_28 : decode cX3_share 28 = .ok (.iload_n 2, 1) := by decide +kernel
theorem dX3_share_29 : decode cX3_share 29 = .ok (.i2d, 1) := by decide +kernel
theorem dX3_share_30 : decode cX3_share 30 = .ok (.ddiv, 1) := by decide +kernel
theorem dX3_share_31 : decode cX3_share 31 = .ok (.dreturn, 1) := by decide +kernel
set_option maxRecDepth 20000 in
theorem ggX3_digest_X0_number : GoodIn wsX3_digest wsX0_number := goodIn_r _ [7, 8, 9, 10, 11, 12, 13, 14, 6, 15, 16, 17, 18, 19, 20, 21, 22, 23, 24, 25, 26, 27, 28, 29, 30, 54, 55, 56, 57, 58, 59, 60, 61, 62, 63, 64, 65] (by decide +kernel) (by decide +kernel)
set_option maxRecDepth 20000 in
theorem gX3_digest_X0_number : GoodIn wsX3_digest (wsV RX3 123 RX0 yX0_number wsX0_number) := goodIn_app (goodIn_of _ (by decide +kernel)) ggX3_digest_X0_number
set_option maxRecDepth 20000 in
theorem ggX3_digest_X3_mixed : GoodIn wsX3_digest wsX3_mixed := goodIn_r _ [34, 35] (by decide +kernel) (by decide +kernel)
set_option maxRecDepth 20000 in
theorem gX3_digest_X3_mixed : GoodIn wsX3_digest (va_wsS RX3 164 yX3_mixed wsX3_mixed) := goodIn_app (goodIn_of _ (by decide +kernel)) ggX3_digest_X3_mixed
set_option maxRecDepth 20000 in
theorem ggX3_digest_X1_number : GoodIn wsX3_digest wsX1_number := goodIn_r _ [40, 41, 42, 43, 66, 67, 68] (by decide +kernel) (by decide +kernel)
set_option maxRecDepth 20000 in
theorem gX3_digest_X1_number : GoodIn wsX3_digest (wsV RX3 116 RX1 yX1_number wsX1_number) := goodIn_app (goodIn_of _ (by decide +kernel)) ggX3_digest_X1_number
set_option maxRecDepth 20000 in
theorem ggX3_digest_X2_number : GoodIn wsX3_digest wsX2_number := goodIn_r _ [48, 49, 50, 51, 63, 64, 65] (by decide +kernel) (by decide +kernel)
set_option maxRecDepth 20000 in
theorem gX3_digest_X2_number : GoodIn wsX3_digest (wsV RX3 120 RX2 yX2_number wsX2_number) := goodIn_app (goodIn_of _ (by decide +kernel)) ggX3_digest_X2_number
theorem dX3_digest_0 : decode cX3_digest 0 = .ok (.ldc2_w 162, 3) := by decide +kernel
theorem dX3_digest_3 : decode cX3_digest 3 = .ok (.lstore_n 1, 1) := by decide +kernel
theorem dX3_digest_4 : decode cX3_digest 4 = .ok (.iconst 0, 1) := by decide +kernel
theorem dX3_digest_5 : decode cX3_digest 5 = .ok (.istore_n 3, 1) := by decide +kernel
theorem dX3_digest_6 : decode cX3_digest 6 = .ok (.iload_n 3, 1) := by decide +kernel
theorem dX3_digest_7 : decode cX3_digest 7 = .ok (.bipush 10, 2) := by decide +kernel
theorem dX3_digest_9 : decode cX3_digest 9 = .ok (.if_icmp .ge 23, 3) := by decide +kernel
theorem dX3_digest_12 : decode cX3_digest 12 = .ok (.lload_n 1, 1) := by decide +kernel
theorem dX3_digest_13 : decode cX3_digest 13 = .ok (.aload_n 0, 1) := by decide +kernel
theorem dX3_digest_14 : decode cX3_digest 14 = .ok (.getfield 10, 3) := by decide +kernel
theorem dX3_digest_17 : decode cX3_digest 17 = .ok (.iload_n 3, 1) := by decide +kernel
theorem dX3_digest_18 : decode cX3_digest 18 = .ok (.invokevirtual 123, 3) := by decide +kernel
theorem dX3_digest_21 : decode cX3_digest 21 = .ok (.i2l, 1) := by decide +kernel
theorem dX3_digest_22 : decode cX3_digest 22 = .ok (.invokestatic 164, 3) := by decide +kernel
theorem dX3_digest_25 : decode cX3_digest 25 = .ok (.lstore_n 1, 1) := by decide +kernel
theorem dX3_digest_26 : decode cX3_digest 26 = .ok (.iinc 3 1, 3) := by decide +kernel
theorem dX3_digest_29 : decode cX3_digest 29 = .ok (.goto (-23), 3) := by decide +kernel
theorem dX3_digest_32 : decode cX3_digest 32 = .ok (.iconst 0, 1) := by decide +kernel
theorem dX3_digest_33 : decode cX3_digest 33 = .ok (.istore_n 3, 1) := by decide +kernel
theorem dX3_digest_34 : decode cX3_digest 34 = .ok (.iload_n 3, 1) := by decide +kernel
theorem dX3_digest_35 : decode cX3_digest 35 = .ok (.bipush 7, 2) := by decide +kernel
theorem dX3_digest_37 : decode cX3_digest 37 = .ok (.if_icmp .ge 24, 3) := by decide +kernel
theorem dX3_digest_40 : decode cX3_digest 40 = .ok (.lload_n 1, 1) := by decide +kernel
theorem dX3_digest_41 : decode cX3_digest 41 = .ok (.aload_n 0, 1) := by decide +kernel
theorem dX3_digest_42 : decode cX3_digest 42 = .ok (.getfield 10, 3) := by decide +kernel
theorem dX3_digest_45 : decode cX3_digest 45 = .ok (.getfield 48, 3) := by decide +kernel
theorem dX3_digest_48 : decode cX3_digest 48 = .ok (.iload_n 3, 1) := by decide +kernel
theorem dX3_digest_49 : decode cX3_digest 49 = .ok (.iaload, 1) := by decide +kernel
theorem dX3_digest_50 : decode cX3_digest 50 = .ok (.i2l, 1) := by decide +kernel
theorem dX3_digest_51 : decode cX3_digest 51 = .ok (.invokestatic 164, 3) := by decide +kernel
theorem dX3_digest_54 : decode cX3_digest 54 = .ok (.lstore_n 1, 1) := by decide +kernel
theorem dX3_digest_55 : decode cX3_digest 55 = .ok (.iinc 3 1, 3) := by decide +kernel
theorem dX3_digest_58 : decode cX3_digest 58 = .ok (.goto (-24), 3) := by decide +kernel
theorem dX3_digest_61 : decode cX3_digest 61 = .ok (.iconst 0, 1) := by decide +kernel
theorem dX3_digest_62 : decode cX3_digest 62 = .ok (.istore_n 3, 1) := by decide +kernel
theorem dX3_digest_63 : decode cX3_digest 63 = .ok (.iload_n 3, 1) := by decide +kernel
theorem dX3_digest_64 : decode cX3_digest 64 = .ok (.aload_n 0, 1) := by decide +kernel
theorem dX3_digest_65 : decode cX3_digest 65 = .ok (.getfield 10, 3) := by decide +kernel
theorem dX3_digest_68 : decode cX3_digest 68 = .ok (.getfield 51, 3) := by decide +kernel
theorem dX3_digest_71 : decode cX3_digest 71 = .ok (.if_icmp .ge 44, 3) := by decide +kernel
theorem dX3_digest_74 : decode cX3_digest 74 = .ok (.iconst 0, 1) := by decide +kernel
theorem dX3_digest_75 : decode cX3_digest 75 = .ok (.istore 4, 2) := by decide +kernel
theorem dX3_digest_77 : decode cX3_digest 77 = .ok (.iload 4, 2) := by decide +kernel
theorem dX3_digest_79 : decode cX3_digest 79 = .ok (.iconst 3, 1) := by decide +kernel
theorem dX3_digest_80 : decode cX3_digest 80 = .ok (.if_icmp .ge 29, 3) := by decide +kernel
theorem dX3_digest_83 : decode cX3_digest 83 = .ok (.lload_n 1, 1) := by decide +kernel
theorem dX3_digest_84 : decode cX3_digest 84 = .ok (.aload_n 0, 1) := by decide +kernel
theorem dX3_digest_85 : decode cX3_digest 85 = .ok (.getfield 10, 3) := by decide +kernel
theorem dX3_digest_88 : decode cX3_digest 88 = .ok (.getfield 168, 3) := by decide +kernel
theorem dX3_digest_91 : decode cX3_digest 91 = .ok (.iload_n 3, 1) := by decide +kernel
theorem dX3_digest_92 : decode cX3_digest 92 = .ok (.aaload, 1) := by decide +kernel
theorem dX3_digest_93 : decode cX3_digest 93 = .ok (.iload 4, 2) := by decide +kernel
theorem dX3_digest_95 : decode cX3_digest 95 = .ok (.invokevirtual 116, 3) := by decide +kernel
theorem dX3_digest_98 : decode cX3_digest 98 = .ok (.i2l, 1) := by decide +kernel
theorem dX3_digest_99 : decode cX3_digest 99 = .ok (.invokestatic 164, 3) := by decide +kernel
theorem dX3_digest_102 : decode cX3_digest 102 = .ok (.lstore_n 1, 1) := by decide +kernel
theorem dX3_digest_103 : decode cX3_digest 103 = .ok (.iinc 4 1, 3) := by decide +kernel
theorem dX3_digest_106 : decode cX3_digest 106 = .ok (.goto (-29), 3) := by decide +kernel
theorem dX3_digest_109 : decode cX3_digest 109 = .ok (.iinc 3 1, 3) := by decide +kernel
theorem dX3_digest_112 : decode cX3_digest 112 = .ok (.goto (-49), 3) := by decide +kernel
theorem dX3_digest_115 : decode cX3_digest 115 = .ok (.iconst 0, 1) := by decide +kernel
theorem dX3_digest_116 : decode cX3_digest 116 = .ok (.istore_n 3, 1) := by decide +kernel
theorem dX3_digest_117 : decode cX3_digest 117 = .ok (.iload_n 3, 1) := by decide +kernel
theorem dX3_digest_118 : decode cX3_digest 118 = .ok (.aload_n 0, 1) := by decide +kernel
theorem dX3_digest_119 : decode cX3_digest 119 = .ok (.getfield 10, 3) := by decide +kernel
theorem dX3_digest_122 : decode cX3_digest 122 = .ok (.getfield 60, 3) := by decide +kernel
theorem dX3_digest_125 : decode cX3_digest 125 = .ok (.if_icmp .ge 44, 3) := by decide +kernel
theorem dX3_digest_128 : decode cX3_digest 128 = .ok (.iconst 0, 1) := by decide +kernel
theorem dX3_digest_129 : decode cX3_digest 129 = .ok (.istore 4, 2) := by decide +kernel
theorem dX3_digest_131 : decode cX3_digest 131 = .ok (.iload 4, 2) := by decide +kernel
theorem dX3_digest_133 : decode cX3_digest 133 = .ok (.iconst 3, 1) := by decide +kernel
theorem dX3_digest_134 : decode cX3_digest 134 = .ok (.if_icmp .ge 29, 3) := by decide +kernel
theorem dX3_digest_137 : decode cX3_digest 137 = .ok (.lload_n 1, 1) := by decide +kernel
theorem dX3_digest_138 : decode cX3_digest 138 = .ok (.aload_n 0, 1) := by decide +kernel
theorem dX3_digest_139 : decode cX3_digest 139 = .ok (.getfield 10, 3) := by decide +kernel
theorem dX3_digest_142 : decode cX3_digest 142 = .ok (.getfield 172, 3) := by decide +kernel
theorem dX3_digest_145 : decode cX3_digest 145 = .ok (.iload_n 3, 1) := by decide +kernel
theorem dX3_digest_146 : decode cX3_digest 146 = .ok (.aaload, 1) := by decide +kernel
theorem dX3_digest_147 : decode cX3_digest 147 = .ok (.iload 4, 2) := by decide +kernel
theorem dX3_digest_149 : decode cX3_digest 149 = .ok (.invokevirtual 120, 3) := by decide +kernel
theorem dX3_digest_152 : decode cX3_digest 152 = .ok (.i2l, 1) := by decide +kernel
theorem dX3_digest_153 : decode cX3_digest 153 = .ok (.invokestatic 164, 3) := by decide +kernel
theorem dX3_digest_156 : decode cX3_digest 156 = .ok (.lstore_n 1, 1) := by decide +kernel
theorem dX3_digest_157 : decode cX3_digest 157 = .ok (.iinc 4 1, 3) := by decide +kernel
theorem dX3_digest_160 : decode cX3_digest 160 = .ok (.goto (-29), 3) := by decide +kernel
theorem dX3_digest_163 : decode cX3_digest 163 = .ok (.iinc 3 1, 3) := by decide +kernel
theorem dX3_digest_166 : decode cX3_digest 166 = .ok (.goto (-49), 3) := by decide +kernel
theorem dX3_digest_169 : decode cX3_digest 169 = .ok (.lload_n 1, 1) := by decide +kernel
theorem dX3_digest_170 : decode cX3_digest 170 = .ok (.lreturn, 1) := by decide +kernel
theorem dX3_existingChurn_0 : decode cX3_existingChurn 0 = .ok (.iload_n 1, 1) := by decide +kernel
theorem dX3_existingChurn_1 : decode cX3_existingChurn 1 = .ok (.ifCond .lt 14, 3) := by decide +kernel
theorem dX3_existingChurn_4 : decode cX3_existingChurn 4 = .ok (.iload_n 1, 1) := by decide +kernel
theorem dX3_existingChurn_5 : decode cX3_existingChurn 5 = .ok (.aload_n 0, 1) := by decide +kernel
theorem dX3_existingChurn_6 : decode cX3_existingChurn 6 = .ok (.getfield 10, 3) := by decide +kernel
theorem dX3_existingChurn_9 : decode cX3_existingChurn 9 = .ok (.getfield 51, 3) := by decide +kernel
theorem dX3_existingChurn_12 : decode cX3_existingChurn 12 = .ok (.if_icmp .lt 13, 3) := by decide +kernel
theorem dX3_existingChurn_15 : decode cX3_existingChurn 15 = .ok (.new 19, 3) := by decide +kernel
theorem dX3_existingChurn_18 : decode cX3_existingChurn 18 = .ok (.dup, 1) := by decide +kernel
theorem dX3_existingChurn_19 : decode cX3_existingChurn 19 = .ok (.ldc 176, 2) := by decide +kernel
theorem dX3_existingChurn_21 : decode cX3_existingChurn 21 = .ok (.invokespecial 23, 3) := by decide +kernel
theorem dX3_existingChurn_24 : decode cX3_existingChurn 24 = .ok (.athrow, 1) := by decide +kernel
theorem dX3_existingChurn_25 : decode cX3_existingChurn 25 = .ok (.aload_n 0, 1) := by decide +kernel
theorem dX3_existingChurn_26 : decode cX3_existingChurn 26 = .ok (.getfield 10, 3) := by decide +kernel
theorem dX3_existingChurn_29 : decode cX3_existingChurn 29 = .ok (.getfield 168, 3) := by decide +kernel
theorem dX3_existingChurn_32 : decode cX3_existingChurn 32 = .ok (.iload_n 1, 1) := by decide +kernel
theorem dX3_existingChurn_33 : decode cX3_existingChurn 33 = .ok (.aaload, 1) := by decide +kernel
theorem dX3_existingChurn_34 : decode cX3_existingChurn 34 = .ok (.areturn, 1) := by decide +kernel
theorem dX3_existingTub_0 : decode cX3_existingTub 0 = .ok (.iload_n 1, 1) := by decide +kernel
theorem dX3_existingTub_1 : decode cX3_existingTub 1 = .ok (.ifCond .lt 14, 3) := by decide +kernel
theorem dX3_existingTub_4 : decode cX3_existingTub 4 = .ok (.iload_n 1, 1) := by decide +kernel
theorem dX3_existingTub_5 : decode cX3_existingTub 5 = .ok (.aload_n 0, 1) := by decide +kernel
theorem dX3_existingTub_6 : decode cX3_existingTub 6 = .ok (.getfield 10, 3) := by decide +kernel
theorem dX3_existingTub_9 : decode cX3_existingTub 9 = .ok (.getfield 60, 3) := by decide +kernel
theorem dX3_existingTub_12 : decode cX3_existingTub 12 = .ok (.if_icmp .lt 13, 3) := by decide +kernel
theorem dX3_existingTub_15 : decode cX3_existingTub 15 = .ok (.new 19, 3) := by decide +kernel
theorem dX3_existingTub_18 : decode cX3_existingTub 18 = .ok (.dup, 1) := by decide +kernel
theorem dX3_existingTub_19 : decode cX3_existingTub 19 = .ok (.ldc 178, 2) := by decide +kernel
theorem dX3_existingTub_21 : decode cX3_existingTub 21 = .ok (.invokespecial 23, 3) := by decide +kernel
theorem dX3_existingTub_24 : decode cX3_existingTub 24 = .ok (.athrow, 1) := by decide +kernel
theorem dX3_existingTub_25 : decode cX3_existingTub 25 = .ok (.aload_n 0, 1) := by decide +kernel
theorem dX3_existingTub_26 : decode cX3_existingTub 26 = .ok (.getfield 10, 3) := by decide +kernel
theorem dX3_existingTub_29 : decode cX3_existingTub 29 = .ok (.getfield 172, 3) := by decide +kernel
theorem dX3_existingTub_32 : decode cX3_existingTub 32 = .ok (.iload_n 1, 1) := by decide +kernel
theorem dX3_existingTub_33 : decode cX3_existingTub 33 = .ok (.aaload, 1) := by decide +kernel
theorem dX3_existingTub_34 : decode cX3_existingTub 34 = .ok (.areturn, 1) := by decide +kernel
theorem dX3_checkPacked_0 : decode cX3_checkPacked 0 = .ok (.iload_n 0, 1) := by decide +kernel
theorem dX3_checkPacked_1 : decode cX3_checkPacked 1 = .ok (.ifCond .lt 9, 3) := by decide +kernel
theorem dX3_checkPacked_4 : decode cX3_checkPacked 4 = .ok (.iload_n 0, 1) := by decide +kernel
theorem dX3_checkPacked_5 : decode cX3_checkPacked 5 = .ok (.bipush 60, 2) := by decide +kernel
theorem dX3_checkPacked_7 : decode cX3_checkPacked 7 = .ok (.if_icmp .le 13, 3) := by decide +kernel
theorem dX3_checkPacked_10 : decode cX3_checkPacked 10 = .ok (.new 26, 3) := by decide +kernel
theorem dX3_checkPacked_13 : decode cX3_checkPacked 13 = .ok (.dup, 1) := by decide +kernel
theorem dX3_checkPacked_14 : decode cX3_checkPacked 14 = .ok (.ldc 180, 2) := by decide +kernel
theorem dX3_checkPacked_16 : decode cX3_checkPacked 16 = .ok (.invokespecial 30, 3) := by decide +kernel
theorem dX3_checkPacked_19 : decode cX3_checkPacked 19 = .ok (.athrow, 1) := by decide +kernel
theorem dX3_checkPacked_20 : decode cX3_checkPacked 20 = .ok (.return_, 1) := by decide +kernel
theorem dX3_checkHours_0 : decode cX3_checkHours 0 = .ok (.iload_n 0, 1) := by decide +kernel
theorem dX3_checkHours_1 : decode cX3_checkHours 1 = .ok (.iconst 1, 1) := by decide +kernel
theorem dX3_checkHours_2 : decode cX3_checkHours 2 = .ok (.if_icmp .lt 10, 3) := by decide +kernel
theorem dX3_checkHours_5 : decode cX3_checkHours 5 = .ok (.iload_n 0, 1) := by decide +kernel
theorem dX3_checkHours_6 : decode cX3_checkHours 6 = .ok (.sipush 168, 3) := by decide +kernel
theorem dX3_checkHours_9 : decode cX3_checkHours 9 = .ok (.if_icmp .le 13, 3) := by decide +kernel
theorem dX3_checkHours_12 : decode cX3_checkHours 12 = .ok (.new 26, 3) := by decide +kernel
theorem dX3_checkHours_15 : decode cX3_checkHours 15 = .ok (.dup, 1) := by decide +kernel
theorem dX3_checkHours_16 : decode cX3_checkHours 16 = .ok (.ldc 182, 2) := by decide +kernel
theorem dX3_checkHours_18 : decode cX3_checkHours 18 = .ok (.invokespecial 30, 3) := by decide +kernel
theorem dX3_checkHours_21 : decode cX3_checkHours 21 = .ok (.athrow, 1) := by decide +kernel
theorem dX3_checkHours_22 : decode cX3_checkHours 22 = .ok (.return_, 1) := by decide +kernel
theorem dX3_coldOfIce_0 : decode cX3_coldOfIce 0 = .ok (.iload_n 0, 1) := by decide +kernel
theorem dX3_coldOfIce_1 : decode cX3_coldOfIce 1 = .ok (.iconst 4, 1) := by decide +kernel
theorem dX3_coldOfIce_2 : decode cX3_coldOfIce 2 = .ok (.idiv, 1) := by decide +kernel
theorem dX3_coldOfIce_3 : decode cX3_coldOfIce 3 = .ok (.ireturn, 1) := by decide +kernel
set_option maxRecDepth 20000 in
theorem ggX3_coldWithBrine_X3_coldOfIce : GoodIn wsX3_coldWithBrine wsX3_coldOfIce := goodIn_r _ [8] (by decide +kernel) (by decide +kernel)
set_option maxRecDepth 20000 in
theorem gX3_coldWithBrine_X3_coldOfIce : GoodIn wsX3_coldWithBrine (va_wsS RX3 150 yX3_coldOfIce wsX3_coldOfIce) := goodIn_app (goodIn_of _ (by decide +kernel)) ggX3_coldWithBrine_X3_coldOfIce
theorem dX3_coldWithBrine_0 : decode cX3_coldWithBrine 0 = .ok (.iload_n 1, 1) := by decide +kernel
theorem dX3_coldWithBrine_1 : decode cX3_coldWithBrine 1 = .ok (.invokestatic 150, 3) := by decide +kernel
theorem dX3_coldWithBrine_4 : decode cX3_coldWithBrine 4 = .ok (.istore_n 3, 1) := by decide +kernel
theorem dX3_coldWithBrine_5 : decode cX3_coldWithBrine 5 = .ok (.iload_n 2, 1) := by decide +kernel
theorem dX3_coldWithBrine_6 : decode cX3_coldWithBrine 6 = .ok (.iconst 2, 1) := by decide +kernel
theorem dX3_coldWithBrine_7 : decode cX3_coldWithBrine 7 = .ok (.iload_n 3, 1) := by decide +kernel
theorem dX3_coldWithBrine_8 : decode cX3_coldWithBrine 8 = .ok (.imul, 1) := by decide +kernel
theorem dX3_coldWithBrine_9 : decode cX3_coldWithBrine 9 = .ok (.invokestatic 38, 3) := by decide +kernel
theorem dX3_coldWithBrine_12 : decode cX3_coldWithBrine 12 = .ok (.istore 4, 2) := by decide +kernel
theorem dX3_coldWithBrine_14 : decode cX3_coldWithBrine 14 = .ok (.bipush 30, 2) := by decide +kernel
theorem dX3_coldWithBrine_16 : decode cX3_coldWithBrine 16 = .ok (.iload_n 0, 1) := by decide +kernel
theorem dX3_coldWithBrine_17 : decode cX3_coldWithBrine 17 = .ok (.iload_n 3, 1) := by decide +kernel
theorem dX3_coldWithBrine_18 : decode cX3_coldWithBrine 18 = .ok (.iadd, 1) := by decide +kernel
theorem dX3_coldWithBrine_19 : decode cX3_coldWithBrine 19 = .ok (.iload 4, 2) := by decide +kernel
theorem dX3_coldWithBrine_21 : decode cX3_coldWithBrine 21 = .ok (.iadd, 1) := by decide +kernel
theorem dX3_coldWithBrine_22 : decode cX3_coldWithBrine 22 = .ok (.invokestatic 38, 3) := by decide +kernel
theorem dX3_coldWithBrine_25 : decode cX3_coldWithBrine 25 = .ok (.ireturn, 1) := by decide +kernel
theorem dX3_firmAfterHour_0 : decode cX3_firmAfterHour 0 = .ok (.bipush 100, 2) := by decide +kernel
theorem dX3_firmAfterHour_2 : decode cX3_firmAfterHour 2 = .ok (.iload_n 0, 1) := by decide +kernel
theorem dX3_firmAfterHour_3 : decode cX3_firmAfterHour 3 = .ok (.iload_n 1, 1) := by decide +kernel
theorem dX3_firmAfterHour_4 : decode cX3_firmAfterHour 4 = .ok (.iconst 3, 1) := by decide +kernel
theorem dX3_firmAfterHour_5 : decode cX3_firmAfterHour 5 = .ok (.idiv, 1) := by decide +kernel
theorem dX3_firmAfterHour_6 : decode cX3_firmAfterHour 6 = .ok (.iadd, 1) := by decide +kernel
theorem dX3_firmAfterHour_7 : decode cX3_firmAfterHour 7 = .ok (.invokestatic 38, 3) := by decide +kernel
theorem dX3_firmAfterHour_10 : decode cX3_firmAfterHour 10 = .ok (.ireturn, 1) := by decide +kernel
theorem dX3_coldAfterHour_0 : decode cX3_coldAfterHour 0 = .ok (.iconst 0, 1) := by decide +kernel
theorem dX3_coldAfterHour_1 : decode cX3_coldAfterHour 1 = .ok (.iload_n 0, 1) := by decide +kernel
theorem dX3_coldAfterHour_2 : decode cX3_coldAfterHour 2 = .ok (.iload_n 1, 1) := by decide +kernel
theorem dX3_coldAfterHour_3 : decode cX3_coldAfterHour 3 = .ok (.bipush 10, 2) := by decide +kernel
theorem dX3_coldAfterHour_5 : decode cX3_coldAfterHour 5 = .ok (.idiv, 1) := by decide +kernel
theorem dX3_coldAfterHour_6 : decode cX3_coldAfterHour 6 = .ok (.isub, 1) := by decide +kernel
theorem dX3_coldAfterHour_7 : decode cX3_coldAfterHour 7 = .ok (.iconst 1, 1) := by decide +kernel
theorem dX3_coldAfterHour_8 : decode cX3_coldAfterHour 8 = .ok (.isub, 1) := by decide +kernel
theorem dX3_coldAfterHour_9 : decode cX3_coldAfterHour 9 = .ok (.invokestatic 153, 3) := by decide +kernel
theorem dX3_coldAfterHour_12 : decode cX3_coldAfterHour 12 = .ok (.ireturn, 1) := by decide +kernel
theorem dX3_iceAfterHour_0 : decode cX3_iceAfterHour 0 = .ok (.iload_n 1, 1) := by decide +kernel
theorem dX3_iceAfterHour_1 : decode cX3_iceAfterHour 1 = .ok (.iconst 4, 1) := by decide +kernel
theorem dX3_iceAfterHour_2 : decode cX3_iceAfterHour 2 = .ok (.irem, 1) := by decide +kernel
theorem dX3_iceAfterHour_3 : decode cX3_iceAfterHour 3 = .ok (.ifCond .ne 15, 3) := by decide +kernel
theorem dX3_iceAfterHour_6 : decode cX3_iceAfterHour 6 = .ok (.iconst 0, 1) := by decide +kernel
theorem dX3_iceAfterHour_7 : decode cX3_iceAfterHour 7 = .ok (.iload_n 0, 1) := by decide +kernel
theorem dX3_iceAfterHour_8 : decode cX3_iceAfterHour 8 = .ok (.iload_n 2, 1) := by decide +kernel
theorem dX3_iceAfterHour_9 : decode cX3_iceAfterHour 9 = .ok (.iconst 5, 1) := by decide +kernel
theorem dX3_iceAfterHour_10 : decode cX3_iceAfterHour 10 = .ok (.idiv, 1) := by decide +kernel
theorem dX3_iceAfterHour_11 : decode cX3_iceAfterHour 11 = .ok (.isub, 1) := by decide +kernel
theorem dX3_iceAfterHour_12 : decode cX3_iceAfterHour 12 = .ok (.invokestatic 153, 3) := by decide +kernel
theorem dX3_iceAfterHour_15 : decode cX3_iceAfterHour 15 = .ok (.goto 4, 3) := by decide +kernel
theorem dX3_iceAfterHour_18 : decode cX3_iceAfterHour 18 = .ok (.iload_n 0, 1) := by decide +kernel
theorem dX3_iceAfterHour_19 : decode cX3_iceAfterHour 19 = .ok (.ireturn, 1) := by decide +kernel
theorem dX3_mixed_0 : decode cX3_mixed 0 = .ok (.lload_n 0, 1) := by decide +kernel
theorem dX3_mixed_1 : decode cX3_mixed 1 = .ok (.ldc2_w 184, 3) := by decide +kernel
theorem dX3_mixed_4 : decode cX3_mixed 4 = .ok (.lmul, 1) := by decide +kernel
theorem dX3_mixed_5 : decode cX3_mixed 5 = .ok (.lload_n 2, 1) := by decide +kernel
theorem dX3_mixed_6 : decode cX3_mixed 6 = .ok (.ladd, 1) := by decide +kernel
theorem dX3_mixed_7 : decode cX3_mixed 7 = .ok (.lreturn, 1) := by decide +kernel
