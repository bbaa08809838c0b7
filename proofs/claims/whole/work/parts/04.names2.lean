theorem dX2_length_57 : decode cX2_length 57 = .ok (.iinc 5 1, 3) := by decide +kernel
theorem dX2_length_60 : decode cX2_length 60 = .ok (.goto (-36), 3) := by decide +kernel
theorem dX2_length_63 : decode cX2_length 63 = .ok (.iload_n 2, 1) := by decide +kernel
theorem dX2_length_64 : decode cX2_length 64 = .ok (.ireturn, 1) := by decide +kernel
set_option maxRecDepth 20000 in
theorem ggX2_retry_X2_itemNumbered : GoodIn wsX2_retry wsX2_itemNumbered := goodIn_ca (goodIn_r _ [13, 1, 2, 14, 15, 16, 17, 18, 19, 20, 21, 43, 44, 45, 46, 47, 48, 49, 50, 51, 52, 53, 54] (by decide +kernel) (by decide +kernel)) (goodIn_sub (fun _ h => List.mem_cons_of_mem _ (List.mem_append_left _ (List.mem_append_right _ h))) (by decide +kernel))
set_option maxRecDepth 20000 in
theorem gX2_retry_X2_itemNumbered : GoodIn wsX2_retry (wsV RX2 78 RX2 yX2_itemNumbered wsX2_itemNumbered) := goodIn_app (goodIn_of _ (by decide +kernel)) ggX2_retry_X2_itemNumbered
set_option maxRecDepth 20000 in
theorem ggX2_retry_X2_requireCode : GoodIn wsX2_retry wsX2_requireCode := goodIn_ca (goodIn_r _ [25, 1, 2, 26, 27, 28, 12, 29, 30, 43, 44, 45, 46, 47, 48, 49, 50, 51, 52] (by decide +kernel) (by decide +kernel)) (goodIn_sub (fun _ h => List.mem_cons_of_mem _ (List.mem_append_left _ (List.mem_append_right _ h))) (by decide +kernel))
set_option maxRecDepth 20000 in
theorem gX2_retry_X2_requireCode : GoodIn wsX2_retry (wsV RX2 87 RX2 yX2_requireCode wsX2_requireCode) := goodIn_app (goodIn_of _ (by decide +kernel)) ggX2_retry_X2_requireCode
theorem dX2_retry_0 : decode cX2_retry 0 = .ok (.aload_n 0, 1) := by decide +kernel
theorem dX2_retry_1 : decode cX2_retry 1 = .ok (.iload_n 1, 1) := by decide +kernel
theorem dX2_retry_2 : decode cX2_retry 2 = .ok (.invokevirtual 78, 3) := by decide +kernel
theorem dX2_retry_5 : decode cX2_retry 5 = .ok (.astore 4, 2) := by decide +kernel
theorem dX2_retry_7 : decode cX2_retry 7 = .ok (.iload_n 2, 1) := by decide +kernel
theorem dX2_retry_8 : decode cX2_retry 8 = .ok (.ifCond .lt 9, 3) := by decide +kernel
theorem dX2_retry_11 : decode cX2_retry 11 = .ok (.iload_n 2, 1) := by decide +kernel
theorem dX2_retry_12 : decode cX2_retry 12 = .ok (.bipush 9, 2) := by decide +kernel
theorem dX2_retry_14 : decode cX2_retry 14 = .ok (.if_icmp .le 13, 3) := by decide +kernel
theorem dX2_retry_17 : decode cX2_retry 17 = .ok (.new 82, 3) := by decide +kernel
theorem dX2_retry_20 : decode cX2_retry 20 = .ok (.dup, 1) := by decide +kernel
theorem dX2_retry_21 : decode cX2_retry 21 = .ok (.ldc 121, 2) := by decide +kernel
theorem dX2_retry_23 : decode cX2_retry 23 = .ok (.invokespecial 86, 3) := by decide +kernel
theorem dX2_retry_26 : decode cX2_retry 26 = .ok (.athrow, 1) := by decide +kernel
theorem dX2_retry_27 : decode cX2_retry 27 = .ok (.aload_n 0, 1) := by decide +kernel
theorem dX2_retry_28 : decode cX2_retry 28 = .ok (.iload_n 3, 1) := by decide +kernel
theorem dX2_retry_29 : decode cX2_retry 29 = .ok (.invokevirtual 87, 3) := by decide +kernel
theorem dX2_retry_32 : decode cX2_retry 32 = .ok (.aload 4, 2) := by decide +kernel
theorem dX2_retry_34 : decode cX2_retry 34 = .ok (.getfield 123, 3) := by decide +kernel
theorem dX2_retry_37 : decode cX2_retry 37 = .ok (.iconst 1, 1) := by decide +kernel
theorem dX2_retry_38 : decode cX2_retry 38 = .ok (.if_icmp .eq 13, 3) := by decide +kernel
theorem dX2_retry_41 : decode cX2_retry 41 = .ok (.new 99, 3) := by decide +kernel
theorem dX2_retry_44 : decode cX2_retry 44 = .ok (.dup, 1) := by decide +kernel
theorem dX2_retry_45 : decode cX2_retry 45 = .ok (.ldc 126, 2) := by decide +kernel
theorem dX2_retry_47 : decode cX2_retry 47 = .ok (.invokespecial 103, 3) := by decide +kernel
theorem dX2_retry_50 : decode cX2_retry 50 = .ok (.athrow, 1) := by decide +kernel
theorem dX2_retry_51 : decode cX2_retry 51 = .ok (.aload 4, 2) := by decide +kernel
theorem dX2_retry_53 : decode cX2_retry 53 = .ok (.getfield 104, 3) := by decide +kernel
theorem dX2_retry_56 : decode cX2_retry 56 = .ok (.ifCond .eq 13, 3) := by decide +kernel
theorem dX2_retry_59 : decode cX2_retry 59 = .ok (.new 99, 3) := by decide +kernel
theorem dX2_retry_62 : decode cX2_retry 62 = .ok (.dup, 1) := by decide +kernel
theorem dX2_retry_63 : decode cX2_retry 63 = .ok (.ldc 128, 2) := by decide +kernel
theorem dX2_retry_65 : decode cX2_retry 65 = .ok (.invokespecial 103, 3) := by decide +kernel
theorem dX2_retry_68 : decode cX2_retry 68 = .ok (.athrow, 1) := by decide +kernel
theorem dX2_retry_69 : decode cX2_retry 69 = .ok (.aload 4, 2) := by decide +kernel
theorem dX2_retry_71 : decode cX2_retry 71 = .ok (.iload_n 2, 1) := by decide +kernel
theorem dX2_retry_72 : decode cX2_retry 72 = .ok (.putfield 130, 3) := by decide +kernel
theorem dX2_retry_75 : decode cX2_retry 75 = .ok (.aload 4, 2) := by decide +kernel
theorem dX2_retry_77 : decode cX2_retry 77 = .ok (.iload_n 3, 1) := by decide +kernel
theorem dX2_retry_78 : decode cX2_retry 78 = .ok (.putfield 133, 3) := by decide +kernel
theorem dX2_retry_81 : decode cX2_retry 81 = .ok (.return_, 1) := by decide +kernel
set_option maxRecDepth 20000 in
theorem ggX2_step_X2_requireNotJammed : GoodIn wsX2_step wsX2_requireNotJammed := goodIn_ca (goodIn_r _ [8, 9, 10, 11, 80, 81, 82, 83, 84, 85, 86, 87, 88, 89] (by decide +kernel) (by decide +kernel)) (goodIn_sub (fun _ h => List.mem_cons_of_mem _ (List.mem_append_right _ h)) (by decide +kernel))
set_option maxRecDepth 20000 in
theorem gX2_step_X2_requireNotJammed : GoodIn wsX2_step (wsV RX2 90 RX2 yX2_requireNotJammed wsX2_requireNotJammed) := goodIn_app (goodIn_of _ (by decide +kernel)) ggX2_step_X2_requireNotJammed
set_option maxRecDepth 20000 in
theorem ggX2_step_X1_size : GoodIn wsX2_step wsX1_size := goodIn_r _ [16, 17, 90, 91] (by decide +kernel) (by decide +kernel)
set_option maxRecDepth 20000 in
theorem gX2_step_X1_size : GoodIn wsX2_step (wsV RX2 64 RX1 yX1_size wsX1_size) := goodIn_app (goodIn_of _ (by decide +kernel)) ggX2_step_X1_size
set_option maxRecDepth 20000 in
theorem ggX2_step_X2_makeOneStep : GoodIn wsX2_step wsX2_makeOneStep := goodIn_r _ [21, 22, 23, 24, 25, 26, 27, 7, 28, 29, 30, 31, 32, 33, 34, 35, 36, 37, 38, 39, 40, 41, 42, 43, 44, 45, 46, 47, 48, 49, 50, 51, 52, 53, 54, 55, 56, 57, 58, 59, 60, 61, 62, 63, 64, 3, 65, 66, 67, 15, 68, 69, 17, 70, 71, 72, 73, 74, 75, 76, 77, 78, 79, 80, 81, 82, 83, 84, 85, 86, 87, 88, 89, 92, 93, 94, 95, 96, 97, 98, 99, 100, 101, 102, 103, 90, 91] (by decide +kernel) (by decide +kernel)
set_option maxRecDepth 20000 in
theorem gX2_step_X2_makeOneStep : GoodIn wsX2_step (wsV RX2 138 RX2 yX2_makeOneStep wsX2_makeOneStep) := goodIn_app (goodIn_of _ (by decide +kernel)) ggX2_step_X2_makeOneStep
theorem dX2_step_0 : decode cX2_step 0 = .ok (.iload_n 1, 1) := by decide +kernel
theorem dX2_step_1 : decode cX2_step 1 = .ok (.ifCond .lt 9, 3) := by decide +kernel
theorem dX2_step_4 : decode cX2_step 4 = .ok (.iload_n 1, 1) := by decide +kernel
theorem dX2_step_5 : decode cX2_step 5 = .ok (.bipush 100, 2) := by decide +kernel
theorem dX2_step_7 : decode cX2_step 7 = .ok (.if_icmp .le 13, 3) := by decide +kernel
theorem dX2_step_10 : decode cX2_step 10 = .ok (.new 82, 3) := by decide +kernel
theorem dX2_step_13 : decode cX2_step 13 = .ok (.dup, 1) := by decide +kernel
theorem dX2_step_14 : decode cX2_step 14 = .ok (.ldc 136, 2) := by decide +kernel
theorem dX2_step_16 : decode cX2_step 16 = .ok (.invokespecial 86, 3) := by decide +kernel
theorem dX2_step_19 : decode cX2_step 19 = .ok (.athrow, 1) := by decide +kernel
theorem dX2_step_20 : decode cX2_step 20 = .ok (.aload_n 0, 1) := by decide +kernel
theorem dX2_step_21 : decode cX2_step 21 = .ok (.invokevirtual 90, 3) := by decide +kernel
theorem dX2_step_24 : decode cX2_step 24 = .ok (.aload_n 0, 1) := by decide +kernel
theorem dX2_step_25 : decode cX2_step 25 = .ok (.getfield 18, 3) := by decide +kernel
theorem dX2_step_28 : decode cX2_step 28 = .ok (.invokevirtual 64, 3) := by decide +kernel
theorem dX2_step_31 : decode cX2_step 31 = .ok (.istore_n 2, 1) := by decide +kernel
theorem dX2_step_32 : decode cX2_step 32 = .ok (.iconst 0, 1) := by decide +kernel
theorem dX2_step_33 : decode cX2_step 33 = .ok (.istore_n 3, 1) := by decide +kernel
theorem dX2_step_34 : decode cX2_step 34 = .ok (.iload_n 3, 1) := by decide +kernel
theorem dX2_step_35 : decode cX2_step 35 = .ok (.iload_n 1, 1) := by decide +kernel
theorem dX2_step_36 : decode cX2_step 36 = .ok (.if_icmp .ge 13, 3) := by decide +kernel
theorem dX2_step_39 : decode cX2_step 39 = .ok (.aload_n 0, 1) := by decide +kernel
theorem dX2_step_40 : decode cX2_step 40 = .ok (.invokevirtual 138, 3) := by decide +kernel
theorem dX2_step_43 : decode cX2_step 43 = .ok (.iinc 3 1, 3) := by decide +kernel
theorem dX2_step_46 : decode cX2_step 46 = .ok (.goto (-12), 3) := by decide +kernel
theorem dX2_step_49 : decode cX2_step 49 = .ok (.aload_n 0, 1) := by decide +kernel
theorem dX2_step_50 : decode cX2_step 50 = .ok (.getfield 18, 3) := by decide +kernel
theorem dX2_step_53 : decode cX2_step 53 = .ok (.invokevirtual 64, 3) := by decide +kernel
theorem dX2_step_56 : decode cX2_step 56 = .ok (.iload_n 2, 1) := by decide +kernel
theorem dX2_step_57 : decode cX2_step 57 = .ok (.isub, 1) := by decide +kernel
theorem dX2_step_58 : decode cX2_step 58 = .ok (.ireturn, 1) := by decide +kernel
set_option maxRecDepth 20000 in
theorem ggX2_out_X1_at : GoodIn wsX2_out wsX1_at := goodIn_r _ [12, 13, 14, 37, 38] (by decide +kernel) (by decide +kernel)
set_option maxRecDepth 20000 in
theorem gX2_out_X1_at : GoodIn wsX2_out (wsV RX2 141 RX1 yX1_at wsX1_at) := goodIn_app (goodIn_of _ (by decide +kernel)) ggX2_out_X1_at
theorem dX2_out_0 : decode cX2_out 0 = .ok (.aload_n 0, 1) := by decide +kernel
theorem dX2_out_1 : decode cX2_out 1 = .ok (.getfield 18, 3) := by decide +kernel
theorem dX2_out_4 : decode cX2_out 4 = .ok (.iload_n 1, 1) := by decide +kernel
theorem dX2_out_5 : decode cX2_out 5 = .ok (.invokevirtual 141, 3) := by decide +kernel
theorem dX2_out_8 : decode cX2_out 8 = .ok (.astore_n 3, 1) := by decide +kernel
theorem dX2_out_9 : decode cX2_out 9 = .ok (.aload_n 3, 1) := by decide +kernel
theorem dX2_out_10 : decode cX2_out 10 = .ok (.ifnonnull 13, 3) := by decide +kernel
theorem dX2_out_13 : decode cX2_out 13 = .ok (.new 82, 3) := by decide +kernel
theorem dX2_out_16 : decode cX2_out 16 = .ok (.dup, 1) := by decide +kernel
theorem dX2_out_17 : decode cX2_out 17 = .ok (.ldc 144, 2) := by decide +kernel
theorem dX2_out_19 : decode cX2_out 19 = .ok (.invokespecial 86, 3) := by decide +kernel
theorem dX2_out_22 : decode cX2_out 22 = .ok (.athrow, 1) := by decide +kernel
theorem dX2_out_23 : decode cX2_out 23 = .ok (.iload_n 2, 1) := by decide +kernel
theorem dX2_out_24 : decode cX2_out 24 = .ok (.tableswitch 52 0 3 #[32, 37, 42, 47], 32) := by decide +kernel
theorem dX2_out_56 : decode cX2_out 56 = .ok (.aload_n 3, 1) := by decide +kernel
theorem dX2_out_57 : decode cX2_out 57 = .ok (.getfield 75, 3) := by decide +kernel
theorem dX2_out_60 : decode cX2_out 60 = .ok (.ireturn, 1) := by decide +kernel
theorem dX2_out_61 : decode cX2_out 61 = .ok (.aload_n 3, 1) := by decide +kernel
theorem dX2_out_62 : decode cX2_out 62 = .ok (.getfield 146, 3) := by decide +kernel
theorem dX2_out_65 : decode cX2_out 65 = .ok (.ireturn, 1) := by decide +kernel
theorem dX2_out_66 : decode cX2_out 66 = .ok (.aload_n 3, 1) := by decide +kernel
theorem dX2_out_67 : decode cX2_out 67 = .ok (.getfield 149, 3) := by decide +kernel
theorem dX2_out_70 : decode cX2_out 70 = .ok (.ireturn, 1) := by decide +kernel
theorem dX2_out_71 : decode cX2_out 71 = .ok (.aload_n 3, 1) := by decide +kernel
theorem dX2_out_72 : decode cX2_out 72 = .ok (.getfield 152, 3) := by decide +kernel
theorem dX2_out_75 : decode cX2_out 75 = .ok (.ireturn, 1) := by decide +kernel
theorem dX2_out_76 : decode cX2_out 76 = .ok (.new 82, 3) := by decide +kernel
theorem dX2_out_79 : decode cX2_out 79 = .ok (.dup, 1) := by decide +kernel
theorem dX2_out_80 : decode cX2_out 80 = .ok (.ldc 155, 2) := by decide +kernel
theorem dX2_out_82 : decode cX2_out 82 = .ok (.invokespecial 86, 3) := by decide +kernel
theorem dX2_out_85 : decode cX2_out 85 = .ok (.athrow, 1) := by decide +kernel
set_option maxRecDepth 20000 in
theorem ggX2_chute_X2_requireChute : GoodIn wsX2_chute wsX2_requireChute := goodIn_ca (goodIn_r _ [5, 6, 7, 8, 9, 10, 4, 11, 12, 21, 22, 23, 24, 25, 26, 27, 28, 29, 30] (by decide +kernel) (by decide +kernel)) (goodIn_sub (fun _ h => List.mem_cons_of_mem _ (List.mem_append_right _ h)) (by decide +kernel))
set_option maxRecDepth 20000 in
theorem gX2_chute_X2_requireChute : GoodIn wsX2_chute (wsV RX2 157 RX2 yX2_requireChute wsX2_requireChute) := goodIn_app (goodIn_of _ (by decide +kernel)) ggX2_chute_X2_requireChute
set_option maxRecDepth 20000 in
theorem ggX2_chute_X2_isFull : GoodIn wsX2_chute wsX2_isFull := goodIn_r _ [16, 12, 8, 9, 10, 4, 11, 21, 22, 23, 24, 25, 26, 27, 28, 29, 30] (by decide +kernel) (by decide +kernel)
set_option maxRecDepth 20000 in
theorem gX2_chute_X2_isFull : GoodIn wsX2_chute (wsV RX2 160 RX2 yX2_isFull wsX2_isFull) := goodIn_app (goodIn_of _ (by decide +kernel)) ggX2_chute_X2_isFull
set_option maxRecDepth 20000 in
theorem ggX2_chute_X2_setFull : GoodIn wsX2_chute wsX2_setFull := goodIn_r _ [20, 12, 8, 9, 10, 4, 11, 21, 22, 23, 24, 25, 26, 27, 28, 29, 30] (by decide +kernel) (by decide +kernel)
set_option maxRecDepth 20000 in
theorem gX2_chute_X2_setFull : GoodIn wsX2_chute (wsV RX2 164 RX2 yX2_setFull wsX2_setFull) := goodIn_app (goodIn_of _ (by decide +kernel)) ggX2_chute_X2_setFull
theorem dX2_chute_0 : decode cX2_chute 0 = .ok (.aload_n 0, 1) := by decide +kernel
theorem dX2_chute_1 : decode cX2_chute 1 = .ok (.iload_n 1, 1) := by decide +kernel
theorem dX2_chute_2 : decode cX2_chute 2 = .ok (.invokevirtual 157, 3) := by decide +kernel
theorem dX2_chute_5 : decode cX2_chute 5 = .ok (.aload_n 0, 1) := by decide +kernel
theorem dX2_chute_6 : decode cX2_chute 6 = .ok (.iload_n 1, 1) := by decide +kernel
theorem dX2_chute_7 : decode cX2_chute 7 = .ok (.invokevirtual 160, 3) := by decide +kernel
theorem dX2_chute_10 : decode cX2_chute 10 = .ok (.istore_n 3, 1) := by decide +kernel
theorem dX2_chute_11 : decode cX2_chute 11 = .ok (.aload_n 0, 1) := by decide +kernel
theorem dX2_chute_12 : decode cX2_chute 12 = .ok (.iload_n 1, 1) := by decide +kernel
theorem dX2_chute_13 : decode cX2_chute 13 = .ok (.iload_n 2, 1) := by decide +kernel
theorem dX2_chute_14 : decode cX2_chute 14 = .ok (.invokevirtual 164, 3) := by decide +kernel
theorem dX2_chute_17 : decode cX2_chute 17 = .ok (.iload_n 3, 1) := by decide +kernel
theorem dX2_chute_18 : decode cX2_chute 18 = .ok (.ireturn, 1) := by decide +kernel
set_option maxRecDepth 20000 in
theorem ggX2_jam_X2_isInLoop : GoodIn wsX2_jam wsX2_isInLoop := goodIn_r _ [9, 10, 51, 52, 53, 54, 55, 56, 57, 58, 59, 60] (by decide +kernel) (by decide +kernel)
set_option maxRecDepth 20000 in
theorem gX2_jam_X2_isInLoop : GoodIn wsX2_jam (wsV RX2 168 RX2 yX2_isInLoop wsX2_isInLoop) := goodIn_app (goodIn_of _ (by decide +kernel)) ggX2_jam_X2_isInLoop
set_option maxRecDepth 20000 in
theorem ggX2_jam_X2_requireNotJammed : GoodIn wsX2_jam wsX2_requireNotJammed := goodIn_ca (goodIn_r _ [14, 15, 16, 3, 51, 52, 53, 54, 55, 56, 57, 58, 59, 60] (by decide +kernel) (by decide +kernel)) (goodIn_sub (fun _ h => List.mem_cons_of_mem _ (List.mem_append_right _ h)) (by decide +kernel))
set_option maxRecDepth 20000 in
theorem gX2_jam_X2_requireNotJammed : GoodIn wsX2_jam (wsV RX2 90 RX2 yX2_requireNotJammed wsX2_requireNotJammed) := goodIn_app (goodIn_of _ (by decide +kernel)) ggX2_jam_X2_requireNotJammed
set_option maxRecDepth 20000 in
theorem ggX2_jam_X2_intoLoop : GoodIn wsX2_jam wsX2_intoLoop := goodIn_r _ [20, 10, 51, 52, 53, 54, 55, 56, 57, 58, 59, 60] (by decide +kernel) (by decide +kernel)
set_option maxRecDepth 20000 in
theorem gX2_jam_X2_intoLoop : GoodIn wsX2_jam (wsV RX2 177 RX2 yX2_intoLoop wsX2_intoLoop) := goodIn_app (goodIn_of _ (by decide +kernel)) ggX2_jam_X2_intoLoop
set_option maxRecDepth 20000 in
theorem ggX2_jam_X2_doubtItemAt : GoodIn wsX2_jam wsX2_doubtItemAt := goodIn_r _ [24, 25, 26, 4, 27, 28, 29, 8, 30, 10, 31, 32, 33, 34, 35, 17, 18, 19, 20, 5, 6, 7, 9, 36, 37, 38, 39, 40, 41, 42, 43, 44, 45, 46, 61, 62, 63, 64, 65, 66, 67, 68, 69, 70, 71, 72, 51, 52, 53, 54, 55, 56, 57, 58, 59, 60, 73, 74] (by decide +kernel) (by decide +kernel)
set_option maxRecDepth 20000 in
theorem gX2_jam_X2_doubtItemAt : GoodIn wsX2_jam (wsV RX2 180 RX2 yX2_doubtItemAt wsX2_doubtItemAt) := goodIn_app (goodIn_of _ (by decide +kernel)) ggX2_jam_X2_doubtItemAt
set_option maxRecDepth 20000 in
theorem ggX2_jam_X1_size : GoodIn wsX2_jam wsX1_size := goodIn_r _ [50, 42, 73, 74] (by decide +kernel) (by decide +kernel)
set_option maxRecDepth 20000 in
theorem gX2_jam_X1_size : GoodIn wsX2_jam (wsV RX2 64 RX1 yX1_size wsX1_size) := goodIn_app (goodIn_of _ (by decide +kernel)) ggX2_jam_X1_size
theorem dX2_jam_0 : decode cX2_jam 0 = .ok (.aload_n 0, 1) := by decide +kernel
theorem dX2_jam_1 : decode cX2_jam 1 = .ok (.iload_n 1, 1) := by decide +kernel
theorem dX2_jam_2 : decode cX2_jam 2 = .ok (.invokevirtual 168, 3) := by decide +kernel
theorem dX2_jam_5 : decode cX2_jam 5 = .ok (.ifCond .eq 11, 3) := by decide +kernel
theorem dX2_jam_8 : decode cX2_jam 8 = .ok (.aload_n 0, 1) := by decide +kernel
theorem dX2_jam_9 : decode cX2_jam 9 = .ok (.iload_n 2, 1) := by decide +kernel
theorem dX2_jam_10 : decode cX2_jam 10 = .ok (.invokevirtual 168, 3) := by decide +kernel
theorem dX2_jam_13 : decode cX2_jam 13 = .ok (.ifCond .ne 13, 3) := by decide +kernel
theorem dX2_jam_16 : decode cX2_jam 16 = .ok (.new 82, 3) := by decide +kernel
theorem dX2_jam_19 : decode cX2_jam 19 = .ok (.dup, 1) := by decide +kernel
theorem dX2_jam_20 : decode cX2_jam 20 = .ok (.ldc 171, 2) := by decide +kernel
theorem dX2_jam_22 : decode cX2_jam 22 = .ok (.invokespecial 86, 3) := by decide +kernel
theorem dX2_jam_25 : decode cX2_jam 25 = .ok (.athrow, 1) := by decide +kernel
theorem dX2_jam_26 : decode cX2_jam 26 = .ok (.aload_n 0, 1) := by decide +kernel
theorem dX2_jam_27 : decode cX2_jam 27 = .ok (.invokevirtual 90, 3) := by decide +kernel
theorem dX2_jam_30 : decode cX2_jam 30 = .ok (.aload_n 0, 1) := by decide +kernel
theorem dX2_jam_31 : decode cX2_jam 31 = .ok (.iconst 1, 1) := by decide +kernel
theorem dX2_jam_32 : decode cX2_jam 32 = .ok (.putfield 173, 3) := by decide +kernel
theorem dX2_jam_35 : decode cX2_jam 35 = .ok (.aload_n 0, 1) := by decide +kernel
theorem dX2_jam_36 : decode cX2_jam 36 = .ok (.iload_n 2, 1) := by decide +kernel
theorem dX2_jam_37 : decode cX2_jam 37 = .ok (.iload_n 1, 1) := by decide +kernel
theorem dX2_jam_38 : decode cX2_jam 38 = .ok (.isub, 1) := by decide +kernel
theorem dX2_jam_39 : decode cX2_jam 39 = .ok (.invokevirtual 177, 3) := by decide +kernel
theorem dX2_jam_42 : decode cX2_jam 42 = .ok (.istore_n 3, 1) := by decide +kernel
theorem dX2_jam_43 : decode cX2_jam 43 = .ok (.iconst 0, 1) := by decide +kernel
theorem dX2_jam_44 : decode cX2_jam 44 = .ok (.istore 4, 2) := by decide +kernel
theorem dX2_jam_46 : decode cX2_jam 46 = .ok (.iload 4, 2) := by decide +kernel
theorem dX2_jam_48 : decode cX2_jam 48 = .ok (.iload_n 3, 1) := by decide +kernel
theorem dX2_jam_49 : decode cX2_jam 49 = .ok (.if_icmp .gt 21, 3) := by decide +kernel
theorem dX2_jam_52 : decode cX2_jam 52 = .ok (.aload_n 0, 1) := by decide +kernel
theorem dX2_jam_53 : decode cX2_jam 53 = .ok (.aload_n 0, 1) := by decide +kernel
theorem dX2_jam_54 : decode cX2_jam 54 = .ok (.iload_n 1, 1) := by decide +kernel
theorem dX2_jam_55 : decode cX2_jam 55 = .ok (.iload 4, 2) := by decide +kernel
theorem dX2_jam_57 : decode cX2_jam 57 = .ok (.iadd, 1) := by decide +kernel
theorem dX2_jam_58 : decode cX2_jam 58 = .ok (.invokevirtual 177, 3) := by decide +kernel
theorem dX2_jam_61 : decode cX2_jam 61 = .ok (.invokevirtual 180, 3) := by decide +kernel
theorem dX2_jam_64 : decode cX2_jam 64 = .ok (.iinc 4 1, 3) := by decide +kernel
theorem dX2_jam_67 : decode cX2_jam 67 = .ok (.goto (-21), 3) := by decide +kernel
theorem dX2_jam_70 : decode cX2_jam 70 = .ok (.aload_n 0, 1) := by decide +kernel
theorem dX2_jam_71 : decode cX2_jam 71 = .ok (.getfield 21, 3) := by decide +kernel
theorem dX2_jam_74 : decode cX2_jam 74 = .ok (.invokevirtual 64, 3) := by decide +kernel
theorem dX2_jam_77 : decode cX2_jam 77 = .ok (.ireturn, 1) := by decide +kernel
set_option maxRecDepth 20000 in
theorem ggX2_doubt_X1_at : GoodIn wsX2_doubt wsX1_at := goodIn_r _ [7, 8, 9, 32, 33] (by decide +kernel) (by decide +kernel)
set_option maxRecDepth 20000 in
theorem gX2_doubt_X1_at : GoodIn wsX2_doubt (wsV RX2 141 RX1 yX1_at wsX1_at) := goodIn_app (goodIn_of _ (by decide +kernel)) ggX2_doubt_X1_at
theorem dX2_doubt_0 : decode cX2_doubt 0 = .ok (.aload_n 0, 1) := by decide +kernel
theorem dX2_doubt_1 : decode cX2_doubt 1 = .ok (.getfield 21, 3) := by decide +kernel
theorem dX2_doubt_4 : decode cX2_doubt 4 = .ok (.iload_n 1, 1) := by decide +kernel
theorem dX2_doubt_5 : decode cX2_doubt 5 = .ok (.invokevirtual 141, 3) := by decide +kernel
theorem dX2_doubt_8 : decode cX2_doubt 8 = .ok (.astore_n 2, 1) := by decide +kernel
theorem dX2_doubt_9 : decode cX2_doubt 9 = .ok (.aload_n 2, 1) := by decide +kernel
theorem dX2_doubt_10 : decode cX2_doubt 10 = .ok (.ifnonnull 7, 3) := by decide +kernel
theorem dX2_doubt_13 : decode cX2_doubt 13 = .ok (.iconst (-1), 1) := by decide +kernel
theorem dX2_doubt_14 : decode cX2_doubt 14 = .ok (.goto 7, 3) := by decide +kernel
theorem dX2_doubt_17 : decode cX2_doubt 17 = .ok (.aload_n 2, 1) := by decide +kernel
theorem dX2_doubt_18 : decode cX2_doubt 18 = .ok (.getfield 75, 3) := by decide +kernel
theorem dX2_doubt_21 : decode cX2_doubt 21 = .ok (.ireturn, 1) := by decide +kernel
set_option maxRecDepth 20000 in
theorem ggX2_found_X2_itemNumbered : GoodIn wsX2_found wsX2_itemNumbered := goodIn_ca (goodIn_r _ [9, 10, 11, 12, 13, 14, 15, 16, 17, 18, 19, 41, 42, 43, 44, 45, 46, 47, 48, 49, 50, 51, 52] (by decide +kernel) (by decide +kernel)) (goodIn_sub (fun _ h => List.mem_cons_of_mem _ (List.mem_append_right _ h)) (by decide +kernel))
set_option maxRecDepth 20000 in
theorem gX2_found_X2_itemNumbered : GoodIn wsX2_found (wsV RX2 78 RX2 yX2_itemNumbered wsX2_itemNumbered) := goodIn_app (goodIn_of _ (by decide +kernel)) ggX2_found_X2_itemNumbered
set_option maxRecDepth 20000 in
theorem ggX2_found_X2_countNotFound : GoodIn wsX2_found wsX2_countNotFound := goodIn_r _ [23, 24, 4, 25, 26, 27, 16, 28, 18, 13, 14, 15, 17, 19, 41, 42, 43, 44, 45, 46, 47, 48, 49, 50, 29, 30, 31, 32, 33, 34, 35, 36, 37, 38, 39, 40, 51, 52] (by decide +kernel) (by decide +kernel)
set_option maxRecDepth 20000 in
theorem gX2_found_X2_countNotFound : GoodIn wsX2_found (wsV RX2 190 RX2 yX2_countNotFound wsX2_countNotFound) := goodIn_app (goodIn_of _ (by decide +kernel)) ggX2_found_X2_countNotFound
theorem dX2_found_0 : decode cX2_found 0 = .ok (.aload_n 0, 1) := by decide +kernel
theorem dX2_found_1 : decode cX2_found 1 = .ok (.iload_n 1, 1) := by decide +kernel
theorem dX2_found_2 : decode cX2_found 2 = .ok (.invokevirtual 78, 3) := by decide +kernel
theorem dX2_found_5 : decode cX2_found 5 = .ok (.astore_n 3, 1) := by decide +kernel
theorem dX2_found_6 : decode cX2_found 6 = .ok (.aload_n 3, 1) := by decide +kernel
theorem dX2_found_7 : decode cX2_found 7 = .ok (.getfield 183, 3) := by decide +kernel
theorem dX2_found_10 : decode cX2_found 10 = .ok (.ifCond .ne 13, 3) := by decide +kernel
theorem dX2_found_13 : decode cX2_found 13 = .ok (.new 99, 3) := by decide +kernel
theorem dX2_found_16 : decode cX2_found 16 = .ok (.dup, 1) := by decide +kernel
theorem dX2_found_17 : decode cX2_found 17 = .ok (.ldc 185, 2) := by decide +kernel
theorem dX2_found_19 : decode cX2_found 19 = .ok (.invokespecial 103, 3) := by decide +kernel
theorem dX2_found_22 : decode cX2_found 22 = .ok (.athrow, 1) := by decide +kernel
theorem dX2_found_23 : decode cX2_found 23 = .ok (.aload_n 3, 1) := by decide +kernel
theorem dX2_found_24 : decode cX2_found 24 = .ok (.iload_n 2, 1) := by decide +kernel
theorem dX2_found_25 : decode cX2_found 25 = .ok (.putfield 187, 3) := by decide +kernel
theorem dX2_found_28 : decode cX2_found 28 = .ok (.aload_n 0, 1) := by decide +kernel
theorem dX2_found_29 : decode cX2_found 29 = .ok (.invokevirtual 190, 3) := by decide +kernel
theorem dX2_found_32 : decode cX2_found 32 = .ok (.ireturn, 1) := by decide +kernel
set_option maxRecDepth 20000 in
theorem ggX2_retrack_X1_size : GoodIn wsX2_retrack wsX1_size := goodIn_r _ [10, 11, 60, 61] (by decide +kernel) (by decide +kernel)
set_option maxRecDepth 20000 in
theorem gX2_retrack_X1_size : GoodIn wsX2_retrack (wsV RX2 64 RX1 yX1_size wsX1_size) := goodIn_app (goodIn_of _ (by decide +kernel)) ggX2_retrack_X1_size
set_option maxRecDepth 20000 in
theorem ggX2_retrack_X1_at : GoodIn wsX2_retrack wsX1_at := goodIn_r _ [15, 11, 16, 60, 61] (by decide +kernel) (by decide +kernel)
set_option maxRecDepth 20000 in
theorem gX2_retrack_X1_at : GoodIn wsX2_retrack (wsV RX2 141 RX1 yX1_at wsX1_at) := goodIn_app (goodIn_of _ (by decide +kernel)) ggX2_retrack_X1_at
set_option maxRecDepth 20000 in
theorem ggX2_retrack_X2_endDoubt : GoodIn wsX2_retrack wsX2_endDoubt := goodIn_r _ [21, 22, 23, 24, 25, 26, 20, 27, 28, 29, 30, 31, 32, 33, 4, 34, 35, 36, 37, 38, 39, 40, 9, 41, 16, 11, 42, 43, 44, 45, 62, 63, 64, 65, 66, 67, 68, 69, 70, 71, 72, 73, 50, 51, 52, 53, 54, 55, 56, 57, 58, 59, 60, 61] (by decide +kernel) (by decide +kernel)
set_option maxRecDepth 20000 in
theorem gX2_retrack_X2_endDoubt : GoodIn wsX2_retrack (wsV RX2 195 RX2 yX2_endDoubt wsX2_endDoubt) := goodIn_app (goodIn_of _ (by decide +kernel)) ggX2_retrack_X2_endDoubt
set_option maxRecDepth 20000 in
theorem ggX2_retrack_X1_clear : GoodIn wsX2_retrack wsX1_clear := goodIn_r _ [49, 11, 60, 61] (by decide +kernel) (by decide +kernel)
set_option maxRecDepth 20000 in
theorem gX2_retrack_X1_clear : GoodIn wsX2_retrack (wsV RX2 198 RX1 yX1_clear wsX1_clear) := goodIn_app (goodIn_of _ (by decide +kernel)) ggX2_retrack_X1_clear
theorem dX2_retrack_0 : decode cX2_retrack 0 = .ok (.aload_n 0, 1) := by decide +kernel
theorem dX2_retrack_1 : decode cX2_retrack 1 = .ok (.getfield 173, 3) := by decide +kernel
theorem dX2_retrack_4 : decode cX2_retrack 4 = .ok (.ifCond .ne 13, 3) := by decide +kernel
theorem dX2_retrack_7 : decode cX2_retrack 7 = .ok (.new 99, 3) := by decide +kernel
theorem dX2_retrack_10 : decode cX2_retrack 10 = .ok (.dup, 1) := by decide +kernel
theorem dX2_retrack_11 : decode cX2_retrack 11 = .ok (.ldc 193, 2) := by decide +kernel
theorem dX2_retrack_13 : decode cX2_retrack 13 = .ok (.invokespecial 103, 3) := by decide +kernel
theorem dX2_retrack_16 : decode cX2_retrack 16 = .ok (.athrow, 1) := by decide +kernel
theorem dX2_retrack_17 : decode cX2_retrack 17 = .ok (.aload_n 0, 1) := by decide +kernel
theorem dX2_retrack_18 : decode cX2_retrack 18 = .ok (.getfield 18, 3) := by decide +kernel
theorem dX2_retrack_21 : decode cX2_retrack 21 = .ok (.invokevirtual 64, 3) := by decide +kernel
theorem dX2_retrack_24 : decode cX2_retrack 24 = .ok (.istore_n 1, 1) := by decide +kernel
theorem dX2_retrack_25 : decode cX2_retrack 25 = .ok (.iconst 0, 1) := by decide +kernel
theorem dX2_retrack_26 : decode cX2_retrack 26 = .ok (.istore_n 2, 1) := by decide +kernel
theorem dX2_retrack_27 : decode cX2_retrack 27 = .ok (.iload_n 2, 1) := by decide +kernel
theorem dX2_retrack_28 : decode cX2_retrack 28 = .ok (.aload_n 0, 1) := by decide +kernel
theorem dX2_retrack_29 : decode cX2_retrack 29 = .ok (.getfield 21, 3) := by decide +kernel
theorem dX2_retrack_32 : decode cX2_retrack 32 = .ok (.invokevirtual 64, 3) := by decide +kernel
theorem dX2_retrack_35 : decode cX2_retrack 35 = .ok (.if_icmp .ge 21, 3) := by decide +kernel
theorem dX2_retrack_38 : decode cX2_retrack 38 = .ok (.aload_n 0, 1) := by decide +kernel
theorem dX2_retrack_39 : decode cX2_retrack 39 = .ok (.aload_n 0, 1) := by decide +kernel
theorem dX2_retrack_40 : decode cX2_retrack 40 = .ok (.getfield 21, 3) := by decide +kernel
theorem dX2_retrack_43 : decode cX2_retrack 43 = .ok (.iload_n 2, 1) := by decide +kernel
theorem dX2_retrack_44 : decode cX2_retrack 44 = .ok (.invokevirtual 141, 3) := by decide +kernel
theorem dX2_retrack_47 : decode cX2_retrack 47 = .ok (.invokevirtual 195, 3) := by decide +kernel
theorem dX2_retrack_50 : decode cX2_retrack 50 = .ok (.iinc 2 1, 3) := by decide +kernel
theorem dX2_retrack_53 : decode cX2_retrack 53 = .ok (.goto (-26), 3) := by decide +kernel
theorem dX2_retrack_56 : decode cX2_retrack 56 = .ok (.aload_n 0, 1) := by decide +kernel
theorem dX2_retrack_57 : decode cX2_retrack 57 = .ok (.getfield 21, 3) := by decide +kernel
theorem dX2_retrack_60 : decode cX2_retrack 60 = .ok (.invokevirtual 198, 3) := by decide +kernel
theorem dX2_retrack_63 : decode cX2_retrack 63 = .ok (.aload_n 0, 1) := by decide +kernel
theorem dX2_retrack_64 : decode cX2_retrack 64 = .ok (.iconst 0, 1) := by decide +kernel
theorem dX2_retrack_65 : decode cX2_retrack 65 = .ok (.putfield 173, 3) := by decide +kernel
theorem dX2_retrack_68 : decode cX2_retrack 68 = .ok (.aload_n 0, 1) := by decide +kernel
theorem dX2_retrack_69 : decode cX2_retrack 69 = .ok (.getfield 18, 3) := by decide +kernel
theorem dX2_retrack_72 : decode cX2_retrack 72 = .ok (.invokevirtual 64, 3) := by decide +kernel
theorem dX2_retrack_75 : decode cX2_retrack 75 = .ok (.iload_n 1, 1) := by decide +kernel
theorem dX2_retrack_76 : decode cX2_retrack 76 = .ok (.isub, 1) := by decide +kernel
theorem dX2_retrack_77 : decode cX2_retrack 77 = .ok (.ireturn, 1) := by decide +kernel
set_option maxRecDepth 20000 in
theorem ggX2_manual_X2_itemNumbered : GoodIn wsX2_manual wsX2_itemNumbered := goodIn_ca (goodIn_r _ [8, 9, 10, 11, 12, 13, 14, 15, 16, 17, 18, 44, 45, 46, 47, 48, 49, 50, 51, 52, 53, 54, 55] (by decide +kernel) (by decide +kernel)) (goodIn_sub (fun _ h => List.mem_cons_of_mem _ (List.mem_append_right _ h)) (by decide +kernel))
set_option maxRecDepth 20000 in
theorem gX2_manual_X2_itemNumbered : GoodIn wsX2_manual (wsV RX2 78 RX2 yX2_itemNumbered wsX2_itemNumbered) := goodIn_app (goodIn_of _ (by decide +kernel)) ggX2_manual_X2_itemNumbered
set_option maxRecDepth 20000 in
theorem ggX2_manual_X2_requireChute : GoodIn wsX2_manual wsX2_requireChute := goodIn_ca (goodIn_r _ [22, 9, 10, 23, 24, 25, 7, 26, 27, 44, 45, 46, 47, 48, 49, 50, 51, 52, 53] (by decide +kernel) (by decide +kernel)) (goodIn_sub (fun _ h => List.mem_cons_of_mem _ (List.mem_append_right _ h)) (by decide +kernel))
set_option maxRecDepth 20000 in
theorem gX2_manual_X2_requireChute : GoodIn wsX2_manual (wsV RX2 157 RX2 yX2_requireChute wsX2_requireChute) := goodIn_app (goodIn_of _ (by decide +kernel)) ggX2_manual_X2_requireChute
set_option maxRecDepth 20000 in
theorem ggX2_manual_X2_isFull : GoodIn wsX2_manual wsX2_isFull := goodIn_r _ [31, 27, 23, 24, 25, 7, 26, 44, 45, 46, 47, 48, 49, 50, 51, 52, 53] (by decide +kernel) (by decide +kernel)
set_option maxRecDepth 20000 in
theorem gX2_manual_X2_isFull : GoodIn wsX2_manual (wsV RX2 160 RX2 yX2_isFull wsX2_isFull) := goodIn_app (goodIn_of _ (by decide +kernel)) ggX2_manual_X2_isFull
theorem dX2_manual_0 : decode cX2_manual 0 = .ok (.aload_n 0, 1) := by decide +kernel
theorem dX2_manual_1 : decode cX2_manual 1 = .ok (.iload_n 1, 1) := by decide +kernel
theorem dX2_manual_2 : decode cX2_manual 2 = .ok (.invokevirtual 78, 3) := by decide +kernel
theorem dX2_manual_5 : decode cX2_manual 5 = .ok (.astore_n 3, 1) := by decide +kernel
theorem dX2_manual_6 : decode cX2_manual 6 = .ok (.aload_n 0, 1) := by decide +kernel
theorem dX2_manual_7 : decode cX2_manual 7 = .ok (.iload_n 2, 1) := by decide +kernel
theorem dX2_manual_8 : decode cX2_manual 8 = .ok (.invokevirtual 157, 3) := by decide +kernel
theorem dX2_manual_11 : decode cX2_manual 11 = .ok (.aload_n 3, 1) := by decide +kernel
theorem dX2_manual_12 : decode cX2_manual 12 = .ok (.getfield 123, 3) := by decide +kernel
theorem dX2_manual_15 : decode cX2_manual 15 = .ok (.iconst 3, 1) := by decide +kernel
theorem dX2_manual_16 : decode cX2_manual 16 = .ok (.if_icmp .eq 21, 3) := by decide +kernel
theorem dX2_manual_19 : decode cX2_manual 19 = .ok (.aload_n 3, 1) := by decide +kernel
theorem dX2_manual_20 : decode cX2_manual 20 = .ok (.getfield 123, 3) := by decide +kernel
theorem dX2_manual_23 : decode cX2_manual 23 = .ok (.iconst 5, 1) := by decide +kernel
theorem dX2_manual_24 : decode cX2_manual 24 = .ok (.if_icmp .eq 13, 3) := by decide +kernel
theorem dX2_manual_27 : decode cX2_manual 27 = .ok (.new 99, 3) := by decide +kernel
theorem dX2_manual_30 : decode cX2_manual 30 = .ok (.dup, 1) := by decide +kernel
theorem dX2_manual_31 : decode cX2_manual 31 = .ok (.ldc 201, 2) := by decide +kernel
theorem dX2_manual_33 : decode cX2_manual 33 = .ok (.invokespecial 103, 3) := by decide +kernel
theorem dX2_manual_36 : decode cX2_manual 36 = .ok (.athrow, 1) := by decide +kernel
theorem dX2_manual_37 : decode cX2_manual 37 = .ok (.aload_n 0, 1) := by decide +kernel
theorem dX2_manual_38 : decode cX2_manual 38 = .ok (.iload_n 2, 1) := by decide +kernel
theorem dX2_manual_39 : decode cX2_manual 39 = .ok (.invokevirtual 160, 3) := by decide +kernel
