theorem dX2_manual_42 : decode cX2_manual 42 = .ok (.ifCond .eq 5, 3) := by decide +kernel
theorem dX2_manual_45 : decode cX2_manual 45 = .ok (.iconst 0, 1) := by decide +kernel
theorem dX2_manual_46 : decode cX2_manual 46 = .ok (.ireturn, 1) := by decide +kernel
theorem dX2_manual_47 : decode cX2_manual 47 = .ok (.aload_n 3, 1) := by decide +kernel
theorem dX2_manual_48 : decode cX2_manual 48 = .ok (.iconst 2, 1) := by decide +kernel
theorem dX2_manual_49 : decode cX2_manual 49 = .ok (.putfield 123, 3) := by decide +kernel
theorem dX2_manual_52 : decode cX2_manual 52 = .ok (.iconst 1, 1) := by decide +kernel
theorem dX2_manual_53 : decode cX2_manual 53 = .ok (.ireturn, 1) := by decide +kernel
set_option maxRecDepth 20000 in
theorem ggX2_tray_X2_isInLoop : GoodIn wsX2_tray wsX2_isInLoop := goodIn_r _ [10, 4, 17, 18, 19, 20, 21, 22, 23, 24, 25, 26] (by decide +kernel) (by decide +kernel)
set_option maxRecDepth 20000 in
theorem gX2_tray_X2_isInLoop : GoodIn wsX2_tray (wsV RX2 168 RX2 yX2_isInLoop wsX2_isInLoop) := goodIn_app (goodIn_of _ (by decide +kernel)) ggX2_tray_X2_isInLoop
theorem dX2_tray_0 : decode cX2_tray 0 = .ok (.aload_n 0, 1) := by decide +kernel
theorem dX2_tray_1 : decode cX2_tray 1 = .ok (.iload_n 1, 1) := by decide +kernel
theorem dX2_tray_2 : decode cX2_tray 2 = .ok (.invokevirtual 168, 3) := by decide +kernel
theorem dX2_tray_5 : decode cX2_tray 5 = .ok (.ifCond .ne 13, 3) := by decide +kernel
theorem dX2_tray_8 : decode cX2_tray 8 = .ok (.new 203, 3) := by decide +kernel
theorem dX2_tray_11 : decode cX2_tray 11 = .ok (.dup, 1) := by decide +kernel
theorem dX2_tray_12 : decode cX2_tray 12 = .ok (.ldc 205, 2) := by decide +kernel
theorem dX2_tray_14 : decode cX2_tray 14 = .ok (.invokespecial 207, 3) := by decide +kernel
theorem dX2_tray_17 : decode cX2_tray 17 = .ok (.athrow, 1) := by decide +kernel
theorem dX2_tray_18 : decode cX2_tray 18 = .ok (.aload_n 0, 1) := by decide +kernel
theorem dX2_tray_19 : decode cX2_tray 19 = .ok (.getfield 39, 3) := by decide +kernel
theorem dX2_tray_22 : decode cX2_tray 22 = .ok (.iload_n 1, 1) := by decide +kernel
theorem dX2_tray_23 : decode cX2_tray 23 = .ok (.aaload, 1) := by decide +kernel
theorem dX2_tray_24 : decode cX2_tray 24 = .ok (.astore_n 2, 1) := by decide +kernel
theorem dX2_tray_25 : decode cX2_tray 25 = .ok (.aload_n 2, 1) := by decide +kernel
theorem dX2_tray_26 : decode cX2_tray 26 = .ok (.ifnonnull 7, 3) := by decide +kernel
theorem dX2_tray_29 : decode cX2_tray 29 = .ok (.iconst 0, 1) := by decide +kernel
theorem dX2_tray_30 : decode cX2_tray 30 = .ok (.goto 7, 3) := by decide +kernel
theorem dX2_tray_33 : decode cX2_tray 33 = .ok (.aload_n 2, 1) := by decide +kernel
theorem dX2_tray_34 : decode cX2_tray 34 = .ok (.getfield 75, 3) := by decide +kernel
theorem dX2_tray_37 : decode cX2_tray 37 = .ok (.ireturn, 1) := by decide +kernel
set_option maxRecDepth 20000 in
theorem ggX2_told_X2_itemNumbered : GoodIn wsX2_told wsX2_itemNumbered := goodIn_ca (goodIn_r _ [13, 1, 2, 14, 15, 16, 17, 18, 19, 20, 21, 44, 45, 46, 47, 48, 49, 50, 51, 52, 53, 54, 55] (by decide +kernel) (by decide +kernel)) (goodIn_sub (fun _ h => List.mem_cons_of_mem _ (List.mem_append_right _ h)) (by decide +kernel))
set_option maxRecDepth 20000 in
theorem gX2_told_X2_itemNumbered : GoodIn wsX2_told (wsV RX2 78 RX2 yX2_itemNumbered wsX2_itemNumbered) := goodIn_app (goodIn_of _ (by decide +kernel)) ggX2_told_X2_itemNumbered
set_option maxRecDepth 20000 in
theorem ggX2_told_X2_positionOf : GoodIn wsX2_told wsX2_positionOf := goodIn_r _ [25, 7, 26, 27, 28, 29, 12, 30, 31, 32, 33, 34, 35, 36, 37, 38, 39, 40, 41, 42, 43, 44, 45, 46, 47, 48, 49, 50, 51, 52, 53] (by decide +kernel) (by decide +kernel)
set_option maxRecDepth 20000 in
theorem gX2_told_X2_positionOf : GoodIn wsX2_told (wsV RX2 208 RX2 yX2_positionOf wsX2_positionOf) := goodIn_app (goodIn_of _ (by decide +kernel)) ggX2_told_X2_positionOf
theorem dX2_told_0 : decode cX2_told 0 = .ok (.aload_n 0, 1) := by decide +kernel
theorem dX2_told_1 : decode cX2_told 1 = .ok (.iload_n 1, 1) := by decide +kernel
theorem dX2_told_2 : decode cX2_told 2 = .ok (.invokevirtual 78, 3) := by decide +kernel
theorem dX2_told_5 : decode cX2_told 5 = .ok (.astore_n 3, 1) := by decide +kernel
theorem dX2_told_6 : decode cX2_told 6 = .ok (.iload_n 2, 1) := by decide +kernel
theorem dX2_told_7 : decode cX2_told 7 = .ok (.tableswitch 77 0 6 #[41, 46, 51, 56, 61, 66, 72], 41) := by decide +kernel
theorem dX2_told_48 : decode cX2_told 48 = .ok (.aload_n 3, 1) := by decide +kernel
theorem dX2_told_49 : decode cX2_told 49 = .ok (.getfield 123, 3) := by decide +kernel
theorem dX2_told_52 : decode cX2_told 52 = .ok (.ireturn, 1) := by decide +kernel
theorem dX2_told_53 : decode cX2_told 53 = .ok (.aload_n 3, 1) := by decide +kernel
theorem dX2_told_54 : decode cX2_told 54 = .ok (.getfield 104, 3) := by decide +kernel
theorem dX2_told_57 : decode cX2_told 57 = .ok (.ireturn, 1) := by decide +kernel
theorem dX2_told_58 : decode cX2_told 58 = .ok (.aload_n 3, 1) := by decide +kernel
theorem dX2_told_59 : decode cX2_told 59 = .ok (.getfield 152, 3) := by decide +kernel
theorem dX2_told_62 : decode cX2_told 62 = .ok (.ireturn, 1) := by decide +kernel
theorem dX2_told_63 : decode cX2_told 63 = .ok (.aload_n 3, 1) := by decide +kernel
theorem dX2_told_64 : decode cX2_told 64 = .ok (.getfield 118, 3) := by decide +kernel
theorem dX2_told_67 : decode cX2_told 67 = .ok (.ireturn, 1) := by decide +kernel
theorem dX2_told_68 : decode cX2_told 68 = .ok (.aload_n 3, 1) := by decide +kernel
theorem dX2_told_69 : decode cX2_told 69 = .ok (.getfield 115, 3) := by decide +kernel
theorem dX2_told_72 : decode cX2_told 72 = .ok (.ireturn, 1) := by decide +kernel
theorem dX2_told_73 : decode cX2_told 73 = .ok (.aload_n 0, 1) := by decide +kernel
theorem dX2_told_74 : decode cX2_told 74 = .ok (.aload_n 3, 1) := by decide +kernel
theorem dX2_told_75 : decode cX2_told 75 = .ok (.invokevirtual 208, 3) := by decide +kernel
theorem dX2_told_78 : decode cX2_told 78 = .ok (.ireturn, 1) := by decide +kernel
theorem dX2_told_79 : decode cX2_told 79 = .ok (.aload_n 3, 1) := by decide +kernel
theorem dX2_told_80 : decode cX2_told 80 = .ok (.getfield 130, 3) := by decide +kernel
theorem dX2_told_83 : decode cX2_told 83 = .ok (.ireturn, 1) := by decide +kernel
theorem dX2_told_84 : decode cX2_told 84 = .ok (.new 82, 3) := by decide +kernel
theorem dX2_told_87 : decode cX2_told 87 = .ok (.dup, 1) := by decide +kernel
theorem dX2_told_88 : decode cX2_told 88 = .ok (.ldc 155, 2) := by decide +kernel
theorem dX2_told_90 : decode cX2_told 90 = .ok (.invokespecial 86, 3) := by decide +kernel
theorem dX2_told_93 : decode cX2_told 93 = .ok (.athrow, 1) := by decide +kernel
set_option maxRecDepth 20000 in
theorem ggX2_count_X1_size : GoodIn wsX2_count wsX1_size := goodIn_r _ [10, 11, 37, 38] (by decide +kernel) (by decide +kernel)
set_option maxRecDepth 20000 in
theorem gX2_count_X1_size : GoodIn wsX2_count (wsV RX2 64 RX1 yX1_size wsX1_size) := goodIn_app (goodIn_of _ (by decide +kernel)) ggX2_count_X1_size
set_option maxRecDepth 20000 in
theorem ggX2_count_X2_countEmptyTrays : GoodIn wsX2_count wsX2_countEmptyTrays := goodIn_r _ [16, 1, 27, 28, 29, 30, 31, 32, 33, 34, 35, 36] (by decide +kernel) (by decide +kernel)
set_option maxRecDepth 20000 in
theorem gX2_count_X2_countEmptyTrays : GoodIn wsX2_count (wsV RX2 212 RX2 yX2_countEmptyTrays wsX2_countEmptyTrays) := goodIn_app (goodIn_of _ (by decide +kernel)) ggX2_count_X2_countEmptyTrays
set_option maxRecDepth 20000 in
theorem ggX2_count_X2_countOut : GoodIn wsX2_count wsX2_countOut := goodIn_r _ [20, 2, 21, 6, 7, 8, 9, 10, 11, 22, 23, 24, 25, 26, 27, 28, 29, 30, 31, 32, 33, 34, 35, 36, 39, 40, 41, 42, 43, 44, 45, 46, 47, 48, 49, 50, 37, 38] (by decide +kernel) (by decide +kernel)
set_option maxRecDepth 20000 in
theorem gX2_count_X2_countOut : GoodIn wsX2_count (wsV RX2 218 RX2 yX2_countOut wsX2_countOut) := goodIn_app (goodIn_of _ (by decide +kernel)) ggX2_count_X2_countOut
theorem dX2_count_0 : decode cX2_count 0 = .ok (.iload_n 1, 1) := by decide +kernel
theorem dX2_count_1 : decode cX2_count 1 = .ok (.tableswitch 93 0 6 #[43, 49, 57, 62, 67, 75, 80], 43) := by decide +kernel
theorem dX2_count_44 : decode cX2_count 44 = .ok (.aload_n 0, 1) := by decide +kernel
theorem dX2_count_45 : decode cX2_count 45 = .ok (.getfield 39, 3) := by decide +kernel
theorem dX2_count_48 : decode cX2_count 48 = .ok (.arraylength, 1) := by decide +kernel
theorem dX2_count_49 : decode cX2_count 49 = .ok (.ireturn, 1) := by decide +kernel
theorem dX2_count_50 : decode cX2_count 50 = .ok (.aload_n 0, 1) := by decide +kernel
theorem dX2_count_51 : decode cX2_count 51 = .ok (.getfield 14, 3) := by decide +kernel
theorem dX2_count_54 : decode cX2_count 54 = .ok (.invokevirtual 64, 3) := by decide +kernel
theorem dX2_count_57 : decode cX2_count 57 = .ok (.ireturn, 1) := by decide +kernel
theorem dX2_count_58 : decode cX2_count 58 = .ok (.aload_n 0, 1) := by decide +kernel
theorem dX2_count_59 : decode cX2_count 59 = .ok (.invokevirtual 212, 3) := by decide +kernel
theorem dX2_count_62 : decode cX2_count 62 = .ok (.ireturn, 1) := by decide +kernel
theorem dX2_count_63 : decode cX2_count 63 = .ok (.aload_n 0, 1) := by decide +kernel
theorem dX2_count_64 : decode cX2_count 64 = .ok (.getfield 215, 3) := by decide +kernel
theorem dX2_count_67 : decode cX2_count 67 = .ok (.ireturn, 1) := by decide +kernel
theorem dX2_count_68 : decode cX2_count 68 = .ok (.aload_n 0, 1) := by decide +kernel
theorem dX2_count_69 : decode cX2_count 69 = .ok (.getfield 43, 3) := by decide +kernel
theorem dX2_count_72 : decode cX2_count 72 = .ok (.arraylength, 1) := by decide +kernel
theorem dX2_count_73 : decode cX2_count 73 = .ok (.iconst 1, 1) := by decide +kernel
theorem dX2_count_74 : decode cX2_count 74 = .ok (.isub, 1) := by decide +kernel
theorem dX2_count_75 : decode cX2_count 75 = .ok (.ireturn, 1) := by decide +kernel
theorem dX2_count_76 : decode cX2_count 76 = .ok (.aload_n 0, 1) := by decide +kernel
theorem dX2_count_77 : decode cX2_count 77 = .ok (.invokevirtual 218, 3) := by decide +kernel
theorem dX2_count_80 : decode cX2_count 80 = .ok (.ireturn, 1) := by decide +kernel
theorem dX2_count_81 : decode cX2_count 81 = .ok (.aload_n 0, 1) := by decide +kernel
theorem dX2_count_82 : decode cX2_count 82 = .ok (.getfield 173, 3) := by decide +kernel
theorem dX2_count_85 : decode cX2_count 85 = .ok (.ifCond .eq 7, 3) := by decide +kernel
theorem dX2_count_88 : decode cX2_count 88 = .ok (.iconst 1, 1) := by decide +kernel
theorem dX2_count_89 : decode cX2_count 89 = .ok (.goto 4, 3) := by decide +kernel
theorem dX2_count_92 : decode cX2_count 92 = .ok (.iconst 0, 1) := by decide +kernel
theorem dX2_count_93 : decode cX2_count 93 = .ok (.ireturn, 1) := by decide +kernel
theorem dX2_count_94 : decode cX2_count 94 = .ok (.iconst (-1), 1) := by decide +kernel
theorem dX2_count_95 : decode cX2_count 95 = .ok (.ireturn, 1) := by decide +kernel
set_option maxRecDepth 20000 in
theorem ggX2_itemNumbered_X1_at : GoodIn wsX2_itemNumbered wsX1_at := goodIn_r _ [8, 9, 10, 21, 22] (by decide +kernel) (by decide +kernel)
set_option maxRecDepth 20000 in
theorem gX2_itemNumbered_X1_at : GoodIn wsX2_itemNumbered (wsV RX2 141 RX1 yX1_at wsX1_at) := goodIn_app (goodIn_of _ (by decide +kernel)) ggX2_itemNumbered_X1_at
theorem dX2_itemNumbered_0 : decode cX2_itemNumbered 0 = .ok (.aload_n 0, 1) := by decide +kernel
theorem dX2_itemNumbered_1 : decode cX2_itemNumbered 1 = .ok (.getfield 14, 3) := by decide +kernel
theorem dX2_itemNumbered_4 : decode cX2_itemNumbered 4 = .ok (.iload_n 1, 1) := by decide +kernel
theorem dX2_itemNumbered_5 : decode cX2_itemNumbered 5 = .ok (.iconst 1, 1) := by decide +kernel
theorem dX2_itemNumbered_6 : decode cX2_itemNumbered 6 = .ok (.isub, 1) := by decide +kernel
theorem dX2_itemNumbered_7 : decode cX2_itemNumbered 7 = .ok (.invokevirtual 141, 3) := by decide +kernel
theorem dX2_itemNumbered_10 : decode cX2_itemNumbered 10 = .ok (.astore_n 2, 1) := by decide +kernel
theorem dX2_itemNumbered_11 : decode cX2_itemNumbered 11 = .ok (.aload_n 2, 1) := by decide +kernel
theorem dX2_itemNumbered_12 : decode cX2_itemNumbered 12 = .ok (.ifnonnull 13, 3) := by decide +kernel
theorem dX2_itemNumbered_15 : decode cX2_itemNumbered 15 = .ok (.new 82, 3) := by decide +kernel
theorem dX2_itemNumbered_18 : decode cX2_itemNumbered 18 = .ok (.dup, 1) := by decide +kernel
theorem dX2_itemNumbered_19 : decode cX2_itemNumbered 19 = .ok (.ldc 221, 2) := by decide +kernel
theorem dX2_itemNumbered_21 : decode cX2_itemNumbered 21 = .ok (.invokespecial 86, 3) := by decide +kernel
theorem dX2_itemNumbered_24 : decode cX2_itemNumbered 24 = .ok (.athrow, 1) := by decide +kernel
theorem dX2_itemNumbered_25 : decode cX2_itemNumbered 25 = .ok (.aload_n 2, 1) := by decide +kernel
theorem dX2_itemNumbered_26 : decode cX2_itemNumbered 26 = .ok (.areturn, 1) := by decide +kernel
theorem dX2_requireLength_0 : decode cX2_requireLength 0 = .ok (.iload_n 1, 1) := by decide +kernel
theorem dX2_requireLength_1 : decode cX2_requireLength 1 = .ok (.iconst 1, 1) := by decide +kernel
theorem dX2_requireLength_2 : decode cX2_requireLength 2 = .ok (.if_icmp .lt 9, 3) := by decide +kernel
theorem dX2_requireLength_5 : decode cX2_requireLength 5 = .ok (.iload_n 1, 1) := by decide +kernel
theorem dX2_requireLength_6 : decode cX2_requireLength 6 = .ok (.bipush 100, 2) := by decide +kernel
theorem dX2_requireLength_8 : decode cX2_requireLength 8 = .ok (.if_icmp .le 13, 3) := by decide +kernel
theorem dX2_requireLength_11 : decode cX2_requireLength 11 = .ok (.new 82, 3) := by decide +kernel
theorem dX2_requireLength_14 : decode cX2_requireLength 14 = .ok (.dup, 1) := by decide +kernel
theorem dX2_requireLength_15 : decode cX2_requireLength 15 = .ok (.ldc 223, 2) := by decide +kernel
theorem dX2_requireLength_17 : decode cX2_requireLength 17 = .ok (.invokespecial 86, 3) := by decide +kernel
theorem dX2_requireLength_20 : decode cX2_requireLength 20 = .ok (.athrow, 1) := by decide +kernel
theorem dX2_requireLength_21 : decode cX2_requireLength 21 = .ok (.return_, 1) := by decide +kernel
set_option maxRecDepth 20000 in
theorem ggX2_requireChute_X2_isChute : GoodIn wsX2_requireChute wsX2_isChute := goodIn_r _ [7, 8, 9, 10, 11, 12, 13, 14, 15, 16, 17, 18] (by decide +kernel) (by decide +kernel)
set_option maxRecDepth 20000 in
theorem gX2_requireChute_X2_isChute : GoodIn wsX2_requireChute (wsV RX2 225 RX2 yX2_isChute wsX2_isChute) := goodIn_app (goodIn_of _ (by decide +kernel)) ggX2_requireChute_X2_isChute
theorem dX2_requireChute_0 : decode cX2_requireChute 0 = .ok (.aload_n 0, 1) := by decide +kernel
theorem dX2_requireChute_1 : decode cX2_requireChute 1 = .ok (.iload_n 1, 1) := by decide +kernel
theorem dX2_requireChute_2 : decode cX2_requireChute 2 = .ok (.invokevirtual 225, 3) := by decide +kernel
theorem dX2_requireChute_5 : decode cX2_requireChute 5 = .ok (.ifCond .ne 13, 3) := by decide +kernel
theorem dX2_requireChute_8 : decode cX2_requireChute 8 = .ok (.new 82, 3) := by decide +kernel
theorem dX2_requireChute_11 : decode cX2_requireChute 11 = .ok (.dup, 1) := by decide +kernel
theorem dX2_requireChute_12 : decode cX2_requireChute 12 = .ok (.ldc 228, 2) := by decide +kernel
theorem dX2_requireChute_14 : decode cX2_requireChute 14 = .ok (.invokespecial 86, 3) := by decide +kernel
theorem dX2_requireChute_17 : decode cX2_requireChute 17 = .ok (.athrow, 1) := by decide +kernel
theorem dX2_requireChute_18 : decode cX2_requireChute 18 = .ok (.return_, 1) := by decide +kernel
set_option maxRecDepth 20000 in
theorem ggX2_requireCode_X2_isChute : GoodIn wsX2_requireCode wsX2_isChute := goodIn_r _ [7, 8, 9, 10, 11, 12, 13, 14, 15, 16, 17, 18] (by decide +kernel) (by decide +kernel)
set_option maxRecDepth 20000 in
theorem gX2_requireCode_X2_isChute : GoodIn wsX2_requireCode (wsV RX2 225 RX2 yX2_isChute wsX2_isChute) := goodIn_app (goodIn_of _ (by decide +kernel)) ggX2_requireCode_X2_isChute
theorem dX2_requireCode_0 : decode cX2_requireCode 0 = .ok (.iload_n 1, 1) := by decide +kernel
theorem dX2_requireCode_1 : decode cX2_requireCode 1 = .ok (.ifCond .eq 21, 3) := by decide +kernel
theorem dX2_requireCode_4 : decode cX2_requireCode 4 = .ok (.aload_n 0, 1) := by decide +kernel
theorem dX2_requireCode_5 : decode cX2_requireCode 5 = .ok (.iload_n 1, 1) := by decide +kernel
theorem dX2_requireCode_6 : decode cX2_requireCode 6 = .ok (.invokevirtual 225, 3) := by decide +kernel
theorem dX2_requireCode_9 : decode cX2_requireCode 9 = .ok (.ifCond .ne 13, 3) := by decide +kernel
theorem dX2_requireCode_12 : decode cX2_requireCode 12 = .ok (.new 82, 3) := by decide +kernel
theorem dX2_requireCode_15 : decode cX2_requireCode 15 = .ok (.dup, 1) := by decide +kernel
theorem dX2_requireCode_16 : decode cX2_requireCode 16 = .ok (.ldc 230, 2) := by decide +kernel
theorem dX2_requireCode_18 : decode cX2_requireCode 18 = .ok (.invokespecial 86, 3) := by decide +kernel
theorem dX2_requireCode_21 : decode cX2_requireCode 21 = .ok (.athrow, 1) := by decide +kernel
theorem dX2_requireCode_22 : decode cX2_requireCode 22 = .ok (.return_, 1) := by decide +kernel
theorem dX2_requireNotJammed_0 : decode cX2_requireNotJammed 0 = .ok (.aload_n 0, 1) := by decide +kernel
theorem dX2_requireNotJammed_1 : decode cX2_requireNotJammed 1 = .ok (.getfield 173, 3) := by decide +kernel
theorem dX2_requireNotJammed_4 : decode cX2_requireNotJammed 4 = .ok (.ifCond .eq 13, 3) := by decide +kernel
theorem dX2_requireNotJammed_7 : decode cX2_requireNotJammed 7 = .ok (.new 99, 3) := by decide +kernel
theorem dX2_requireNotJammed_10 : decode cX2_requireNotJammed 10 = .ok (.dup, 1) := by decide +kernel
theorem dX2_requireNotJammed_11 : decode cX2_requireNotJammed 11 = .ok (.ldc 232, 2) := by decide +kernel
theorem dX2_requireNotJammed_13 : decode cX2_requireNotJammed 13 = .ok (.invokespecial 103, 3) := by decide +kernel
theorem dX2_requireNotJammed_16 : decode cX2_requireNotJammed 16 = .ok (.athrow, 1) := by decide +kernel
theorem dX2_requireNotJammed_17 : decode cX2_requireNotJammed 17 = .ok (.return_, 1) := by decide +kernel
theorem dX2_requireFit_0 : decode cX2_requireFit 0 = .ok (.aload_n 1, 1) := by decide +kernel
theorem dX2_requireFit_1 : decode cX2_requireFit 1 = .ok (.getfield 123, 3) := by decide +kernel
theorem dX2_requireFit_4 : decode cX2_requireFit 4 = .ok (.ifCond .eq 13, 3) := by decide +kernel
theorem dX2_requireFit_7 : decode cX2_requireFit 7 = .ok (.new 99, 3) := by decide +kernel
theorem dX2_requireFit_10 : decode cX2_requireFit 10 = .ok (.dup, 1) := by decide +kernel
theorem dX2_requireFit_11 : decode cX2_requireFit 11 = .ok (.ldc 234, 2) := by decide +kernel
theorem dX2_requireFit_13 : decode cX2_requireFit 13 = .ok (.invokespecial 103, 3) := by decide +kernel
theorem dX2_requireFit_16 : decode cX2_requireFit 16 = .ok (.athrow, 1) := by decide +kernel
theorem dX2_requireFit_17 : decode cX2_requireFit 17 = .ok (.aload_n 1, 1) := by decide +kernel
theorem dX2_requireFit_18 : decode cX2_requireFit 18 = .ok (.getfield 118, 3) := by decide +kernel
theorem dX2_requireFit_21 : decode cX2_requireFit 21 = .ok (.aload_n 0, 1) := by decide +kernel
theorem dX2_requireFit_22 : decode cX2_requireFit 22 = .ok (.getfield 24, 3) := by decide +kernel
theorem dX2_requireFit_25 : decode cX2_requireFit 25 = .ok (.if_icmp .le 13, 3) := by decide +kernel
theorem dX2_requireFit_28 : decode cX2_requireFit 28 = .ok (.new 99, 3) := by decide +kernel
theorem dX2_requireFit_31 : decode cX2_requireFit 31 = .ok (.dup, 1) := by decide +kernel
theorem dX2_requireFit_32 : decode cX2_requireFit 32 = .ok (.ldc 236, 2) := by decide +kernel
theorem dX2_requireFit_34 : decode cX2_requireFit 34 = .ok (.invokespecial 103, 3) := by decide +kernel
theorem dX2_requireFit_37 : decode cX2_requireFit 37 = .ok (.athrow, 1) := by decide +kernel
theorem dX2_requireFit_38 : decode cX2_requireFit 38 = .ok (.return_, 1) := by decide +kernel
theorem dX2_isChute_0 : decode cX2_isChute 0 = .ok (.iload_n 1, 1) := by decide +kernel
theorem dX2_isChute_1 : decode cX2_isChute 1 = .ok (.iconst 1, 1) := by decide +kernel
theorem dX2_isChute_2 : decode cX2_isChute 2 = .ok (.if_icmp .lt 16, 3) := by decide +kernel
theorem dX2_isChute_5 : decode cX2_isChute 5 = .ok (.iload_n 1, 1) := by decide +kernel
theorem dX2_isChute_6 : decode cX2_isChute 6 = .ok (.aload_n 0, 1) := by decide +kernel
theorem dX2_isChute_7 : decode cX2_isChute 7 = .ok (.getfield 43, 3) := by decide +kernel
theorem dX2_isChute_10 : decode cX2_isChute 10 = .ok (.arraylength, 1) := by decide +kernel
theorem dX2_isChute_11 : decode cX2_isChute 11 = .ok (.if_icmp .ge 7, 3) := by decide +kernel
theorem dX2_isChute_14 : decode cX2_isChute 14 = .ok (.iconst 1, 1) := by decide +kernel
theorem dX2_isChute_15 : decode cX2_isChute 15 = .ok (.goto 4, 3) := by decide +kernel
theorem dX2_isChute_18 : decode cX2_isChute 18 = .ok (.iconst 0, 1) := by decide +kernel
theorem dX2_isChute_19 : decode cX2_isChute 19 = .ok (.ireturn, 1) := by decide +kernel
set_option maxRecDepth 20000 in
theorem ggX2_isFull_X2_isChute : GoodIn wsX2_isFull wsX2_isChute := goodIn_r _ [6, 1, 7, 8, 9, 10, 11, 12, 13, 14, 15, 16] (by decide +kernel) (by decide +kernel)
set_option maxRecDepth 20000 in
theorem gX2_isFull_X2_isChute : GoodIn wsX2_isFull (wsV RX2 225 RX2 yX2_isChute wsX2_isChute) := goodIn_app (goodIn_of _ (by decide +kernel)) ggX2_isFull_X2_isChute
theorem dX2_isFull_0 : decode cX2_isFull 0 = .ok (.aload_n 0, 1) := by decide +kernel
theorem dX2_isFull_1 : decode cX2_isFull 1 = .ok (.iload_n 1, 1) := by decide +kernel
theorem dX2_isFull_2 : decode cX2_isFull 2 = .ok (.invokevirtual 225, 3) := by decide +kernel
theorem dX2_isFull_5 : decode cX2_isFull 5 = .ok (.ifCond .eq 16, 3) := by decide +kernel
theorem dX2_isFull_8 : decode cX2_isFull 8 = .ok (.aload_n 0, 1) := by decide +kernel
theorem dX2_isFull_9 : decode cX2_isFull 9 = .ok (.getfield 43, 3) := by decide +kernel
theorem dX2_isFull_12 : decode cX2_isFull 12 = .ok (.iload_n 1, 1) := by decide +kernel
theorem dX2_isFull_13 : decode cX2_isFull 13 = .ok (.baload, 1) := by decide +kernel
theorem dX2_isFull_14 : decode cX2_isFull 14 = .ok (.ifCond .eq 7, 3) := by decide +kernel
theorem dX2_isFull_17 : decode cX2_isFull 17 = .ok (.iconst 1, 1) := by decide +kernel
theorem dX2_isFull_18 : decode cX2_isFull 18 = .ok (.goto 4, 3) := by decide +kernel
theorem dX2_isFull_21 : decode cX2_isFull 21 = .ok (.iconst 0, 1) := by decide +kernel
theorem dX2_isFull_22 : decode cX2_isFull 22 = .ok (.ireturn, 1) := by decide +kernel
set_option maxRecDepth 20000 in
theorem ggX2_setFull_X2_isChute : GoodIn wsX2_setFull wsX2_isChute := goodIn_r _ [6, 1, 7, 8, 9, 10, 11, 12, 13, 14, 15, 16] (by decide +kernel) (by decide +kernel)
set_option maxRecDepth 20000 in
theorem gX2_setFull_X2_isChute : GoodIn wsX2_setFull (wsV RX2 225 RX2 yX2_isChute wsX2_isChute) := goodIn_app (goodIn_of _ (by decide +kernel)) ggX2_setFull_X2_isChute
theorem dX2_setFull_0 : decode cX2_setFull 0 = .ok (.aload_n 0, 1) := by decide +kernel
theorem dX2_setFull_1 : decode cX2_setFull 1 = .ok (.iload_n 1, 1) := by decide +kernel
theorem dX2_setFull_2 : decode cX2_setFull 2 = .ok (.invokevirtual 225, 3) := by decide +kernel
theorem dX2_setFull_5 : decode cX2_setFull 5 = .ok (.ifCond .eq 10, 3) := by decide +kernel
theorem dX2_setFull_8 : decode cX2_setFull 8 = .ok (.aload_n 0, 1) := by decide +kernel
theorem dX2_setFull_9 : decode cX2_setFull 9 = .ok (.getfield 43, 3) := by decide +kernel
theorem dX2_setFull_12 : decode cX2_setFull 12 = .ok (.iload_n 1, 1) := by decide +kernel
theorem dX2_setFull_13 : decode cX2_setFull 13 = .ok (.iload_n 2, 1) := by decide +kernel
theorem dX2_setFull_14 : decode cX2_setFull 14 = .ok (.bastore, 1) := by decide +kernel
theorem dX2_setFull_15 : decode cX2_setFull 15 = .ok (.return_, 1) := by decide +kernel
theorem dX2_isInLoop_0 : decode cX2_isInLoop 0 = .ok (.iload_n 1, 1) := by decide +kernel
theorem dX2_isInLoop_1 : decode cX2_isInLoop 1 = .ok (.ifCond .lt 16, 3) := by decide +kernel
theorem dX2_isInLoop_4 : decode cX2_isInLoop 4 = .ok (.iload_n 1, 1) := by decide +kernel
theorem dX2_isInLoop_5 : decode cX2_isInLoop 5 = .ok (.aload_n 0, 1) := by decide +kernel
theorem dX2_isInLoop_6 : decode cX2_isInLoop 6 = .ok (.getfield 39, 3) := by decide +kernel
theorem dX2_isInLoop_9 : decode cX2_isInLoop 9 = .ok (.arraylength, 1) := by decide +kernel
theorem dX2_isInLoop_10 : decode cX2_isInLoop 10 = .ok (.if_icmp .ge 7, 3) := by decide +kernel
theorem dX2_isInLoop_13 : decode cX2_isInLoop 13 = .ok (.iconst 1, 1) := by decide +kernel
theorem dX2_isInLoop_14 : decode cX2_isInLoop 14 = .ok (.goto 4, 3) := by decide +kernel
theorem dX2_isInLoop_17 : decode cX2_isInLoop 17 = .ok (.iconst 0, 1) := by decide +kernel
theorem dX2_isInLoop_18 : decode cX2_isInLoop 18 = .ok (.ireturn, 1) := by decide +kernel
theorem dX2_intoLoop_0 : decode cX2_intoLoop 0 = .ok (.iload_n 1, 1) := by decide +kernel
theorem dX2_intoLoop_1 : decode cX2_intoLoop 1 = .ok (.ifCond .ge 11, 3) := by decide +kernel
theorem dX2_intoLoop_4 : decode cX2_intoLoop 4 = .ok (.iload_n 1, 1) := by decide +kernel
theorem dX2_intoLoop_5 : decode cX2_intoLoop 5 = .ok (.aload_n 0, 1) := by decide +kernel
theorem dX2_intoLoop_6 : decode cX2_intoLoop 6 = .ok (.getfield 39, 3) := by decide +kernel
theorem dX2_intoLoop_9 : decode cX2_intoLoop 9 = .ok (.arraylength, 1) := by decide +kernel
theorem dX2_intoLoop_10 : decode cX2_intoLoop 10 = .ok (.iadd, 1) := by decide +kernel
theorem dX2_intoLoop_11 : decode cX2_intoLoop 11 = .ok (.ireturn, 1) := by decide +kernel
theorem dX2_intoLoop_12 : decode cX2_intoLoop 12 = .ok (.iload_n 1, 1) := by decide +kernel
theorem dX2_intoLoop_13 : decode cX2_intoLoop 13 = .ok (.aload_n 0, 1) := by decide +kernel
theorem dX2_intoLoop_14 : decode cX2_intoLoop 14 = .ok (.getfield 39, 3) := by decide +kernel
theorem dX2_intoLoop_17 : decode cX2_intoLoop 17 = .ok (.arraylength, 1) := by decide +kernel
theorem dX2_intoLoop_18 : decode cX2_intoLoop 18 = .ok (.if_icmp .ge 7, 3) := by decide +kernel
theorem dX2_intoLoop_21 : decode cX2_intoLoop 21 = .ok (.iload_n 1, 1) := by decide +kernel
theorem dX2_intoLoop_22 : decode cX2_intoLoop 22 = .ok (.goto 10, 3) := by decide +kernel
theorem dX2_intoLoop_25 : decode cX2_intoLoop 25 = .ok (.iload_n 1, 1) := by decide +kernel
theorem dX2_intoLoop_26 : decode cX2_intoLoop 26 = .ok (.aload_n 0, 1) := by decide +kernel
theorem dX2_intoLoop_27 : decode cX2_intoLoop 27 = .ok (.getfield 39, 3) := by decide +kernel
theorem dX2_intoLoop_30 : decode cX2_intoLoop 30 = .ok (.arraylength, 1) := by decide +kernel
theorem dX2_intoLoop_31 : decode cX2_intoLoop 31 = .ok (.isub, 1) := by decide +kernel
theorem dX2_intoLoop_32 : decode cX2_intoLoop 32 = .ok (.ireturn, 1) := by decide +kernel
set_option maxRecDepth 20000 in
theorem ggX2_trayAt_X2_intoLoop : GoodIn wsX2_trayAt wsX2_intoLoop := goodIn_r _ [6, 7, 8, 9, 10, 11, 12, 13, 14, 15, 16, 17] (by decide +kernel) (by decide +kernel)
set_option maxRecDepth 20000 in
theorem gX2_trayAt_X2_intoLoop : GoodIn wsX2_trayAt (wsV RX2 177 RX2 yX2_intoLoop wsX2_intoLoop) := goodIn_app (goodIn_of _ (by decide +kernel)) ggX2_trayAt_X2_intoLoop
theorem dX2_trayAt_0 : decode cX2_trayAt 0 = .ok (.aload_n 0, 1) := by decide +kernel
theorem dX2_trayAt_1 : decode cX2_trayAt 1 = .ok (.iload_n 1, 1) := by decide +kernel
theorem dX2_trayAt_2 : decode cX2_trayAt 2 = .ok (.aload_n 0, 1) := by decide +kernel
theorem dX2_trayAt_3 : decode cX2_trayAt 3 = .ok (.getfield 238, 3) := by decide +kernel
theorem dX2_trayAt_6 : decode cX2_trayAt 6 = .ok (.isub, 1) := by decide +kernel
theorem dX2_trayAt_7 : decode cX2_trayAt 7 = .ok (.invokevirtual 177, 3) := by decide +kernel
theorem dX2_trayAt_10 : decode cX2_trayAt 10 = .ok (.ireturn, 1) := by decide +kernel
set_option maxRecDepth 20000 in
theorem ggX2_itemAt_X2_trayAt : GoodIn wsX2_itemAt wsX2_trayAt := goodIn_r _ [6, 7, 8, 9, 10, 5, 11, 1, 16, 17, 18, 19, 20, 21, 22, 23, 24, 25] (by decide +kernel) (by decide +kernel)
set_option maxRecDepth 20000 in
theorem gX2_itemAt_X2_trayAt : GoodIn wsX2_itemAt (wsV RX2 107 RX2 yX2_trayAt wsX2_trayAt) := goodIn_app (goodIn_of _ (by decide +kernel)) ggX2_itemAt_X2_trayAt
set_option maxRecDepth 20000 in
theorem ggX2_itemAt_X2_isInLoop : GoodIn wsX2_itemAt wsX2_isInLoop := goodIn_r _ [15, 1, 16, 17, 18, 19, 20, 21, 22, 23, 24, 25] (by decide +kernel) (by decide +kernel)
set_option maxRecDepth 20000 in
theorem gX2_itemAt_X2_isInLoop : GoodIn wsX2_itemAt (wsV RX2 168 RX2 yX2_isInLoop wsX2_isInLoop) := goodIn_app (goodIn_of _ (by decide +kernel)) ggX2_itemAt_X2_isInLoop
theorem dX2_itemAt_0 : decode cX2_itemAt 0 = .ok (.aload_n 0, 1) := by decide +kernel
theorem dX2_itemAt_1 : decode cX2_itemAt 1 = .ok (.iload_n 1, 1) := by decide +kernel
theorem dX2_itemAt_2 : decode cX2_itemAt 2 = .ok (.invokevirtual 107, 3) := by decide +kernel
theorem dX2_itemAt_5 : decode cX2_itemAt 5 = .ok (.istore_n 2, 1) := by decide +kernel
theorem dX2_itemAt_6 : decode cX2_itemAt 6 = .ok (.aload_n 0, 1) := by decide +kernel
theorem dX2_itemAt_7 : decode cX2_itemAt 7 = .ok (.iload_n 2, 1) := by decide +kernel
theorem dX2_itemAt_8 : decode cX2_itemAt 8 = .ok (.invokevirtual 168, 3) := by decide +kernel
theorem dX2_itemAt_11 : decode cX2_itemAt 11 = .ok (.ifCond .eq 12, 3) := by decide +kernel
theorem dX2_itemAt_14 : decode cX2_itemAt 14 = .ok (.aload_n 0, 1) := by decide +kernel
theorem dX2_itemAt_15 : decode cX2_itemAt 15 = .ok (.getfield 39, 3) := by decide +kernel
theorem dX2_itemAt_18 : decode cX2_itemAt 18 = .ok (.iload_n 2, 1) := by decide +kernel
theorem dX2_itemAt_19 : decode cX2_itemAt 19 = .ok (.aaload, 1) := by decide +kernel
theorem dX2_itemAt_20 : decode cX2_itemAt 20 = .ok (.goto 4, 3) := by decide +kernel
theorem dX2_itemAt_23 : decode cX2_itemAt 23 = .ok (.aconst_null, 1) := by decide +kernel
theorem dX2_itemAt_24 : decode cX2_itemAt 24 = .ok (.areturn, 1) := by decide +kernel
set_option maxRecDepth 20000 in
theorem ggX2_positionOf_X2_intoLoop : GoodIn wsX2_positionOf wsX2_intoLoop := goodIn_r _ [7, 8, 21, 22, 23, 24, 25, 26, 27, 28, 29, 30] (by decide +kernel) (by decide +kernel)
set_option maxRecDepth 20000 in
theorem gX2_positionOf_X2_intoLoop : GoodIn wsX2_positionOf (wsV RX2 177 RX2 yX2_intoLoop wsX2_intoLoop) := goodIn_app (goodIn_of _ (by decide +kernel)) ggX2_positionOf_X2_intoLoop
theorem dX2_positionOf_0 : decode cX2_positionOf 0 = .ok (.aload_n 1, 1) := by decide +kernel
theorem dX2_positionOf_1 : decode cX2_positionOf 1 = .ok (.getfield 115, 3) := by decide +kernel
theorem dX2_positionOf_4 : decode cX2_positionOf 4 = .ok (.iconst (-1), 1) := by decide +kernel
theorem dX2_positionOf_5 : decode cX2_positionOf 5 = .ok (.if_icmp .ne 7, 3) := by decide +kernel
theorem dX2_positionOf_8 : decode cX2_positionOf 8 = .ok (.iconst (-1), 1) := by decide +kernel
theorem dX2_positionOf_9 : decode cX2_positionOf 9 = .ok (.goto 16, 3) := by decide +kernel
theorem dX2_positionOf_12 : decode cX2_positionOf 12 = .ok (.aload_n 0, 1) := by decide +kernel
theorem dX2_positionOf_13 : decode cX2_positionOf 13 = .ok (.aload_n 1, 1) := by decide +kernel
theorem dX2_positionOf_14 : decode cX2_positionOf 14 = .ok (.getfield 115, 3) := by decide +kernel
theorem dX2_positionOf_17 : decode cX2_positionOf 17 = .ok (.aload_n 0, 1) := by decide +kernel
theorem dX2_positionOf_18 : decode cX2_positionOf 18 = .ok (.getfield 238, 3) := by decide +kernel
theorem dX2_positionOf_21 : decode cX2_positionOf 21 = .ok (.iadd, 1) := by decide +kernel
theorem dX2_positionOf_22 : decode cX2_positionOf 22 = .ok (.invokevirtual 177, 3) := by decide +kernel
theorem dX2_positionOf_25 : decode cX2_positionOf 25 = .ok (.ireturn, 1) := by decide +kernel
set_option maxRecDepth 20000 in
theorem ggX2_putOnTray_X2_isInLoop : GoodIn wsX2_putOnTray wsX2_isInLoop := goodIn_r _ [8, 1, 9, 10, 11, 12, 13, 14, 15, 16, 17, 18] (by decide +kernel) (by decide +kernel)
set_option maxRecDepth 20000 in
theorem gX2_putOnTray_X2_isInLoop : GoodIn wsX2_putOnTray (wsV RX2 168 RX2 yX2_isInLoop wsX2_isInLoop) := goodIn_app (goodIn_of _ (by decide +kernel)) ggX2_putOnTray_X2_isInLoop
theorem dX2_putOnTray_0 : decode cX2_putOnTray 0 = .ok (.aload_n 0, 1) := by decide +kernel
theorem dX2_putOnTray_1 : decode cX2_putOnTray 1 = .ok (.iload_n 2, 1) := by decide +kernel
theorem dX2_putOnTray_2 : decode cX2_putOnTray 2 = .ok (.invokevirtual 168, 3) := by decide +kernel
theorem dX2_putOnTray_5 : decode cX2_putOnTray 5 = .ok (.ifCond .eq 20, 3) := by decide +kernel
theorem dX2_putOnTray_8 : decode cX2_putOnTray 8 = .ok (.aload_n 0, 1) := by decide +kernel
theorem dX2_putOnTray_9 : decode cX2_putOnTray 9 = .ok (.getfield 39, 3) := by decide +kernel
theorem dX2_putOnTray_12 : decode cX2_putOnTray 12 = .ok (.iload_n 2, 1) := by decide +kernel
theorem dX2_putOnTray_13 : decode cX2_putOnTray 13 = .ok (.aload_n 1, 1) := by decide +kernel
theorem dX2_putOnTray_14 : decode cX2_putOnTray 14 = .ok (.aastore, 1) := by decide +kernel
