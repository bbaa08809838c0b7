theorem dX2_putOnTray_15 : decode cX2_putOnTray 15 = .ok (.aload_n 1, 1) := by decide +kernel
theorem dX2_putOnTray_16 : decode cX2_putOnTray 16 = .ok (.iload_n 2, 1) := by decide +kernel
theorem dX2_putOnTray_17 : decode cX2_putOnTray 17 = .ok (.putfield 115, 3) := by decide +kernel
theorem dX2_putOnTray_20 : decode cX2_putOnTray 20 = .ok (.aload_n 1, 1) := by decide +kernel
theorem dX2_putOnTray_21 : decode cX2_putOnTray 21 = .ok (.iconst 1, 1) := by decide +kernel
theorem dX2_putOnTray_22 : decode cX2_putOnTray 22 = .ok (.putfield 123, 3) := by decide +kernel
theorem dX2_putOnTray_25 : decode cX2_putOnTray 25 = .ok (.return_, 1) := by decide +kernel
set_option maxRecDepth 20000 in
theorem ggX2_takeOffTray_X2_isInLoop : GoodIn wsX2_takeOffTray wsX2_isInLoop := goodIn_r _ [12, 2, 36, 37, 38, 39, 40, 41, 42, 43, 44, 45] (by decide +kernel) (by decide +kernel)
set_option maxRecDepth 20000 in
theorem gX2_takeOffTray_X2_isInLoop : GoodIn wsX2_takeOffTray (wsV RX2 168 RX2 yX2_isInLoop wsX2_isInLoop) := goodIn_app (goodIn_of _ (by decide +kernel)) ggX2_takeOffTray_X2_isInLoop
set_option maxRecDepth 20000 in
theorem ggX2_takeOffTray_X1_add : GoodIn wsX2_takeOffTray wsX1_add := goodIn_r _ [17, 18, 19, 20, 21, 22, 16, 23, 46, 47] (by decide +kernel) (by decide +kernel)
set_option maxRecDepth 20000 in
theorem gX2_takeOffTray_X1_add : GoodIn wsX2_takeOffTray (wsV RX2 71 RX1 yX1_add wsX1_add) := goodIn_app (goodIn_of _ (by decide +kernel)) ggX2_takeOffTray_X1_add
theorem dX2_takeOffTray_0 : decode cX2_takeOffTray 0 = .ok (.aload_n 0, 1) := by decide +kernel
theorem dX2_takeOffTray_1 : decode cX2_takeOffTray 1 = .ok (.aload_n 1, 1) := by decide +kernel
theorem dX2_takeOffTray_2 : decode cX2_takeOffTray 2 = .ok (.getfield 115, 3) := by decide +kernel
theorem dX2_takeOffTray_5 : decode cX2_takeOffTray 5 = .ok (.invokevirtual 168, 3) := by decide +kernel
theorem dX2_takeOffTray_8 : decode cX2_takeOffTray 8 = .ok (.ifCond .eq 13, 3) := by decide +kernel
theorem dX2_takeOffTray_11 : decode cX2_takeOffTray 11 = .ok (.aload_n 0, 1) := by decide +kernel
theorem dX2_takeOffTray_12 : decode cX2_takeOffTray 12 = .ok (.getfield 39, 3) := by decide +kernel
theorem dX2_takeOffTray_15 : decode cX2_takeOffTray 15 = .ok (.aload_n 1, 1) := by decide +kernel
theorem dX2_takeOffTray_16 : decode cX2_takeOffTray 16 = .ok (.getfield 115, 3) := by decide +kernel
theorem dX2_takeOffTray_19 : decode cX2_takeOffTray 19 = .ok (.aconst_null, 1) := by decide +kernel
theorem dX2_takeOffTray_20 : decode cX2_takeOffTray 20 = .ok (.aastore, 1) := by decide +kernel
theorem dX2_takeOffTray_21 : decode cX2_takeOffTray 21 = .ok (.aload_n 1, 1) := by decide +kernel
theorem dX2_takeOffTray_22 : decode cX2_takeOffTray 22 = .ok (.iconst (-1), 1) := by decide +kernel
theorem dX2_takeOffTray_23 : decode cX2_takeOffTray 23 = .ok (.putfield 115, 3) := by decide +kernel
theorem dX2_takeOffTray_26 : decode cX2_takeOffTray 26 = .ok (.aload_n 1, 1) := by decide +kernel
theorem dX2_takeOffTray_27 : decode cX2_takeOffTray 27 = .ok (.iload_n 2, 1) := by decide +kernel
theorem dX2_takeOffTray_28 : decode cX2_takeOffTray 28 = .ok (.putfield 123, 3) := by decide +kernel
theorem dX2_takeOffTray_31 : decode cX2_takeOffTray 31 = .ok (.aload_n 1, 1) := by decide +kernel
theorem dX2_takeOffTray_32 : decode cX2_takeOffTray 32 = .ok (.iload_n 3, 1) := by decide +kernel
theorem dX2_takeOffTray_33 : decode cX2_takeOffTray 33 = .ok (.putfield 146, 3) := by decide +kernel
theorem dX2_takeOffTray_36 : decode cX2_takeOffTray 36 = .ok (.aload_n 1, 1) := by decide +kernel
theorem dX2_takeOffTray_37 : decode cX2_takeOffTray 37 = .ok (.aload_n 0, 1) := by decide +kernel
theorem dX2_takeOffTray_38 : decode cX2_takeOffTray 38 = .ok (.getfield 215, 3) := by decide +kernel
theorem dX2_takeOffTray_41 : decode cX2_takeOffTray 41 = .ok (.putfield 149, 3) := by decide +kernel
theorem dX2_takeOffTray_44 : decode cX2_takeOffTray 44 = .ok (.aload_n 0, 1) := by decide +kernel
theorem dX2_takeOffTray_45 : decode cX2_takeOffTray 45 = .ok (.getfield 18, 3) := by decide +kernel
theorem dX2_takeOffTray_48 : decode cX2_takeOffTray 48 = .ok (.aload_n 1, 1) := by decide +kernel
theorem dX2_takeOffTray_49 : decode cX2_takeOffTray 49 = .ok (.invokevirtual 71, 3) := by decide +kernel
theorem dX2_takeOffTray_52 : decode cX2_takeOffTray 52 = .ok (.return_, 1) := by decide +kernel
set_option maxRecDepth 20000 in
theorem ggX2_makeOneStep_X2_intoLoop : GoodIn wsX2_makeOneStep wsX2_intoLoop := goodIn_r _ [8, 9, 63, 64, 65, 66, 67, 68, 69, 70, 71, 72] (by decide +kernel) (by decide +kernel)
set_option maxRecDepth 20000 in
theorem gX2_makeOneStep_X2_intoLoop : GoodIn wsX2_makeOneStep (wsV RX2 177 RX2 yX2_intoLoop wsX2_intoLoop) := goodIn_app (goodIn_of _ (by decide +kernel)) ggX2_makeOneStep_X2_intoLoop
set_option maxRecDepth 20000 in
theorem ggX2_makeOneStep_X2_passChute : GoodIn wsX2_makeOneStep wsX2_passChute := goodIn_r _ [13, 14, 15, 16, 17, 18, 19, 7, 20, 9, 21, 22, 23, 24, 2, 4, 5, 6, 8, 25, 26, 27, 28, 29, 30, 31, 32, 3, 33, 34, 35, 36, 37, 38, 39, 40, 41, 42, 43, 1, 44, 45, 46, 47, 48, 49, 50, 51, 52, 53, 54, 55, 56, 73, 74, 75, 76, 77, 78, 79, 80, 81, 82, 83, 84, 63, 64, 65, 66, 67, 68, 69, 70, 71, 72, 85, 86] (by decide +kernel) (by decide +kernel)
set_option maxRecDepth 20000 in
theorem gX2_makeOneStep_X2_passChute : GoodIn wsX2_makeOneStep (wsV RX2 241 RX2 yX2_passChute wsX2_passChute) := goodIn_app (goodIn_of _ (by decide +kernel)) ggX2_makeOneStep_X2_passChute
set_option maxRecDepth 20000 in
theorem ggX2_makeOneStep_X2_readAgainAtStart : GoodIn wsX2_makeOneStep wsX2_readAgainAtStart := goodIn_r _ [60, 14, 61, 62, 17, 18, 19, 7, 20, 9, 21, 22, 23, 24, 2, 4, 5, 6, 8, 25, 26, 27, 28, 37, 38, 39, 40, 41, 42, 43, 1, 44, 45, 46, 47, 48, 49, 50, 51, 52, 53, 54, 55, 56, 73, 74, 75, 76, 77, 78, 79, 80, 81, 82, 83, 84, 63, 64, 65, 66, 67, 68, 69, 70, 71, 72, 85, 86] (by decide +kernel) (by decide +kernel)
set_option maxRecDepth 20000 in
theorem gX2_makeOneStep_X2_readAgainAtStart : GoodIn wsX2_makeOneStep (wsV RX2 244 RX2 yX2_readAgainAtStart wsX2_readAgainAtStart) := goodIn_app (goodIn_of _ (by decide +kernel)) ggX2_makeOneStep_X2_readAgainAtStart
theorem dX2_makeOneStep_0 : decode cX2_makeOneStep 0 = .ok (.aload_n 0, 1) := by decide +kernel
theorem dX2_makeOneStep_1 : decode cX2_makeOneStep 1 = .ok (.dup, 1) := by decide +kernel
theorem dX2_makeOneStep_2 : decode cX2_makeOneStep 2 = .ok (.getfield 215, 3) := by decide +kernel
theorem dX2_makeOneStep_5 : decode cX2_makeOneStep 5 = .ok (.iconst 1, 1) := by decide +kernel
theorem dX2_makeOneStep_6 : decode cX2_makeOneStep 6 = .ok (.iadd, 1) := by decide +kernel
theorem dX2_makeOneStep_7 : decode cX2_makeOneStep 7 = .ok (.putfield 215, 3) := by decide +kernel
theorem dX2_makeOneStep_10 : decode cX2_makeOneStep 10 = .ok (.aload_n 0, 1) := by decide +kernel
theorem dX2_makeOneStep_11 : decode cX2_makeOneStep 11 = .ok (.aload_n 0, 1) := by decide +kernel
theorem dX2_makeOneStep_12 : decode cX2_makeOneStep 12 = .ok (.aload_n 0, 1) := by decide +kernel
theorem dX2_makeOneStep_13 : decode cX2_makeOneStep 13 = .ok (.getfield 238, 3) := by decide +kernel
theorem dX2_makeOneStep_16 : decode cX2_makeOneStep 16 = .ok (.iconst 1, 1) := by decide +kernel
theorem dX2_makeOneStep_17 : decode cX2_makeOneStep 17 = .ok (.iadd, 1) := by decide +kernel
theorem dX2_makeOneStep_18 : decode cX2_makeOneStep 18 = .ok (.invokevirtual 177, 3) := by decide +kernel
theorem dX2_makeOneStep_21 : decode cX2_makeOneStep 21 = .ok (.putfield 238, 3) := by decide +kernel
theorem dX2_makeOneStep_24 : decode cX2_makeOneStep 24 = .ok (.iconst 1, 1) := by decide +kernel
theorem dX2_makeOneStep_25 : decode cX2_makeOneStep 25 = .ok (.istore_n 1, 1) := by decide +kernel
theorem dX2_makeOneStep_26 : decode cX2_makeOneStep 26 = .ok (.iload_n 1, 1) := by decide +kernel
theorem dX2_makeOneStep_27 : decode cX2_makeOneStep 27 = .ok (.aload_n 0, 1) := by decide +kernel
theorem dX2_makeOneStep_28 : decode cX2_makeOneStep 28 = .ok (.getfield 43, 3) := by decide +kernel
theorem dX2_makeOneStep_31 : decode cX2_makeOneStep 31 = .ok (.arraylength, 1) := by decide +kernel
theorem dX2_makeOneStep_32 : decode cX2_makeOneStep 32 = .ok (.if_icmp .ge 14, 3) := by decide +kernel
theorem dX2_makeOneStep_35 : decode cX2_makeOneStep 35 = .ok (.aload_n 0, 1) := by decide +kernel
theorem dX2_makeOneStep_36 : decode cX2_makeOneStep 36 = .ok (.iload_n 1, 1) := by decide +kernel
theorem dX2_makeOneStep_37 : decode cX2_makeOneStep 37 = .ok (.invokevirtual 241, 3) := by decide +kernel
theorem dX2_makeOneStep_40 : decode cX2_makeOneStep 40 = .ok (.iinc 1 1, 3) := by decide +kernel
theorem dX2_makeOneStep_43 : decode cX2_makeOneStep 43 = .ok (.goto (-17), 3) := by decide +kernel
theorem dX2_makeOneStep_46 : decode cX2_makeOneStep 46 = .ok (.aload_n 0, 1) := by decide +kernel
theorem dX2_makeOneStep_47 : decode cX2_makeOneStep 47 = .ok (.invokevirtual 244, 3) := by decide +kernel
theorem dX2_makeOneStep_50 : decode cX2_makeOneStep 50 = .ok (.return_, 1) := by decide +kernel
set_option maxRecDepth 20000 in
theorem ggX2_passChute_X2_itemAt : GoodIn wsX2_passChute wsX2_itemAt := goodIn_r _ [8, 9, 10, 11, 12, 7, 13, 14, 15, 16, 17, 18, 19, 20, 21, 22, 65, 66, 67, 68, 69, 70, 71, 72, 73, 74] (by decide +kernel) (by decide +kernel)
set_option maxRecDepth 20000 in
theorem gX2_passChute_X2_itemAt : GoodIn wsX2_passChute (wsV RX2 96 RX2 yX2_itemAt wsX2_itemAt) := goodIn_app (goodIn_of _ (by decide +kernel)) ggX2_passChute_X2_itemAt
set_option maxRecDepth 20000 in
theorem ggX2_passChute_X2_isFull : GoodIn wsX2_passChute wsX2_isFull := goodIn_r _ [26, 27, 28, 29, 30, 7, 31, 65, 66, 67, 68, 69, 70, 71, 72, 73, 74] (by decide +kernel) (by decide +kernel)
set_option maxRecDepth 20000 in
theorem gX2_passChute_X2_isFull : GoodIn wsX2_passChute (wsV RX2 160 RX2 yX2_isFull wsX2_isFull) := goodIn_app (goodIn_of _ (by decide +kernel)) ggX2_passChute_X2_isFull
set_option maxRecDepth 20000 in
theorem ggX2_passChute_X2_takeOffTray : GoodIn wsX2_passChute wsX2_takeOffTray := goodIn_r _ [35, 36, 9, 37, 38, 39, 40, 41, 19, 20, 21, 7, 22, 42, 43, 44, 45, 46, 47, 48, 49, 50, 51, 52, 53, 54, 55, 56, 57, 58, 59, 60, 61, 62, 63, 64, 65, 66, 67, 68, 69, 70, 71, 72, 73, 74, 75, 76] (by decide +kernel) (by decide +kernel)
set_option maxRecDepth 20000 in
theorem gX2_passChute_X2_takeOffTray : GoodIn wsX2_passChute (wsV RX2 247 RX2 yX2_takeOffTray wsX2_takeOffTray) := goodIn_app (goodIn_of _ (by decide +kernel)) ggX2_passChute_X2_takeOffTray
theorem dX2_passChute_0 : decode cX2_passChute 0 = .ok (.aload_n 0, 1) := by decide +kernel
theorem dX2_passChute_1 : decode cX2_passChute 1 = .ok (.iload_n 1, 1) := by decide +kernel
theorem dX2_passChute_2 : decode cX2_passChute 2 = .ok (.iconst 2, 1) := by decide +kernel
theorem dX2_passChute_3 : decode cX2_passChute 3 = .ok (.imul, 1) := by decide +kernel
theorem dX2_passChute_4 : decode cX2_passChute 4 = .ok (.invokevirtual 96, 3) := by decide +kernel
theorem dX2_passChute_7 : decode cX2_passChute 7 = .ok (.astore_n 2, 1) := by decide +kernel
theorem dX2_passChute_8 : decode cX2_passChute 8 = .ok (.aload_n 2, 1) := by decide +kernel
theorem dX2_passChute_9 : decode cX2_passChute 9 = .ok (.ifnull 11, 3) := by decide +kernel
theorem dX2_passChute_12 : decode cX2_passChute 12 = .ok (.aload_n 2, 1) := by decide +kernel
theorem dX2_passChute_13 : decode cX2_passChute 13 = .ok (.getfield 104, 3) := by decide +kernel
theorem dX2_passChute_16 : decode cX2_passChute 16 = .ok (.iload_n 1, 1) := by decide +kernel
theorem dX2_passChute_17 : decode cX2_passChute 17 = .ok (.if_icmp .eq 4, 3) := by decide +kernel
theorem dX2_passChute_20 : decode cX2_passChute 20 = .ok (.return_, 1) := by decide +kernel
theorem dX2_passChute_21 : decode cX2_passChute 21 = .ok (.aload_n 0, 1) := by decide +kernel
theorem dX2_passChute_22 : decode cX2_passChute 22 = .ok (.iload_n 1, 1) := by decide +kernel
theorem dX2_passChute_23 : decode cX2_passChute 23 = .ok (.invokevirtual 160, 3) := by decide +kernel
theorem dX2_passChute_26 : decode cX2_passChute 26 = .ok (.ifCond .ne 11, 3) := by decide +kernel
theorem dX2_passChute_29 : decode cX2_passChute 29 = .ok (.aload_n 0, 1) := by decide +kernel
theorem dX2_passChute_30 : decode cX2_passChute 30 = .ok (.aload_n 2, 1) := by decide +kernel
theorem dX2_passChute_31 : decode cX2_passChute 31 = .ok (.iconst 2, 1) := by decide +kernel
theorem dX2_passChute_32 : decode cX2_passChute 32 = .ok (.iload_n 1, 1) := by decide +kernel
theorem dX2_passChute_33 : decode cX2_passChute 33 = .ok (.invokevirtual 247, 3) := by decide +kernel
theorem dX2_passChute_36 : decode cX2_passChute 36 = .ok (.return_, 1) := by decide +kernel
theorem dX2_passChute_37 : decode cX2_passChute 37 = .ok (.aload_n 2, 1) := by decide +kernel
theorem dX2_passChute_38 : decode cX2_passChute 38 = .ok (.dup, 1) := by decide +kernel
theorem dX2_passChute_39 : decode cX2_passChute 39 = .ok (.getfield 152, 3) := by decide +kernel
theorem dX2_passChute_42 : decode cX2_passChute 42 = .ok (.iconst 1, 1) := by decide +kernel
theorem dX2_passChute_43 : decode cX2_passChute 43 = .ok (.iadd, 1) := by decide +kernel
theorem dX2_passChute_44 : decode cX2_passChute 44 = .ok (.putfield 152, 3) := by decide +kernel
theorem dX2_passChute_47 : decode cX2_passChute 47 = .ok (.aload_n 2, 1) := by decide +kernel
theorem dX2_passChute_48 : decode cX2_passChute 48 = .ok (.getfield 152, 3) := by decide +kernel
theorem dX2_passChute_51 : decode cX2_passChute 51 = .ok (.aload_n 0, 1) := by decide +kernel
theorem dX2_passChute_52 : decode cX2_passChute 52 = .ok (.getfield 47, 3) := by decide +kernel
theorem dX2_passChute_55 : decode cX2_passChute 55 = .ok (.if_icmp .le 10, 3) := by decide +kernel
theorem dX2_passChute_58 : decode cX2_passChute 58 = .ok (.aload_n 0, 1) := by decide +kernel
theorem dX2_passChute_59 : decode cX2_passChute 59 = .ok (.aload_n 2, 1) := by decide +kernel
theorem dX2_passChute_60 : decode cX2_passChute 60 = .ok (.iconst 4, 1) := by decide +kernel
theorem dX2_passChute_61 : decode cX2_passChute 61 = .ok (.iconst (-1), 1) := by decide +kernel
theorem dX2_passChute_62 : decode cX2_passChute 62 = .ok (.invokevirtual 247, 3) := by decide +kernel
theorem dX2_passChute_65 : decode cX2_passChute 65 = .ok (.return_, 1) := by decide +kernel
set_option maxRecDepth 20000 in
theorem ggX2_readAgainAtStart_X2_itemAt : GoodIn wsX2_readAgainAtStart wsX2_itemAt := goodIn_r _ [8, 9, 10, 11, 12, 7, 13, 14, 15, 16, 17, 18, 19, 20, 21, 22, 56, 57, 58, 59, 60, 61, 62, 63, 64, 65] (by decide +kernel) (by decide +kernel)
set_option maxRecDepth 20000 in
theorem gX2_readAgainAtStart_X2_itemAt : GoodIn wsX2_readAgainAtStart (wsV RX2 96 RX2 yX2_itemAt wsX2_itemAt) := goodIn_app (goodIn_of _ (by decide +kernel)) ggX2_readAgainAtStart_X2_itemAt
set_option maxRecDepth 20000 in
theorem ggX2_readAgainAtStart_X2_takeOffTray : GoodIn wsX2_readAgainAtStart wsX2_takeOffTray := goodIn_r _ [26, 27, 9, 28, 29, 30, 31, 32, 19, 20, 21, 7, 22, 33, 34, 35, 36, 37, 38, 39, 40, 41, 42, 43, 44, 45, 46, 47, 48, 49, 50, 51, 52, 53, 54, 55, 56, 57, 58, 59, 60, 61, 62, 63, 64, 65, 66, 67] (by decide +kernel) (by decide +kernel)
set_option maxRecDepth 20000 in
theorem gX2_readAgainAtStart_X2_takeOffTray : GoodIn wsX2_readAgainAtStart (wsV RX2 247 RX2 yX2_takeOffTray wsX2_takeOffTray) := goodIn_app (goodIn_of _ (by decide +kernel)) ggX2_readAgainAtStart_X2_takeOffTray
theorem dX2_readAgainAtStart_0 : decode cX2_readAgainAtStart 0 = .ok (.aload_n 0, 1) := by decide +kernel
theorem dX2_readAgainAtStart_1 : decode cX2_readAgainAtStart 1 = .ok (.iconst 0, 1) := by decide +kernel
theorem dX2_readAgainAtStart_2 : decode cX2_readAgainAtStart 2 = .ok (.invokevirtual 96, 3) := by decide +kernel
theorem dX2_readAgainAtStart_5 : decode cX2_readAgainAtStart 5 = .ok (.astore_n 1, 1) := by decide +kernel
theorem dX2_readAgainAtStart_6 : decode cX2_readAgainAtStart 6 = .ok (.aload_n 1, 1) := by decide +kernel
theorem dX2_readAgainAtStart_7 : decode cX2_readAgainAtStart 7 = .ok (.ifnull 10, 3) := by decide +kernel
theorem dX2_readAgainAtStart_10 : decode cX2_readAgainAtStart 10 = .ok (.aload_n 1, 1) := by decide +kernel
theorem dX2_readAgainAtStart_11 : decode cX2_readAgainAtStart 11 = .ok (.getfield 104, 3) := by decide +kernel
theorem dX2_readAgainAtStart_14 : decode cX2_readAgainAtStart 14 = .ok (.ifCond .eq 4, 3) := by decide +kernel
theorem dX2_readAgainAtStart_17 : decode cX2_readAgainAtStart 17 = .ok (.return_, 1) := by decide +kernel
theorem dX2_readAgainAtStart_18 : decode cX2_readAgainAtStart 18 = .ok (.aload_n 1, 1) := by decide +kernel
theorem dX2_readAgainAtStart_19 : decode cX2_readAgainAtStart 19 = .ok (.getfield 130, 3) := by decide +kernel
theorem dX2_readAgainAtStart_22 : decode cX2_readAgainAtStart 22 = .ok (.ifCond .ne 11, 3) := by decide +kernel
theorem dX2_readAgainAtStart_25 : decode cX2_readAgainAtStart 25 = .ok (.aload_n 0, 1) := by decide +kernel
theorem dX2_readAgainAtStart_26 : decode cX2_readAgainAtStart 26 = .ok (.aload_n 1, 1) := by decide +kernel
theorem dX2_readAgainAtStart_27 : decode cX2_readAgainAtStart 27 = .ok (.iconst 3, 1) := by decide +kernel
theorem dX2_readAgainAtStart_28 : decode cX2_readAgainAtStart 28 = .ok (.iconst 0, 1) := by decide +kernel
theorem dX2_readAgainAtStart_29 : decode cX2_readAgainAtStart 29 = .ok (.invokevirtual 247, 3) := by decide +kernel
theorem dX2_readAgainAtStart_32 : decode cX2_readAgainAtStart 32 = .ok (.return_, 1) := by decide +kernel
theorem dX2_readAgainAtStart_33 : decode cX2_readAgainAtStart 33 = .ok (.aload_n 1, 1) := by decide +kernel
theorem dX2_readAgainAtStart_34 : decode cX2_readAgainAtStart 34 = .ok (.dup, 1) := by decide +kernel
theorem dX2_readAgainAtStart_35 : decode cX2_readAgainAtStart 35 = .ok (.getfield 130, 3) := by decide +kernel
theorem dX2_readAgainAtStart_38 : decode cX2_readAgainAtStart 38 = .ok (.iconst 1, 1) := by decide +kernel
theorem dX2_readAgainAtStart_39 : decode cX2_readAgainAtStart 39 = .ok (.isub, 1) := by decide +kernel
theorem dX2_readAgainAtStart_40 : decode cX2_readAgainAtStart 40 = .ok (.putfield 130, 3) := by decide +kernel
theorem dX2_readAgainAtStart_43 : decode cX2_readAgainAtStart 43 = .ok (.aload_n 1, 1) := by decide +kernel
theorem dX2_readAgainAtStart_44 : decode cX2_readAgainAtStart 44 = .ok (.getfield 130, 3) := by decide +kernel
theorem dX2_readAgainAtStart_47 : decode cX2_readAgainAtStart 47 = .ok (.ifCond .ne 11, 3) := by decide +kernel
theorem dX2_readAgainAtStart_50 : decode cX2_readAgainAtStart 50 = .ok (.aload_n 1, 1) := by decide +kernel
theorem dX2_readAgainAtStart_51 : decode cX2_readAgainAtStart 51 = .ok (.aload_n 1, 1) := by decide +kernel
theorem dX2_readAgainAtStart_52 : decode cX2_readAgainAtStart 52 = .ok (.getfield 133, 3) := by decide +kernel
theorem dX2_readAgainAtStart_55 : decode cX2_readAgainAtStart 55 = .ok (.putfield 104, 3) := by decide +kernel
theorem dX2_readAgainAtStart_58 : decode cX2_readAgainAtStart 58 = .ok (.return_, 1) := by decide +kernel
set_option maxRecDepth 20000 in
theorem ggX2_doubtItemAt_X2_itemAt : GoodIn wsX2_doubtItemAt wsX2_itemAt := goodIn_r _ [8, 9, 10, 11, 12, 7, 13, 14, 15, 16, 17, 18, 19, 20, 21, 22, 46, 47, 48, 49, 50, 51, 52, 53, 54, 55] (by decide +kernel) (by decide +kernel)
set_option maxRecDepth 20000 in
theorem gX2_doubtItemAt_X2_itemAt : GoodIn wsX2_doubtItemAt (wsV RX2 96 RX2 yX2_itemAt wsX2_itemAt) := goodIn_app (goodIn_of _ (by decide +kernel)) ggX2_doubtItemAt_X2_itemAt
set_option maxRecDepth 20000 in
theorem ggX2_doubtItemAt_X1_add : GoodIn wsX2_doubtItemAt wsX1_add := goodIn_r _ [27, 28, 29, 30, 31, 32, 26, 33, 56, 57] (by decide +kernel) (by decide +kernel)
set_option maxRecDepth 20000 in
theorem gX2_doubtItemAt_X1_add : GoodIn wsX2_doubtItemAt (wsV RX2 71 RX1 yX1_add wsX1_add) := goodIn_app (goodIn_of _ (by decide +kernel)) ggX2_doubtItemAt_X1_add
theorem dX2_doubtItemAt_0 : decode cX2_doubtItemAt 0 = .ok (.aload_n 0, 1) := by decide +kernel
theorem dX2_doubtItemAt_1 : decode cX2_doubtItemAt 1 = .ok (.iload_n 1, 1) := by decide +kernel
theorem dX2_doubtItemAt_2 : decode cX2_doubtItemAt 2 = .ok (.invokevirtual 96, 3) := by decide +kernel
theorem dX2_doubtItemAt_5 : decode cX2_doubtItemAt 5 = .ok (.astore_n 2, 1) := by decide +kernel
theorem dX2_doubtItemAt_6 : decode cX2_doubtItemAt 6 = .ok (.aload_n 2, 1) := by decide +kernel
theorem dX2_doubtItemAt_7 : decode cX2_doubtItemAt 7 = .ok (.ifnull 21, 3) := by decide +kernel
theorem dX2_doubtItemAt_10 : decode cX2_doubtItemAt 10 = .ok (.aload_n 2, 1) := by decide +kernel
theorem dX2_doubtItemAt_11 : decode cX2_doubtItemAt 11 = .ok (.iconst 1, 1) := by decide +kernel
theorem dX2_doubtItemAt_12 : decode cX2_doubtItemAt 12 = .ok (.putfield 183, 3) := by decide +kernel
theorem dX2_doubtItemAt_15 : decode cX2_doubtItemAt 15 = .ok (.aload_n 2, 1) := by decide +kernel
theorem dX2_doubtItemAt_16 : decode cX2_doubtItemAt 16 = .ok (.iconst 0, 1) := by decide +kernel
theorem dX2_doubtItemAt_17 : decode cX2_doubtItemAt 17 = .ok (.putfield 187, 3) := by decide +kernel
theorem dX2_doubtItemAt_20 : decode cX2_doubtItemAt 20 = .ok (.aload_n 0, 1) := by decide +kernel
theorem dX2_doubtItemAt_21 : decode cX2_doubtItemAt 21 = .ok (.getfield 21, 3) := by decide +kernel
theorem dX2_doubtItemAt_24 : decode cX2_doubtItemAt 24 = .ok (.aload_n 2, 1) := by decide +kernel
theorem dX2_doubtItemAt_25 : decode cX2_doubtItemAt 25 = .ok (.invokevirtual 71, 3) := by decide +kernel
theorem dX2_doubtItemAt_28 : decode cX2_doubtItemAt 28 = .ok (.return_, 1) := by decide +kernel
set_option maxRecDepth 20000 in
theorem ggX2_endDoubt_X2_takeOffTray : GoodIn wsX2_endDoubt wsX2_takeOffTray := goodIn_r _ [7, 8, 9, 10, 11, 12, 13, 14, 15, 16, 17, 6, 18, 19, 20, 21, 22, 23, 24, 25, 26, 27, 28, 29, 30, 31, 32, 33, 34, 35, 36, 37, 38, 39, 40, 41, 42, 43, 44, 45, 46, 47, 48, 49, 50, 51, 52, 53] (by decide +kernel) (by decide +kernel)
set_option maxRecDepth 20000 in
theorem gX2_endDoubt_X2_takeOffTray : GoodIn wsX2_endDoubt (wsV RX2 247 RX2 yX2_takeOffTray wsX2_takeOffTray) := goodIn_app (goodIn_of _ (by decide +kernel)) ggX2_endDoubt_X2_takeOffTray
theorem dX2_endDoubt_0 : decode cX2_endDoubt 0 = .ok (.aload_n 1, 1) := by decide +kernel
theorem dX2_endDoubt_1 : decode cX2_endDoubt 1 = .ok (.ifnonnull 4, 3) := by decide +kernel
theorem dX2_endDoubt_4 : decode cX2_endDoubt 4 = .ok (.return_, 1) := by decide +kernel
theorem dX2_endDoubt_5 : decode cX2_endDoubt 5 = .ok (.aload_n 1, 1) := by decide +kernel
theorem dX2_endDoubt_6 : decode cX2_endDoubt 6 = .ok (.iconst 0, 1) := by decide +kernel
theorem dX2_endDoubt_7 : decode cX2_endDoubt 7 = .ok (.putfield 183, 3) := by decide +kernel
theorem dX2_endDoubt_10 : decode cX2_endDoubt 10 = .ok (.aload_n 1, 1) := by decide +kernel
theorem dX2_endDoubt_11 : decode cX2_endDoubt 11 = .ok (.getfield 187, 3) := by decide +kernel
theorem dX2_endDoubt_14 : decode cX2_endDoubt 14 = .ok (.ifCond .ne 11, 3) := by decide +kernel
theorem dX2_endDoubt_17 : decode cX2_endDoubt 17 = .ok (.aload_n 0, 1) := by decide +kernel
theorem dX2_endDoubt_18 : decode cX2_endDoubt 18 = .ok (.aload_n 1, 1) := by decide +kernel
theorem dX2_endDoubt_19 : decode cX2_endDoubt 19 = .ok (.iconst 5, 1) := by decide +kernel
theorem dX2_endDoubt_20 : decode cX2_endDoubt 20 = .ok (.bipush (-2), 2) := by decide +kernel
theorem dX2_endDoubt_22 : decode cX2_endDoubt 22 = .ok (.invokevirtual 247, 3) := by decide +kernel
theorem dX2_endDoubt_25 : decode cX2_endDoubt 25 = .ok (.return_, 1) := by decide +kernel
set_option maxRecDepth 20000 in
theorem ggX2_countNotFound_X1_size : GoodIn wsX2_countNotFound wsX1_size := goodIn_r _ [7, 8, 36, 37] (by decide +kernel) (by decide +kernel)
set_option maxRecDepth 20000 in
theorem gX2_countNotFound_X1_size : GoodIn wsX2_countNotFound (wsV RX2 64 RX1 yX1_size wsX1_size) := goodIn_app (goodIn_of _ (by decide +kernel)) ggX2_countNotFound_X1_size
set_option maxRecDepth 20000 in
theorem ggX2_countNotFound_X1_at : GoodIn wsX2_countNotFound wsX1_at := goodIn_r _ [12, 8, 13, 36, 37] (by decide +kernel) (by decide +kernel)
set_option maxRecDepth 20000 in
theorem gX2_countNotFound_X1_at : GoodIn wsX2_countNotFound (wsV RX2 141 RX1 yX1_at wsX1_at) := goodIn_app (goodIn_of _ (by decide +kernel)) ggX2_countNotFound_X1_at
theorem dX2_countNotFound_0 : decode cX2_countNotFound 0 = .ok (.iconst 0, 1) := by decide +kernel
theorem dX2_countNotFound_1 : decode cX2_countNotFound 1 = .ok (.istore_n 1, 1) := by decide +kernel
theorem dX2_countNotFound_2 : decode cX2_countNotFound 2 = .ok (.iconst 0, 1) := by decide +kernel
theorem dX2_countNotFound_3 : decode cX2_countNotFound 3 = .ok (.istore_n 2, 1) := by decide +kernel
theorem dX2_countNotFound_4 : decode cX2_countNotFound 4 = .ok (.iload_n 2, 1) := by decide +kernel
theorem dX2_countNotFound_5 : decode cX2_countNotFound 5 = .ok (.aload_n 0, 1) := by decide +kernel
theorem dX2_countNotFound_6 : decode cX2_countNotFound 6 = .ok (.getfield 21, 3) := by decide +kernel
theorem dX2_countNotFound_9 : decode cX2_countNotFound 9 = .ok (.invokevirtual 64, 3) := by decide +kernel
theorem dX2_countNotFound_12 : decode cX2_countNotFound 12 = .ok (.if_icmp .ge 32, 3) := by decide +kernel
theorem dX2_countNotFound_15 : decode cX2_countNotFound 15 = .ok (.aload_n 0, 1) := by decide +kernel
theorem dX2_countNotFound_16 : decode cX2_countNotFound 16 = .ok (.getfield 21, 3) := by decide +kernel
theorem dX2_countNotFound_19 : decode cX2_countNotFound 19 = .ok (.iload_n 2, 1) := by decide +kernel
theorem dX2_countNotFound_20 : decode cX2_countNotFound 20 = .ok (.invokevirtual 141, 3) := by decide +kernel
theorem dX2_countNotFound_23 : decode cX2_countNotFound 23 = .ok (.astore_n 3, 1) := by decide +kernel
theorem dX2_countNotFound_24 : decode cX2_countNotFound 24 = .ok (.aload_n 3, 1) := by decide +kernel
theorem dX2_countNotFound_25 : decode cX2_countNotFound 25 = .ok (.ifnull 13, 3) := by decide +kernel
theorem dX2_countNotFound_28 : decode cX2_countNotFound 28 = .ok (.aload_n 3, 1) := by decide +kernel
theorem dX2_countNotFound_29 : decode cX2_countNotFound 29 = .ok (.getfield 187, 3) := by decide +kernel
theorem dX2_countNotFound_32 : decode cX2_countNotFound 32 = .ok (.ifCond .ne 6, 3) := by decide +kernel
theorem dX2_countNotFound_35 : decode cX2_countNotFound 35 = .ok (.iinc 1 1, 3) := by decide +kernel
theorem dX2_countNotFound_38 : decode cX2_countNotFound 38 = .ok (.iinc 2 1, 3) := by decide +kernel
theorem dX2_countNotFound_41 : decode cX2_countNotFound 41 = .ok (.goto (-37), 3) := by decide +kernel
theorem dX2_countNotFound_44 : decode cX2_countNotFound 44 = .ok (.iload_n 1, 1) := by decide +kernel
theorem dX2_countNotFound_45 : decode cX2_countNotFound 45 = .ok (.ireturn, 1) := by decide +kernel
theorem dX2_countEmptyTrays_0 : decode cX2_countEmptyTrays 0 = .ok (.iconst 0, 1) := by decide +kernel
theorem dX2_countEmptyTrays_1 : decode cX2_countEmptyTrays 1 = .ok (.istore_n 1, 1) := by decide +kernel
theorem dX2_countEmptyTrays_2 : decode cX2_countEmptyTrays 2 = .ok (.aload_n 0, 1) := by decide +kernel
theorem dX2_countEmptyTrays_3 : decode cX2_countEmptyTrays 3 = .ok (.getfield 39, 3) := by decide +kernel
theorem dX2_countEmptyTrays_6 : decode cX2_countEmptyTrays 6 = .ok (.astore_n 2, 1) := by decide +kernel
theorem dX2_countEmptyTrays_7 : decode cX2_countEmptyTrays 7 = .ok (.aload_n 2, 1) := by decide +kernel
theorem dX2_countEmptyTrays_8 : decode cX2_countEmptyTrays 8 = .ok (.arraylength, 1) := by decide +kernel
theorem dX2_countEmptyTrays_9 : decode cX2_countEmptyTrays 9 = .ok (.istore_n 3, 1) := by decide +kernel
theorem dX2_countEmptyTrays_10 : decode cX2_countEmptyTrays 10 = .ok (.iconst 0, 1) := by decide +kernel
theorem dX2_countEmptyTrays_11 : decode cX2_countEmptyTrays 11 = .ok (.istore 4, 2) := by decide +kernel
theorem dX2_countEmptyTrays_13 : decode cX2_countEmptyTrays 13 = .ok (.iload 4, 2) := by decide +kernel
theorem dX2_countEmptyTrays_15 : decode cX2_countEmptyTrays 15 = .ok (.iload_n 3, 1) := by decide +kernel
theorem dX2_countEmptyTrays_16 : decode cX2_countEmptyTrays 16 = .ok (.if_icmp .ge 23, 3) := by decide +kernel
theorem dX2_countEmptyTrays_19 : decode cX2_countEmptyTrays 19 = .ok (.aload_n 2, 1) := by decide +kernel
theorem dX2_countEmptyTrays_20 : decode cX2_countEmptyTrays 20 = .ok (.iload 4, 2) := by decide +kernel
theorem dX2_countEmptyTrays_22 : decode cX2_countEmptyTrays 22 = .ok (.aaload, 1) := by decide +kernel
theorem dX2_countEmptyTrays_23 : decode cX2_countEmptyTrays 23 = .ok (.astore 5, 2) := by decide +kernel
theorem dX2_countEmptyTrays_25 : decode cX2_countEmptyTrays 25 = .ok (.aload 5, 2) := by decide +kernel
theorem dX2_countEmptyTrays_27 : decode cX2_countEmptyTrays 27 = .ok (.ifnonnull 6, 3) := by decide +kernel
theorem dX2_countEmptyTrays_30 : decode cX2_countEmptyTrays 30 = .ok (.iinc 1 1, 3) := by decide +kernel
theorem dX2_countEmptyTrays_33 : decode cX2_countEmptyTrays 33 = .ok (.iinc 4 1, 3) := by decide +kernel
theorem dX2_countEmptyTrays_36 : decode cX2_countEmptyTrays 36 = .ok (.goto (-23), 3) := by decide +kernel
theorem dX2_countEmptyTrays_39 : decode cX2_countEmptyTrays 39 = .ok (.iload_n 1, 1) := by decide +kernel
theorem dX2_countEmptyTrays_40 : decode cX2_countEmptyTrays 40 = .ok (.ireturn, 1) := by decide +kernel
set_option maxRecDepth 20000 in
theorem ggX2_countOut_X1_size : GoodIn wsX2_countOut wsX1_size := goodIn_r _ [7, 8, 36, 37] (by decide +kernel) (by decide +kernel)
set_option maxRecDepth 20000 in
theorem gX2_countOut_X1_size : GoodIn wsX2_countOut (wsV RX2 64 RX1 yX1_size wsX1_size) := goodIn_app (goodIn_of _ (by decide +kernel)) ggX2_countOut_X1_size
set_option maxRecDepth 20000 in
theorem ggX2_countOut_X1_at : GoodIn wsX2_countOut wsX1_at := goodIn_r _ [12, 8, 13, 36, 37] (by decide +kernel) (by decide +kernel)
set_option maxRecDepth 20000 in
theorem gX2_countOut_X1_at : GoodIn wsX2_countOut (wsV RX2 141 RX1 yX1_at wsX1_at) := goodIn_app (goodIn_of _ (by decide +kernel)) ggX2_countOut_X1_at
theorem dX2_countOut_0 : decode cX2_countOut 0 = .ok (.iconst 0, 1) := by decide +kernel
theorem dX2_countOut_1 : decode cX2_countOut 1 = .ok (.istore_n 1, 1) := by decide +kernel
theorem dX2_countOut_2 : decode cX2_countOut 2 = .ok (.iconst 0, 1) := by decide +kernel
theorem dX2_countOut_3 : decode cX2_countOut 3 = .ok (.istore_n 2, 1) := by decide +kernel
theorem dX2_countOut_4 : decode cX2_countOut 4 = .ok (.iload_n 2, 1) := by decide +kernel
theorem dX2_countOut_5 : decode cX2_countOut 5 = .ok (.aload_n 0, 1) := by decide +kernel
theorem dX2_countOut_6 : decode cX2_countOut 6 = .ok (.getfield 14, 3) := by decide +kernel
theorem dX2_countOut_9 : decode cX2_countOut 9 = .ok (.invokevirtual 64, 3) := by decide +kernel
theorem dX2_countOut_12 : decode cX2_countOut 12 = .ok (.if_icmp .ge 33, 3) := by decide +kernel
theorem dX2_countOut_15 : decode cX2_countOut 15 = .ok (.aload_n 0, 1) := by decide +kernel
theorem dX2_countOut_16 : decode cX2_countOut 16 = .ok (.getfield 14, 3) := by decide +kernel
theorem dX2_countOut_19 : decode cX2_countOut 19 = .ok (.iload_n 2, 1) := by decide +kernel
theorem dX2_countOut_20 : decode cX2_countOut 20 = .ok (.invokevirtual 141, 3) := by decide +kernel
theorem dX2_countOut_23 : decode cX2_countOut 23 = .ok (.astore_n 3, 1) := by decide +kernel
theorem dX2_countOut_24 : decode cX2_countOut 24 = .ok (.aload_n 3, 1) := by decide +kernel
theorem dX2_countOut_25 : decode cX2_countOut 25 = .ok (.ifnull 14, 3) := by decide +kernel
theorem dX2_countOut_28 : decode cX2_countOut 28 = .ok (.aload_n 3, 1) := by decide +kernel
theorem dX2_countOut_29 : decode cX2_countOut 29 = .ok (.getfield 123, 3) := by decide +kernel
theorem dX2_countOut_32 : decode cX2_countOut 32 = .ok (.iconst 2, 1) := by decide +kernel
theorem dX2_countOut_33 : decode cX2_countOut 33 = .ok (.if_icmp .ne 6, 3) := by decide +kernel
theorem dX2_countOut_36 : decode cX2_countOut 36 = .ok (.iinc 1 1, 3) := by decide +kernel
theorem dX2_countOut_39 : decode cX2_countOut 39 = .ok (.iinc 2 1, 3) := by decide +kernel
theorem dX2_countOut_42 : decode cX2_countOut 42 = .ok (.goto (-38), 3) := by decide +kernel
theorem dX2_countOut_45 : decode cX2_countOut 45 = .ok (.iload_n 1, 1) := by decide +kernel
theorem dX2_countOut_46 : decode cX2_countOut 46 = .ok (.ireturn, 1) := by decide +kernel
theorem dX3_init_0 : decode cX3_init 0 = .ok (.aload_n 0, 1) := by decide +kernel
theorem dX3_init_1 : decode cX3_init 1 = .ok (.invokespecial 1, 3) := by decide +kernel
theorem dX3_init_4 : decode cX3_init 4 = .ok (.aload_n 0, 1) := by decide +kernel
theorem dX3_init_5 : decode cX3_init 5 = .ok (.bipush 60, 2) := by decide +kernel
theorem dX3_init_7 : decode cX3_init 7 = .ok (.putfield 7, 3) := by decide +kernel
theorem dX3_init_10 : decode cX3_init 10 = .ok (.aload_n 0, 1) := by decide +kernel
theorem dX3_init_11 : decode cX3_init 11 = .ok (.bipush 40, 2) := by decide +kernel
theorem dX3_init_13 : decode cX3_init 13 = .ok (.newarray .int, 2) := by decide +kernel
theorem dX3_init_15 : decode cX3_init 15 = .ok (.putfield 13, 3) := by decide +kernel
theorem dX3_init_18 : decode cX3_init 18 = .ok (.aload_n 0, 1) := by decide +kernel
theorem dX3_init_19 : decode cX3_init 19 = .ok (.bipush 7, 2) := by decide +kernel
theorem dX3_init_21 : decode cX3_init 21 = .ok (.newarray .boolean, 2) := by decide +kernel
theorem dX3_init_23 : decode cX3_init 23 = .ok (.putfield 17, 3) := by decide +kernel
theorem dX3_init_26 : decode cX3_init 26 = .ok (.aload_n 0, 1) := by decide +kernel
theorem dX3_init_27 : decode cX3_init 27 = .ok (.bipush 61, 2) := by decide +kernel
theorem dX3_init_29 : decode cX3_init 29 = .ok (.newarray .int, 2) := by decide +kernel
theorem dX3_init_31 : decode cX3_init 31 = .ok (.putfield 21, 3) := by decide +kernel
theorem dX3_init_34 : decode cX3_init 34 = .ok (.aload_n 0, 1) := by decide +kernel
theorem dX3_init_35 : decode cX3_init 35 = .ok (.bipush 61, 2) := by decide +kernel
theorem dX3_init_37 : decode cX3_init 37 = .ok (.newarray .int, 2) := by decide +kernel
theorem dX3_init_39 : decode cX3_init 39 = .ok (.putfield 24, 3) := by decide +kernel
theorem dX3_init_42 : decode cX3_init 42 = .ok (.aload_n 0, 1) := by decide +kernel
theorem dX3_init_43 : decode cX3_init 43 = .ok (.bipush 61, 2) := by decide +kernel
theorem dX3_init_45 : decode cX3_init 45 = .ok (.newarray .int, 2) := by decide +kernel
theorem dX3_init_47 : decode cX3_init 47 = .ok (.putfield 27, 3) := by decide +kernel
theorem dX3_init_50 : decode cX3_init 50 = .ok (.aload_n 0, 1) := by decide +kernel
theorem dX3_init_51 : decode cX3_init 51 = .ok (.bipush 61, 2) := by decide +kernel
theorem dX3_init_53 : decode cX3_init 53 = .ok (.newarray .int, 2) := by decide +kernel
theorem dX3_init_55 : decode cX3_init 55 = .ok (.putfield 30, 3) := by decide +kernel
theorem dX3_init_58 : decode cX3_init 58 = .ok (.aload_n 0, 1) := by decide +kernel
theorem dX3_init_59 : decode cX3_init 59 = .ok (.bipush 61, 2) := by decide +kernel
theorem dX3_init_61 : decode cX3_init 61 = .ok (.newarray .int, 2) := by decide +kernel
theorem dX3_init_63 : decode cX3_init 63 = .ok (.putfield 33, 3) := by decide +kernel
theorem dX3_init_66 : decode cX3_init 66 = .ok (.aload_n 0, 1) := by decide +kernel
theorem dX3_init_67 : decode cX3_init 67 = .ok (.bipush 61, 2) := by decide +kernel
theorem dX3_init_69 : decode cX3_init 69 = .ok (.newarray .int, 2) := by decide +kernel
theorem dX3_init_71 : decode cX3_init 71 = .ok (.putfield 36, 3) := by decide +kernel
theorem dX3_init_74 : decode cX3_init 74 = .ok (.aload_n 0, 1) := by decide +kernel
theorem dX3_init_75 : decode cX3_init 75 = .ok (.bipush 60, 2) := by decide +kernel
