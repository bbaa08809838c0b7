theorem dX3_retry_19 : decode cX3_retry 19 = .ok (.aload_n 0, 1) := by decide +kernel
theorem dX3_retry_20 : decode cX3_retry 20 = .ok (.iload_n 3, 1) := by decide +kernel
theorem dX3_retry_21 : decode cX3_retry 21 = .ok (.invokevirtual 87, 3) := by decide +kernel
theorem dX3_retry_24 : decode cX3_retry 24 = .ok (.ifCond .ne 7, 3) := by decide +kernel
theorem dX3_retry_27 : decode cX3_retry 27 = .ok (.iconst 1, 1) := by decide +kernel
theorem dX3_retry_28 : decode cX3_retry 28 = .ok (.goto 4, 3) := by decide +kernel
theorem dX3_retry_31 : decode cX3_retry 31 = .ok (.iconst 0, 1) := by decide +kernel
theorem dX3_retry_32 : decode cX3_retry 32 = .ok (.putfield 63, 3) := by decide +kernel
theorem dX3_retry_35 : decode cX3_retry 35 = .ok (.aload_n 0, 1) := by decide +kernel
theorem dX3_retry_36 : decode cX3_retry 36 = .ok (.getfield 63, 3) := by decide +kernel
theorem dX3_retry_39 : decode cX3_retry 39 = .ok (.ifCond .ne 31, 3) := by decide +kernel
theorem dX3_retry_42 : decode cX3_retry 42 = .ok (.aload_n 0, 1) := by decide +kernel
theorem dX3_retry_43 : decode cX3_retry 43 = .ok (.aload_n 0, 1) := by decide +kernel
theorem dX3_retry_44 : decode cX3_retry 44 = .ok (.getfield 24, 3) := by decide +kernel
theorem dX3_retry_47 : decode cX3_retry 47 = .ok (.iload_n 1, 1) := by decide +kernel
theorem dX3_retry_48 : decode cX3_retry 48 = .ok (.iaload, 1) := by decide +kernel
theorem dX3_retry_49 : decode cX3_retry 49 = .ok (.iconst 1, 1) := by decide +kernel
theorem dX3_retry_50 : decode cX3_retry 50 = .ok (.if_icmp .ne 12, 3) := by decide +kernel
theorem dX3_retry_53 : decode cX3_retry 53 = .ok (.aload_n 0, 1) := by decide +kernel
theorem dX3_retry_54 : decode cX3_retry 54 = .ok (.getfield 27, 3) := by decide +kernel
theorem dX3_retry_57 : decode cX3_retry 57 = .ok (.iload_n 1, 1) := by decide +kernel
theorem dX3_retry_58 : decode cX3_retry 58 = .ok (.iaload, 1) := by decide +kernel
theorem dX3_retry_59 : decode cX3_retry 59 = .ok (.ifCond .eq 7, 3) := by decide +kernel
theorem dX3_retry_62 : decode cX3_retry 62 = .ok (.iconst 2, 1) := by decide +kernel
theorem dX3_retry_63 : decode cX3_retry 63 = .ok (.goto 4, 3) := by decide +kernel
theorem dX3_retry_66 : decode cX3_retry 66 = .ok (.iconst 0, 1) := by decide +kernel
theorem dX3_retry_67 : decode cX3_retry 67 = .ok (.putfield 63, 3) := by decide +kernel
theorem dX3_retry_70 : decode cX3_retry 70 = .ok (.aload_n 0, 1) := by decide +kernel
theorem dX3_retry_71 : decode cX3_retry 71 = .ok (.getfield 63, 3) := by decide +kernel
theorem dX3_retry_74 : decode cX3_retry 74 = .ok (.ifCond .le 4, 3) := by decide +kernel
theorem dX3_retry_77 : decode cX3_retry 77 = .ok (.return_, 1) := by decide +kernel
theorem dX3_retry_78 : decode cX3_retry 78 = .ok (.aload_n 0, 1) := by decide +kernel
theorem dX3_retry_79 : decode cX3_retry 79 = .ok (.getfield 33, 3) := by decide +kernel
theorem dX3_retry_82 : decode cX3_retry 82 = .ok (.iload_n 1, 1) := by decide +kernel
theorem dX3_retry_83 : decode cX3_retry 83 = .ok (.iload_n 2, 1) := by decide +kernel
theorem dX3_retry_84 : decode cX3_retry 84 = .ok (.iastore, 1) := by decide +kernel
theorem dX3_retry_85 : decode cX3_retry 85 = .ok (.aload_n 0, 1) := by decide +kernel
theorem dX3_retry_86 : decode cX3_retry 86 = .ok (.getfield 36, 3) := by decide +kernel
theorem dX3_retry_89 : decode cX3_retry 89 = .ok (.iload_n 1, 1) := by decide +kernel
theorem dX3_retry_90 : decode cX3_retry 90 = .ok (.iload_n 3, 1) := by decide +kernel
theorem dX3_retry_91 : decode cX3_retry 91 = .ok (.iastore, 1) := by decide +kernel
theorem dX3_retry_92 : decode cX3_retry 92 = .ok (.return_, 1) := by decide +kernel
theorem dX3_leave_0 : decode cX3_leave 0 = .ok (.aload_n 0, 1) := by decide +kernel
theorem dX3_leave_1 : decode cX3_leave 1 = .ok (.getfield 13, 3) := by decide +kernel
theorem dX3_leave_4 : decode cX3_leave 4 = .ok (.iload_n 1, 1) := by decide +kernel
theorem dX3_leave_5 : decode cX3_leave 5 = .ok (.iaload, 1) := by decide +kernel
theorem dX3_leave_6 : decode cX3_leave 6 = .ok (.istore 4, 2) := by decide +kernel
theorem dX3_leave_8 : decode cX3_leave 8 = .ok (.aload_n 0, 1) := by decide +kernel
theorem dX3_leave_9 : decode cX3_leave 9 = .ok (.getfield 13, 3) := by decide +kernel
theorem dX3_leave_12 : decode cX3_leave 12 = .ok (.iload_n 1, 1) := by decide +kernel
theorem dX3_leave_13 : decode cX3_leave 13 = .ok (.iconst 0, 1) := by decide +kernel
theorem dX3_leave_14 : decode cX3_leave 14 = .ok (.iastore, 1) := by decide +kernel
theorem dX3_leave_15 : decode cX3_leave 15 = .ok (.aload_n 0, 1) := by decide +kernel
theorem dX3_leave_16 : decode cX3_leave 16 = .ok (.getfield 24, 3) := by decide +kernel
theorem dX3_leave_19 : decode cX3_leave 19 = .ok (.iload 4, 2) := by decide +kernel
theorem dX3_leave_21 : decode cX3_leave 21 = .ok (.iload_n 2, 1) := by decide +kernel
theorem dX3_leave_22 : decode cX3_leave 22 = .ok (.iastore, 1) := by decide +kernel
theorem dX3_leave_23 : decode cX3_leave 23 = .ok (.aload_n 0, 1) := by decide +kernel
theorem dX3_leave_24 : decode cX3_leave 24 = .ok (.getfield 39, 3) := by decide +kernel
theorem dX3_leave_27 : decode cX3_leave 27 = .ok (.aload_n 0, 1) := by decide +kernel
theorem dX3_leave_28 : decode cX3_leave 28 = .ok (.getfield 98, 3) := by decide +kernel
theorem dX3_leave_31 : decode cX3_leave 31 = .ok (.iload 4, 2) := by decide +kernel
theorem dX3_leave_33 : decode cX3_leave 33 = .ok (.iastore, 1) := by decide +kernel
theorem dX3_leave_34 : decode cX3_leave 34 = .ok (.aload_n 0, 1) := by decide +kernel
theorem dX3_leave_35 : decode cX3_leave 35 = .ok (.getfield 42, 3) := by decide +kernel
theorem dX3_leave_38 : decode cX3_leave 38 = .ok (.aload_n 0, 1) := by decide +kernel
theorem dX3_leave_39 : decode cX3_leave 39 = .ok (.getfield 98, 3) := by decide +kernel
theorem dX3_leave_42 : decode cX3_leave 42 = .ok (.iload_n 3, 1) := by decide +kernel
theorem dX3_leave_43 : decode cX3_leave 43 = .ok (.iastore, 1) := by decide +kernel
theorem dX3_leave_44 : decode cX3_leave 44 = .ok (.aload_n 0, 1) := by decide +kernel
theorem dX3_leave_45 : decode cX3_leave 45 = .ok (.getfield 45, 3) := by decide +kernel
theorem dX3_leave_48 : decode cX3_leave 48 = .ok (.aload_n 0, 1) := by decide +kernel
theorem dX3_leave_49 : decode cX3_leave 49 = .ok (.getfield 98, 3) := by decide +kernel
theorem dX3_leave_52 : decode cX3_leave 52 = .ok (.aload_n 0, 1) := by decide +kernel
theorem dX3_leave_53 : decode cX3_leave 53 = .ok (.getfield 81, 3) := by decide +kernel
theorem dX3_leave_56 : decode cX3_leave 56 = .ok (.iastore, 1) := by decide +kernel
theorem dX3_leave_57 : decode cX3_leave 57 = .ok (.aload_n 0, 1) := by decide +kernel
theorem dX3_leave_58 : decode cX3_leave 58 = .ok (.getfield 48, 3) := by decide +kernel
theorem dX3_leave_61 : decode cX3_leave 61 = .ok (.aload_n 0, 1) := by decide +kernel
theorem dX3_leave_62 : decode cX3_leave 62 = .ok (.getfield 98, 3) := by decide +kernel
theorem dX3_leave_65 : decode cX3_leave 65 = .ok (.aload_n 0, 1) := by decide +kernel
theorem dX3_leave_66 : decode cX3_leave 66 = .ok (.getfield 30, 3) := by decide +kernel
theorem dX3_leave_69 : decode cX3_leave 69 = .ok (.iload 4, 2) := by decide +kernel
theorem dX3_leave_71 : decode cX3_leave 71 = .ok (.iaload, 1) := by decide +kernel
theorem dX3_leave_72 : decode cX3_leave 72 = .ok (.iastore, 1) := by decide +kernel
theorem dX3_leave_73 : decode cX3_leave 73 = .ok (.aload_n 0, 1) := by decide +kernel
theorem dX3_leave_74 : decode cX3_leave 74 = .ok (.dup, 1) := by decide +kernel
theorem dX3_leave_75 : decode cX3_leave 75 = .ok (.getfield 98, 3) := by decide +kernel
theorem dX3_leave_78 : decode cX3_leave 78 = .ok (.iconst 1, 1) := by decide +kernel
theorem dX3_leave_79 : decode cX3_leave 79 = .ok (.iadd, 1) := by decide +kernel
theorem dX3_leave_80 : decode cX3_leave 80 = .ok (.putfield 98, 3) := by decide +kernel
theorem dX3_leave_83 : decode cX3_leave 83 = .ok (.return_, 1) := by decide +kernel
set_option maxRecDepth 20000 in
theorem ggX3_atChute_X3_trayAt : GoodIn wsX3_atChute wsX3_trayAt := goodIn_r _ [10, 11, 12, 23, 24, 25, 26, 27, 28, 29, 30, 31, 32, 33, 34, 35, 36, 37, 38, 39, 40, 41, 42, 43, 44, 45] (by decide +kernel) (by decide +kernel)
set_option maxRecDepth 20000 in
theorem gX3_atChute_X3_trayAt : GoodIn wsX3_atChute (wsV RX3 90 RX3 yX3_trayAt wsX3_trayAt) := goodIn_app (goodIn_of _ (by decide +kernel)) ggX3_atChute_X3_trayAt
set_option maxRecDepth 20000 in
theorem ggX3_atChute_X3_leave : GoodIn wsX3_atChute wsX3_leave := goodIn_r _ [16, 1, 17, 18, 19, 20, 21, 12, 22, 4, 23, 24, 25, 26, 27, 28, 29, 30, 31, 32, 33, 34, 35, 36, 37, 38, 39, 40, 41, 42, 43, 44, 45] (by decide +kernel) (by decide +kernel)
set_option maxRecDepth 20000 in
theorem gX3_atChute_X3_leave : GoodIn wsX3_atChute (wsV RX3 101 RX3 yX3_leave wsX3_leave) := goodIn_app (goodIn_of _ (by decide +kernel)) ggX3_atChute_X3_leave
theorem dX3_atChute_0 : decode cX3_atChute 0 = .ok (.aload_n 0, 1) := by decide +kernel
theorem dX3_atChute_1 : decode cX3_atChute 1 = .ok (.iconst 2, 1) := by decide +kernel
theorem dX3_atChute_2 : decode cX3_atChute 2 = .ok (.iload_n 1, 1) := by decide +kernel
theorem dX3_atChute_3 : decode cX3_atChute 3 = .ok (.imul, 1) := by decide +kernel
theorem dX3_atChute_4 : decode cX3_atChute 4 = .ok (.invokevirtual 90, 3) := by decide +kernel
theorem dX3_atChute_7 : decode cX3_atChute 7 = .ok (.istore_n 2, 1) := by decide +kernel
theorem dX3_atChute_8 : decode cX3_atChute 8 = .ok (.aload_n 0, 1) := by decide +kernel
theorem dX3_atChute_9 : decode cX3_atChute 9 = .ok (.getfield 13, 3) := by decide +kernel
theorem dX3_atChute_12 : decode cX3_atChute 12 = .ok (.iload_n 2, 1) := by decide +kernel
theorem dX3_atChute_13 : decode cX3_atChute 13 = .ok (.iaload, 1) := by decide +kernel
theorem dX3_atChute_14 : decode cX3_atChute 14 = .ok (.istore_n 3, 1) := by decide +kernel
theorem dX3_atChute_15 : decode cX3_atChute 15 = .ok (.iload_n 3, 1) := by decide +kernel
theorem dX3_atChute_16 : decode cX3_atChute 16 = .ok (.ifCond .eq 13, 3) := by decide +kernel
theorem dX3_atChute_19 : decode cX3_atChute 19 = .ok (.aload_n 0, 1) := by decide +kernel
theorem dX3_atChute_20 : decode cX3_atChute 20 = .ok (.getfield 27, 3) := by decide +kernel
theorem dX3_atChute_23 : decode cX3_atChute 23 = .ok (.iload_n 3, 1) := by decide +kernel
theorem dX3_atChute_24 : decode cX3_atChute 24 = .ok (.iaload, 1) := by decide +kernel
theorem dX3_atChute_25 : decode cX3_atChute 25 = .ok (.iload_n 1, 1) := by decide +kernel
theorem dX3_atChute_26 : decode cX3_atChute 26 = .ok (.if_icmp .eq 4, 3) := by decide +kernel
theorem dX3_atChute_29 : decode cX3_atChute 29 = .ok (.return_, 1) := by decide +kernel
theorem dX3_atChute_30 : decode cX3_atChute 30 = .ok (.aload_n 0, 1) := by decide +kernel
theorem dX3_atChute_31 : decode cX3_atChute 31 = .ok (.getfield 17, 3) := by decide +kernel
theorem dX3_atChute_34 : decode cX3_atChute 34 = .ok (.iload_n 1, 1) := by decide +kernel
theorem dX3_atChute_35 : decode cX3_atChute 35 = .ok (.baload, 1) := by decide +kernel
theorem dX3_atChute_36 : decode cX3_atChute 36 = .ok (.ifCond .ne 11, 3) := by decide +kernel
theorem dX3_atChute_39 : decode cX3_atChute 39 = .ok (.aload_n 0, 1) := by decide +kernel
theorem dX3_atChute_40 : decode cX3_atChute 40 = .ok (.iload_n 2, 1) := by decide +kernel
theorem dX3_atChute_41 : decode cX3_atChute 41 = .ok (.iconst 2, 1) := by decide +kernel
theorem dX3_atChute_42 : decode cX3_atChute 42 = .ok (.iload_n 1, 1) := by decide +kernel
theorem dX3_atChute_43 : decode cX3_atChute 43 = .ok (.invokevirtual 101, 3) := by decide +kernel
theorem dX3_atChute_46 : decode cX3_atChute 46 = .ok (.return_, 1) := by decide +kernel
theorem dX3_atChute_47 : decode cX3_atChute 47 = .ok (.aload_n 0, 1) := by decide +kernel
theorem dX3_atChute_48 : decode cX3_atChute 48 = .ok (.getfield 30, 3) := by decide +kernel
theorem dX3_atChute_51 : decode cX3_atChute 51 = .ok (.iload_n 3, 1) := by decide +kernel
theorem dX3_atChute_52 : decode cX3_atChute 52 = .ok (.dup2, 1) := by decide +kernel
theorem dX3_atChute_53 : decode cX3_atChute 53 = .ok (.iaload, 1) := by decide +kernel
theorem dX3_atChute_54 : decode cX3_atChute 54 = .ok (.iconst 1, 1) := by decide +kernel
theorem dX3_atChute_55 : decode cX3_atChute 55 = .ok (.iadd, 1) := by decide +kernel
theorem dX3_atChute_56 : decode cX3_atChute 56 = .ok (.iastore, 1) := by decide +kernel
theorem dX3_atChute_57 : decode cX3_atChute 57 = .ok (.aload_n 0, 1) := by decide +kernel
theorem dX3_atChute_58 : decode cX3_atChute 58 = .ok (.getfield 30, 3) := by decide +kernel
theorem dX3_atChute_61 : decode cX3_atChute 61 = .ok (.iload_n 3, 1) := by decide +kernel
theorem dX3_atChute_62 : decode cX3_atChute 62 = .ok (.iaload, 1) := by decide +kernel
theorem dX3_atChute_63 : decode cX3_atChute 63 = .ok (.aload_n 0, 1) := by decide +kernel
theorem dX3_atChute_64 : decode cX3_atChute 64 = .ok (.getfield 60, 3) := by decide +kernel
theorem dX3_atChute_67 : decode cX3_atChute 67 = .ok (.if_icmp .le 10, 3) := by decide +kernel
theorem dX3_atChute_70 : decode cX3_atChute 70 = .ok (.aload_n 0, 1) := by decide +kernel
theorem dX3_atChute_71 : decode cX3_atChute 71 = .ok (.iload_n 2, 1) := by decide +kernel
theorem dX3_atChute_72 : decode cX3_atChute 72 = .ok (.iconst 4, 1) := by decide +kernel
theorem dX3_atChute_73 : decode cX3_atChute 73 = .ok (.iconst (-1), 1) := by decide +kernel
theorem dX3_atChute_74 : decode cX3_atChute 74 = .ok (.invokevirtual 101, 3) := by decide +kernel
theorem dX3_atChute_77 : decode cX3_atChute 77 = .ok (.return_, 1) := by decide +kernel
set_option maxRecDepth 20000 in
theorem ggX3_atReader_X3_trayAt : GoodIn wsX3_atReader wsX3_trayAt := goodIn_r _ [9, 10, 11, 23, 24, 25, 26, 27, 28, 29, 30, 31, 32, 33, 34, 35, 36, 37, 38, 39, 40, 41, 42, 43, 44, 45] (by decide +kernel) (by decide +kernel)
set_option maxRecDepth 20000 in
theorem gX3_atReader_X3_trayAt : GoodIn wsX3_atReader (wsV RX3 90 RX3 yX3_trayAt wsX3_trayAt) := goodIn_app (goodIn_of _ (by decide +kernel)) ggX3_atReader_X3_trayAt
set_option maxRecDepth 20000 in
theorem ggX3_atReader_X3_leave : GoodIn wsX3_atReader wsX3_leave := goodIn_r _ [15, 1, 16, 17, 18, 19, 20, 11, 21, 22, 23, 24, 25, 26, 27, 28, 29, 30, 31, 32, 33, 34, 35, 36, 37, 38, 39, 40, 41, 42, 43, 44, 45] (by decide +kernel) (by decide +kernel)
set_option maxRecDepth 20000 in
theorem gX3_atReader_X3_leave : GoodIn wsX3_atReader (wsV RX3 101 RX3 yX3_leave wsX3_leave) := goodIn_app (goodIn_of _ (by decide +kernel)) ggX3_atReader_X3_leave
theorem dX3_atReader_0 : decode cX3_atReader 0 = .ok (.aload_n 0, 1) := by decide +kernel
theorem dX3_atReader_1 : decode cX3_atReader 1 = .ok (.iconst 0, 1) := by decide +kernel
theorem dX3_atReader_2 : decode cX3_atReader 2 = .ok (.invokevirtual 90, 3) := by decide +kernel
theorem dX3_atReader_5 : decode cX3_atReader 5 = .ok (.istore_n 1, 1) := by decide +kernel
theorem dX3_atReader_6 : decode cX3_atReader 6 = .ok (.aload_n 0, 1) := by decide +kernel
theorem dX3_atReader_7 : decode cX3_atReader 7 = .ok (.getfield 13, 3) := by decide +kernel
theorem dX3_atReader_10 : decode cX3_atReader 10 = .ok (.iload_n 1, 1) := by decide +kernel
theorem dX3_atReader_11 : decode cX3_atReader 11 = .ok (.iaload, 1) := by decide +kernel
theorem dX3_atReader_12 : decode cX3_atReader 12 = .ok (.istore_n 2, 1) := by decide +kernel
theorem dX3_atReader_13 : decode cX3_atReader 13 = .ok (.iload_n 2, 1) := by decide +kernel
theorem dX3_atReader_14 : decode cX3_atReader 14 = .ok (.ifCond .eq 12, 3) := by decide +kernel
theorem dX3_atReader_17 : decode cX3_atReader 17 = .ok (.aload_n 0, 1) := by decide +kernel
theorem dX3_atReader_18 : decode cX3_atReader 18 = .ok (.getfield 27, 3) := by decide +kernel
theorem dX3_atReader_21 : decode cX3_atReader 21 = .ok (.iload_n 2, 1) := by decide +kernel
theorem dX3_atReader_22 : decode cX3_atReader 22 = .ok (.iaload, 1) := by decide +kernel
theorem dX3_atReader_23 : decode cX3_atReader 23 = .ok (.ifCond .eq 4, 3) := by decide +kernel
theorem dX3_atReader_26 : decode cX3_atReader 26 = .ok (.return_, 1) := by decide +kernel
theorem dX3_atReader_27 : decode cX3_atReader 27 = .ok (.aload_n 0, 1) := by decide +kernel
theorem dX3_atReader_28 : decode cX3_atReader 28 = .ok (.getfield 33, 3) := by decide +kernel
theorem dX3_atReader_31 : decode cX3_atReader 31 = .ok (.iload_n 2, 1) := by decide +kernel
theorem dX3_atReader_32 : decode cX3_atReader 32 = .ok (.iaload, 1) := by decide +kernel
theorem dX3_atReader_33 : decode cX3_atReader 33 = .ok (.ifCond .ne 11, 3) := by decide +kernel
theorem dX3_atReader_36 : decode cX3_atReader 36 = .ok (.aload_n 0, 1) := by decide +kernel
theorem dX3_atReader_37 : decode cX3_atReader 37 = .ok (.iload_n 1, 1) := by decide +kernel
theorem dX3_atReader_38 : decode cX3_atReader 38 = .ok (.iconst 3, 1) := by decide +kernel
theorem dX3_atReader_39 : decode cX3_atReader 39 = .ok (.iconst 0, 1) := by decide +kernel
theorem dX3_atReader_40 : decode cX3_atReader 40 = .ok (.invokevirtual 101, 3) := by decide +kernel
theorem dX3_atReader_43 : decode cX3_atReader 43 = .ok (.return_, 1) := by decide +kernel
theorem dX3_atReader_44 : decode cX3_atReader 44 = .ok (.aload_n 0, 1) := by decide +kernel
theorem dX3_atReader_45 : decode cX3_atReader 45 = .ok (.getfield 33, 3) := by decide +kernel
theorem dX3_atReader_48 : decode cX3_atReader 48 = .ok (.iload_n 2, 1) := by decide +kernel
theorem dX3_atReader_49 : decode cX3_atReader 49 = .ok (.dup2, 1) := by decide +kernel
theorem dX3_atReader_50 : decode cX3_atReader 50 = .ok (.iaload, 1) := by decide +kernel
theorem dX3_atReader_51 : decode cX3_atReader 51 = .ok (.iconst 1, 1) := by decide +kernel
theorem dX3_atReader_52 : decode cX3_atReader 52 = .ok (.isub, 1) := by decide +kernel
theorem dX3_atReader_53 : decode cX3_atReader 53 = .ok (.iastore, 1) := by decide +kernel
theorem dX3_atReader_54 : decode cX3_atReader 54 = .ok (.aload_n 0, 1) := by decide +kernel
theorem dX3_atReader_55 : decode cX3_atReader 55 = .ok (.getfield 33, 3) := by decide +kernel
theorem dX3_atReader_58 : decode cX3_atReader 58 = .ok (.iload_n 2, 1) := by decide +kernel
theorem dX3_atReader_59 : decode cX3_atReader 59 = .ok (.iaload, 1) := by decide +kernel
theorem dX3_atReader_60 : decode cX3_atReader 60 = .ok (.ifCond .ne 15, 3) := by decide +kernel
theorem dX3_atReader_63 : decode cX3_atReader 63 = .ok (.aload_n 0, 1) := by decide +kernel
theorem dX3_atReader_64 : decode cX3_atReader 64 = .ok (.getfield 27, 3) := by decide +kernel
theorem dX3_atReader_67 : decode cX3_atReader 67 = .ok (.iload_n 2, 1) := by decide +kernel
theorem dX3_atReader_68 : decode cX3_atReader 68 = .ok (.aload_n 0, 1) := by decide +kernel
theorem dX3_atReader_69 : decode cX3_atReader 69 = .ok (.getfield 36, 3) := by decide +kernel
theorem dX3_atReader_72 : decode cX3_atReader 72 = .ok (.iload_n 2, 1) := by decide +kernel
theorem dX3_atReader_73 : decode cX3_atReader 73 = .ok (.iaload, 1) := by decide +kernel
theorem dX3_atReader_74 : decode cX3_atReader 74 = .ok (.iastore, 1) := by decide +kernel
theorem dX3_atReader_75 : decode cX3_atReader 75 = .ok (.return_, 1) := by decide +kernel
set_option maxRecDepth 20000 in
theorem ggX3_step_X3_in : GoodIn wsX3_step wsX3_in := goodIn_r _ [8] (by decide +kernel) (by decide +kernel)
set_option maxRecDepth 20000 in
theorem gX3_step_X3_in : GoodIn wsX3_step (va_wsS RX3 69 yX3_in wsX3_in) := goodIn_app (goodIn_of _ (by decide +kernel)) ggX3_step_X3_in
set_option maxRecDepth 20000 in
theorem ggX3_step_X3_chutes : GoodIn wsX3_step wsX3_chutes := goodIn_r _ [12, 13, 42, 43, 44, 45, 46, 47, 48, 49, 50, 51, 52, 53, 54, 55, 56, 57, 58, 59, 60, 61, 62, 63, 64] (by decide +kernel) (by decide +kernel)
set_option maxRecDepth 20000 in
theorem gX3_step_X3_chutes : GoodIn wsX3_step (wsV RX3 73 RX3 yX3_chutes wsX3_chutes) := goodIn_app (goodIn_of _ (by decide +kernel)) ggX3_step_X3_chutes
set_option maxRecDepth 20000 in
theorem ggX3_step_X3_atChute : GoodIn wsX3_step wsX3_atChute := goodIn_r _ [17, 18, 19, 20, 21, 22, 23, 24, 25, 7, 26, 13, 4, 27, 28, 29, 30, 31, 32, 3, 33, 34, 35, 42, 43, 44, 45, 46, 47, 48, 49, 50, 51, 52, 53, 54, 55, 56, 57, 58, 59, 60, 61, 62, 63, 64] (by decide +kernel) (by decide +kernel)
set_option maxRecDepth 20000 in
theorem gX3_step_X3_atChute : GoodIn wsX3_step (wsV RX3 105 RX3 yX3_atChute wsX3_atChute) := goodIn_app (goodIn_of _ (by decide +kernel)) ggX3_step_X3_atChute
set_option maxRecDepth 20000 in
theorem ggX3_step_X3_atReader : GoodIn wsX3_step wsX3_atReader := goodIn_r _ [39, 18, 19, 40, 41, 23, 24, 25, 7, 26, 13, 4, 27, 28, 29, 30, 31, 32, 3, 33, 34, 35, 21, 42, 43, 44, 45, 46, 47, 48, 49, 50, 51, 52, 53, 54, 55, 56, 57, 58, 59, 60, 61, 62, 63, 64] (by decide +kernel) (by decide +kernel)
set_option maxRecDepth 20000 in
theorem gX3_step_X3_atReader : GoodIn wsX3_step (wsV RX3 109 RX3 yX3_atReader wsX3_atReader) := goodIn_app (goodIn_of _ (by decide +kernel)) ggX3_step_X3_atReader
theorem dX3_step_0 : decode cX3_step 0 = .ok (.aload_n 0, 1) := by decide +kernel
theorem dX3_step_1 : decode cX3_step 1 = .ok (.iload_n 1, 1) := by decide +kernel
theorem dX3_step_2 : decode cX3_step 2 = .ok (.iconst 0, 1) := by decide +kernel
theorem dX3_step_3 : decode cX3_step 3 = .ok (.bipush 100, 2) := by decide +kernel
theorem dX3_step_5 : decode cX3_step 5 = .ok (.invokestatic 69, 3) := by decide +kernel
theorem dX3_step_8 : decode cX3_step 8 = .ok (.ifCond .ne 7, 3) := by decide +kernel
theorem dX3_step_11 : decode cX3_step 11 = .ok (.iconst 1, 1) := by decide +kernel
theorem dX3_step_12 : decode cX3_step 12 = .ok (.goto 15, 3) := by decide +kernel
theorem dX3_step_15 : decode cX3_step 15 = .ok (.aload_n 0, 1) := by decide +kernel
theorem dX3_step_16 : decode cX3_step 16 = .ok (.getfield 94, 3) := by decide +kernel
theorem dX3_step_19 : decode cX3_step 19 = .ok (.ifCond .eq 7, 3) := by decide +kernel
theorem dX3_step_22 : decode cX3_step 22 = .ok (.iconst 2, 1) := by decide +kernel
theorem dX3_step_23 : decode cX3_step 23 = .ok (.goto 4, 3) := by decide +kernel
theorem dX3_step_26 : decode cX3_step 26 = .ok (.iconst 0, 1) := by decide +kernel
theorem dX3_step_27 : decode cX3_step 27 = .ok (.putfield 63, 3) := by decide +kernel
theorem dX3_step_30 : decode cX3_step 30 = .ok (.aload_n 0, 1) := by decide +kernel
theorem dX3_step_31 : decode cX3_step 31 = .ok (.getfield 63, 3) := by decide +kernel
theorem dX3_step_34 : decode cX3_step 34 = .ok (.ifCond .le 5, 3) := by decide +kernel
theorem dX3_step_37 : decode cX3_step 37 = .ok (.iconst 0, 1) := by decide +kernel
theorem dX3_step_38 : decode cX3_step 38 = .ok (.ireturn, 1) := by decide +kernel
theorem dX3_step_39 : decode cX3_step 39 = .ok (.aload_n 0, 1) := by decide +kernel
theorem dX3_step_40 : decode cX3_step 40 = .ok (.getfield 98, 3) := by decide +kernel
theorem dX3_step_43 : decode cX3_step 43 = .ok (.istore_n 2, 1) := by decide +kernel
theorem dX3_step_44 : decode cX3_step 44 = .ok (.iconst 0, 1) := by decide +kernel
theorem dX3_step_45 : decode cX3_step 45 = .ok (.istore_n 3, 1) := by decide +kernel
theorem dX3_step_46 : decode cX3_step 46 = .ok (.iload_n 3, 1) := by decide +kernel
theorem dX3_step_47 : decode cX3_step 47 = .ok (.iload_n 1, 1) := by decide +kernel
theorem dX3_step_48 : decode cX3_step 48 = .ok (.if_icmp .ge 47, 3) := by decide +kernel
theorem dX3_step_51 : decode cX3_step 51 = .ok (.aload_n 0, 1) := by decide +kernel
theorem dX3_step_52 : decode cX3_step 52 = .ok (.dup, 1) := by decide +kernel
theorem dX3_step_53 : decode cX3_step 53 = .ok (.getfield 81, 3) := by decide +kernel
theorem dX3_step_56 : decode cX3_step 56 = .ok (.iconst 1, 1) := by decide +kernel
theorem dX3_step_57 : decode cX3_step 57 = .ok (.iadd, 1) := by decide +kernel
theorem dX3_step_58 : decode cX3_step 58 = .ok (.putfield 81, 3) := by decide +kernel
theorem dX3_step_61 : decode cX3_step 61 = .ok (.iconst 1, 1) := by decide +kernel
theorem dX3_step_62 : decode cX3_step 62 = .ok (.istore 4, 2) := by decide +kernel
theorem dX3_step_64 : decode cX3_step 64 = .ok (.iload 4, 2) := by decide +kernel
theorem dX3_step_66 : decode cX3_step 66 = .ok (.aload_n 0, 1) := by decide +kernel
theorem dX3_step_67 : decode cX3_step 67 = .ok (.invokevirtual 73, 3) := by decide +kernel
theorem dX3_step_70 : decode cX3_step 70 = .ok (.if_icmp .gt 15, 3) := by decide +kernel
theorem dX3_step_73 : decode cX3_step 73 = .ok (.aload_n 0, 1) := by decide +kernel
theorem dX3_step_74 : decode cX3_step 74 = .ok (.iload 4, 2) := by decide +kernel
theorem dX3_step_76 : decode cX3_step 76 = .ok (.invokevirtual 105, 3) := by decide +kernel
theorem dX3_step_79 : decode cX3_step 79 = .ok (.iinc 4 1, 3) := by decide +kernel
theorem dX3_step_82 : decode cX3_step 82 = .ok (.goto (-18), 3) := by decide +kernel
theorem dX3_step_85 : decode cX3_step 85 = .ok (.aload_n 0, 1) := by decide +kernel
theorem dX3_step_86 : decode cX3_step 86 = .ok (.invokevirtual 109, 3) := by decide +kernel
theorem dX3_step_89 : decode cX3_step 89 = .ok (.iinc 3 1, 3) := by decide +kernel
theorem dX3_step_92 : decode cX3_step 92 = .ok (.goto (-46), 3) := by decide +kernel
theorem dX3_step_95 : decode cX3_step 95 = .ok (.aload_n 0, 1) := by decide +kernel
theorem dX3_step_96 : decode cX3_step 96 = .ok (.getfield 98, 3) := by decide +kernel
theorem dX3_step_99 : decode cX3_step 99 = .ok (.iload_n 2, 1) := by decide +kernel
theorem dX3_step_100 : decode cX3_step 100 = .ok (.isub, 1) := by decide +kernel
theorem dX3_step_101 : decode cX3_step 101 = .ok (.ireturn, 1) := by decide +kernel
set_option maxRecDepth 20000 in
theorem ggX3_out_X3_in : GoodIn wsX3_out wsX3_in := goodIn_r _ [10] (by decide +kernel) (by decide +kernel)
set_option maxRecDepth 20000 in
theorem gX3_out_X3_in : GoodIn wsX3_out (va_wsS RX3 69 yX3_in wsX3_in) := goodIn_app (goodIn_of _ (by decide +kernel)) ggX3_out_X3_in
theorem dX3_out_0 : decode cX3_out 0 = .ok (.aload_n 0, 1) := by decide +kernel
theorem dX3_out_1 : decode cX3_out 1 = .ok (.iload_n 1, 1) := by decide +kernel
theorem dX3_out_2 : decode cX3_out 2 = .ok (.iconst 0, 1) := by decide +kernel
theorem dX3_out_3 : decode cX3_out 3 = .ok (.aload_n 0, 1) := by decide +kernel
theorem dX3_out_4 : decode cX3_out 4 = .ok (.getfield 98, 3) := by decide +kernel
theorem dX3_out_7 : decode cX3_out 7 = .ok (.iconst 1, 1) := by decide +kernel
theorem dX3_out_8 : decode cX3_out 8 = .ok (.isub, 1) := by decide +kernel
theorem dX3_out_9 : decode cX3_out 9 = .ok (.invokestatic 69, 3) := by decide +kernel
theorem dX3_out_12 : decode cX3_out 12 = .ok (.ifCond .eq 12, 3) := by decide +kernel
theorem dX3_out_15 : decode cX3_out 15 = .ok (.iload_n 2, 1) := by decide +kernel
theorem dX3_out_16 : decode cX3_out 16 = .ok (.iconst 0, 1) := by decide +kernel
theorem dX3_out_17 : decode cX3_out 17 = .ok (.iconst 3, 1) := by decide +kernel
theorem dX3_out_18 : decode cX3_out 18 = .ok (.invokestatic 69, 3) := by decide +kernel
theorem dX3_out_21 : decode cX3_out 21 = .ok (.ifCond .ne 7, 3) := by decide +kernel
theorem dX3_out_24 : decode cX3_out 24 = .ok (.iconst 1, 1) := by decide +kernel
theorem dX3_out_25 : decode cX3_out 25 = .ok (.goto 4, 3) := by decide +kernel
theorem dX3_out_28 : decode cX3_out 28 = .ok (.iconst 0, 1) := by decide +kernel
theorem dX3_out_29 : decode cX3_out 29 = .ok (.putfield 63, 3) := by decide +kernel
theorem dX3_out_32 : decode cX3_out 32 = .ok (.aload_n 0, 1) := by decide +kernel
theorem dX3_out_33 : decode cX3_out 33 = .ok (.getfield 63, 3) := by decide +kernel
theorem dX3_out_36 : decode cX3_out 36 = .ok (.ifCond .le 5, 3) := by decide +kernel
theorem dX3_out_39 : decode cX3_out 39 = .ok (.iconst 0, 1) := by decide +kernel
theorem dX3_out_40 : decode cX3_out 40 = .ok (.ireturn, 1) := by decide +kernel
theorem dX3_out_41 : decode cX3_out 41 = .ok (.iload_n 2, 1) := by decide +kernel
theorem dX3_out_42 : decode cX3_out 42 = .ok (.ifCond .ne 12, 3) := by decide +kernel
theorem dX3_out_45 : decode cX3_out 45 = .ok (.aload_n 0, 1) := by decide +kernel
theorem dX3_out_46 : decode cX3_out 46 = .ok (.getfield 39, 3) := by decide +kernel
theorem dX3_out_49 : decode cX3_out 49 = .ok (.iload_n 1, 1) := by decide +kernel
theorem dX3_out_50 : decode cX3_out 50 = .ok (.iaload, 1) := by decide +kernel
theorem dX3_out_51 : decode cX3_out 51 = .ok (.goto 37, 3) := by decide +kernel
theorem dX3_out_54 : decode cX3_out 54 = .ok (.iload_n 2, 1) := by decide +kernel
theorem dX3_out_55 : decode cX3_out 55 = .ok (.iconst 1, 1) := by decide +kernel
theorem dX3_out_56 : decode cX3_out 56 = .ok (.if_icmp .ne 12, 3) := by decide +kernel
theorem dX3_out_59 : decode cX3_out 59 = .ok (.aload_n 0, 1) := by decide +kernel
theorem dX3_out_60 : decode cX3_out 60 = .ok (.getfield 42, 3) := by decide +kernel
theorem dX3_out_63 : decode cX3_out 63 = .ok (.iload_n 1, 1) := by decide +kernel
theorem dX3_out_64 : decode cX3_out 64 = .ok (.iaload, 1) := by decide +kernel
theorem dX3_out_65 : decode cX3_out 65 = .ok (.goto 23, 3) := by decide +kernel
theorem dX3_out_68 : decode cX3_out 68 = .ok (.iload_n 2, 1) := by decide +kernel
theorem dX3_out_69 : decode cX3_out 69 = .ok (.iconst 2, 1) := by decide +kernel
theorem dX3_out_70 : decode cX3_out 70 = .ok (.if_icmp .ne 12, 3) := by decide +kernel
theorem dX3_out_73 : decode cX3_out 73 = .ok (.aload_n 0, 1) := by decide +kernel
theorem dX3_out_74 : decode cX3_out 74 = .ok (.getfield 45, 3) := by decide +kernel
theorem dX3_out_77 : decode cX3_out 77 = .ok (.iload_n 1, 1) := by decide +kernel
theorem dX3_out_78 : decode cX3_out 78 = .ok (.iaload, 1) := by decide +kernel
theorem dX3_out_79 : decode cX3_out 79 = .ok (.goto 9, 3) := by decide +kernel
theorem dX3_out_82 : decode cX3_out 82 = .ok (.aload_n 0, 1) := by decide +kernel
theorem dX3_out_83 : decode cX3_out 83 = .ok (.getfield 48, 3) := by decide +kernel
theorem dX3_out_86 : decode cX3_out 86 = .ok (.iload_n 1, 1) := by decide +kernel
theorem dX3_out_87 : decode cX3_out 87 = .ok (.iaload, 1) := by decide +kernel
theorem dX3_out_88 : decode cX3_out 88 = .ok (.ireturn, 1) := by decide +kernel
set_option maxRecDepth 20000 in
theorem ggX3_chute_X3_isChute : GoodIn wsX3_chute wsX3_isChute := goodIn_r _ [7, 8, 9, 10, 6, 11, 12, 13, 14, 15, 16, 17, 18, 19, 20, 21, 22, 23, 24, 25, 26, 27, 28, 29, 30, 31, 32, 33, 34, 35, 36, 37, 38] (by decide +kernel) (by decide +kernel)
set_option maxRecDepth 20000 in
theorem gX3_chute_X3_isChute : GoodIn wsX3_chute (wsV RX3 77 RX3 yX3_isChute wsX3_isChute) := goodIn_app (goodIn_of _ (by decide +kernel)) ggX3_chute_X3_isChute
theorem dX3_chute_0 : decode cX3_chute 0 = .ok (.aload_n 0, 1) := by decide +kernel
theorem dX3_chute_1 : decode cX3_chute 1 = .ok (.aload_n 0, 1) := by decide +kernel
theorem dX3_chute_2 : decode cX3_chute 2 = .ok (.iload_n 1, 1) := by decide +kernel
theorem dX3_chute_3 : decode cX3_chute 3 = .ok (.invokevirtual 77, 3) := by decide +kernel
theorem dX3_chute_6 : decode cX3_chute 6 = .ok (.ifCond .eq 7, 3) := by decide +kernel
theorem dX3_chute_9 : decode cX3_chute 9 = .ok (.iconst 0, 1) := by decide +kernel
theorem dX3_chute_10 : decode cX3_chute 10 = .ok (.goto 4, 3) := by decide +kernel
theorem dX3_chute_13 : decode cX3_chute 13 = .ok (.iconst 1, 1) := by decide +kernel
theorem dX3_chute_14 : decode cX3_chute 14 = .ok (.putfield 63, 3) := by decide +kernel
theorem dX3_chute_17 : decode cX3_chute 17 = .ok (.aload_n 0, 1) := by decide +kernel
theorem dX3_chute_18 : decode cX3_chute 18 = .ok (.getfield 63, 3) := by decide +kernel
