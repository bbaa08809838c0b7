theorem dX3_tray_12 : decode cX3_tray 12 = .ok (.ifCond .eq 7, 3) := by decide +kernel
theorem dX3_tray_15 : decode cX3_tray 15 = .ok (.iconst 0, 1) := by decide +kernel
theorem dX3_tray_16 : decode cX3_tray 16 = .ok (.goto 4, 3) := by decide +kernel
theorem dX3_tray_19 : decode cX3_tray 19 = .ok (.iconst 1, 1) := by decide +kernel
theorem dX3_tray_20 : decode cX3_tray 20 = .ok (.putfield 63, 3) := by decide +kernel
theorem dX3_tray_23 : decode cX3_tray 23 = .ok (.aload_n 0, 1) := by decide +kernel
theorem dX3_tray_24 : decode cX3_tray 24 = .ok (.getfield 63, 3) := by decide +kernel
theorem dX3_tray_27 : decode cX3_tray 27 = .ok (.ifCond .le 7, 3) := by decide +kernel
theorem dX3_tray_30 : decode cX3_tray 30 = .ok (.iconst 0, 1) := by decide +kernel
theorem dX3_tray_31 : decode cX3_tray 31 = .ok (.goto 9, 3) := by decide +kernel
theorem dX3_tray_34 : decode cX3_tray 34 = .ok (.aload_n 0, 1) := by decide +kernel
theorem dX3_tray_35 : decode cX3_tray 35 = .ok (.getfield 13, 3) := by decide +kernel
theorem dX3_tray_38 : decode cX3_tray 38 = .ok (.iload_n 1, 1) := by decide +kernel
theorem dX3_tray_39 : decode cX3_tray 39 = .ok (.iaload, 1) := by decide +kernel
theorem dX3_tray_40 : decode cX3_tray 40 = .ok (.ireturn, 1) := by decide +kernel
set_option maxRecDepth 20000 in
theorem ggX3_told_X3_isItem : GoodIn wsX3_told wsX3_isItem := goodIn_r _ [13, 14, 15, 16, 12, 17, 23, 24, 25, 26, 27, 28, 29, 30, 31, 32, 33, 34, 35, 36, 37, 38, 39, 40, 41, 42, 43, 44, 45] (by decide +kernel) (by decide +kernel)
set_option maxRecDepth 20000 in
theorem gX3_told_X3_isItem : GoodIn wsX3_told (wsV RX3 84 RX3 yX3_isItem wsX3_isItem) := goodIn_app (goodIn_of _ (by decide +kernel)) ggX3_told_X3_isItem
set_option maxRecDepth 20000 in
theorem ggX3_told_X3_in : GoodIn wsX3_told wsX3_in := goodIn_r _ [17] (by decide +kernel) (by decide +kernel)
set_option maxRecDepth 20000 in
theorem gX3_told_X3_in : GoodIn wsX3_told (va_wsS RX3 69 yX3_in wsX3_in) := goodIn_app (goodIn_of _ (by decide +kernel)) ggX3_told_X3_in
set_option maxRecDepth 20000 in
theorem ggX3_told_X3_trayOf : GoodIn wsX3_told wsX3_trayOf := goodIn_r _ [21, 8, 22, 23, 24, 25, 26, 27, 28, 29, 30, 31, 32, 33, 34, 35, 36, 37, 38, 39, 40, 41, 42, 43, 44, 45] (by decide +kernel) (by decide +kernel)
set_option maxRecDepth 20000 in
theorem gX3_told_X3_trayOf : GoodIn wsX3_told (wsV RX3 115 RX3 yX3_trayOf wsX3_trayOf) := goodIn_app (goodIn_of _ (by decide +kernel)) ggX3_told_X3_trayOf
theorem dX3_told_0 : decode cX3_told 0 = .ok (.aload_n 0, 1) := by decide +kernel
theorem dX3_told_1 : decode cX3_told 1 = .ok (.aload_n 0, 1) := by decide +kernel
theorem dX3_told_2 : decode cX3_told 2 = .ok (.iload_n 1, 1) := by decide +kernel
theorem dX3_told_3 : decode cX3_told 3 = .ok (.invokevirtual 84, 3) := by decide +kernel
theorem dX3_told_6 : decode cX3_told 6 = .ok (.ifCond .eq 13, 3) := by decide +kernel
theorem dX3_told_9 : decode cX3_told 9 = .ok (.iload_n 2, 1) := by decide +kernel
theorem dX3_told_10 : decode cX3_told 10 = .ok (.iconst 0, 1) := by decide +kernel
theorem dX3_told_11 : decode cX3_told 11 = .ok (.bipush 6, 2) := by decide +kernel
theorem dX3_told_13 : decode cX3_told 13 = .ok (.invokestatic 69, 3) := by decide +kernel
theorem dX3_told_16 : decode cX3_told 16 = .ok (.ifCond .ne 7, 3) := by decide +kernel
theorem dX3_told_19 : decode cX3_told 19 = .ok (.iconst 1, 1) := by decide +kernel
theorem dX3_told_20 : decode cX3_told 20 = .ok (.goto 4, 3) := by decide +kernel
theorem dX3_told_23 : decode cX3_told 23 = .ok (.iconst 0, 1) := by decide +kernel
theorem dX3_told_24 : decode cX3_told 24 = .ok (.putfield 63, 3) := by decide +kernel
theorem dX3_told_27 : decode cX3_told 27 = .ok (.aload_n 0, 1) := by decide +kernel
theorem dX3_told_28 : decode cX3_told 28 = .ok (.getfield 63, 3) := by decide +kernel
theorem dX3_told_31 : decode cX3_told 31 = .ok (.ifCond .le 5, 3) := by decide +kernel
theorem dX3_told_34 : decode cX3_told 34 = .ok (.iconst 0, 1) := by decide +kernel
theorem dX3_told_35 : decode cX3_told 35 = .ok (.ireturn, 1) := by decide +kernel
theorem dX3_told_36 : decode cX3_told 36 = .ok (.iload_n 2, 1) := by decide +kernel
theorem dX3_told_37 : decode cX3_told 37 = .ok (.ifCond .ne 10, 3) := by decide +kernel
theorem dX3_told_40 : decode cX3_told 40 = .ok (.aload_n 0, 1) := by decide +kernel
theorem dX3_told_41 : decode cX3_told 41 = .ok (.getfield 24, 3) := by decide +kernel
theorem dX3_told_44 : decode cX3_told 44 = .ok (.iload_n 1, 1) := by decide +kernel
theorem dX3_told_45 : decode cX3_told 45 = .ok (.iaload, 1) := by decide +kernel
theorem dX3_told_46 : decode cX3_told 46 = .ok (.ireturn, 1) := by decide +kernel
theorem dX3_told_47 : decode cX3_told 47 = .ok (.iload_n 2, 1) := by decide +kernel
theorem dX3_told_48 : decode cX3_told 48 = .ok (.iconst 1, 1) := by decide +kernel
theorem dX3_told_49 : decode cX3_told 49 = .ok (.if_icmp .ne 10, 3) := by decide +kernel
theorem dX3_told_52 : decode cX3_told 52 = .ok (.aload_n 0, 1) := by decide +kernel
theorem dX3_told_53 : decode cX3_told 53 = .ok (.getfield 27, 3) := by decide +kernel
theorem dX3_told_56 : decode cX3_told 56 = .ok (.iload_n 1, 1) := by decide +kernel
theorem dX3_told_57 : decode cX3_told 57 = .ok (.iaload, 1) := by decide +kernel
theorem dX3_told_58 : decode cX3_told 58 = .ok (.ireturn, 1) := by decide +kernel
theorem dX3_told_59 : decode cX3_told 59 = .ok (.iload_n 2, 1) := by decide +kernel
theorem dX3_told_60 : decode cX3_told 60 = .ok (.iconst 2, 1) := by decide +kernel
theorem dX3_told_61 : decode cX3_told 61 = .ok (.if_icmp .ne 10, 3) := by decide +kernel
theorem dX3_told_64 : decode cX3_told 64 = .ok (.aload_n 0, 1) := by decide +kernel
theorem dX3_told_65 : decode cX3_told 65 = .ok (.getfield 30, 3) := by decide +kernel
theorem dX3_told_68 : decode cX3_told 68 = .ok (.iload_n 1, 1) := by decide +kernel
theorem dX3_told_69 : decode cX3_told 69 = .ok (.iaload, 1) := by decide +kernel
theorem dX3_told_70 : decode cX3_told 70 = .ok (.ireturn, 1) := by decide +kernel
theorem dX3_told_71 : decode cX3_told 71 = .ok (.iload_n 2, 1) := by decide +kernel
theorem dX3_told_72 : decode cX3_told 72 = .ok (.iconst 3, 1) := by decide +kernel
theorem dX3_told_73 : decode cX3_told 73 = .ok (.if_icmp .ne 10, 3) := by decide +kernel
theorem dX3_told_76 : decode cX3_told 76 = .ok (.aload_n 0, 1) := by decide +kernel
theorem dX3_told_77 : decode cX3_told 77 = .ok (.getfield 21, 3) := by decide +kernel
theorem dX3_told_80 : decode cX3_told 80 = .ok (.iload_n 1, 1) := by decide +kernel
theorem dX3_told_81 : decode cX3_told 81 = .ok (.iaload, 1) := by decide +kernel
theorem dX3_told_82 : decode cX3_told 82 = .ok (.ireturn, 1) := by decide +kernel
theorem dX3_told_83 : decode cX3_told 83 = .ok (.iload_n 2, 1) := by decide +kernel
theorem dX3_told_84 : decode cX3_told 84 = .ok (.bipush 6, 2) := by decide +kernel
theorem dX3_told_86 : decode cX3_told 86 = .ok (.if_icmp .ne 10, 3) := by decide +kernel
theorem dX3_told_89 : decode cX3_told 89 = .ok (.aload_n 0, 1) := by decide +kernel
theorem dX3_told_90 : decode cX3_told 90 = .ok (.getfield 33, 3) := by decide +kernel
theorem dX3_told_93 : decode cX3_told 93 = .ok (.iload_n 1, 1) := by decide +kernel
theorem dX3_told_94 : decode cX3_told 94 = .ok (.iaload, 1) := by decide +kernel
theorem dX3_told_95 : decode cX3_told 95 = .ok (.ireturn, 1) := by decide +kernel
theorem dX3_told_96 : decode cX3_told 96 = .ok (.aload_n 0, 1) := by decide +kernel
theorem dX3_told_97 : decode cX3_told 97 = .ok (.iload_n 1, 1) := by decide +kernel
theorem dX3_told_98 : decode cX3_told 98 = .ok (.invokevirtual 115, 3) := by decide +kernel
theorem dX3_told_101 : decode cX3_told 101 = .ok (.istore_n 3, 1) := by decide +kernel
theorem dX3_told_102 : decode cX3_told 102 = .ok (.iload_n 3, 1) := by decide +kernel
theorem dX3_told_103 : decode cX3_told 103 = .ok (.iconst (-1), 1) := by decide +kernel
theorem dX3_told_104 : decode cX3_told 104 = .ok (.if_icmp .ne 7, 3) := by decide +kernel
theorem dX3_told_107 : decode cX3_told 107 = .ok (.iconst (-1), 1) := by decide +kernel
theorem dX3_told_108 : decode cX3_told 108 = .ok (.goto 23, 3) := by decide +kernel
theorem dX3_told_111 : decode cX3_told 111 = .ok (.iload_n 2, 1) := by decide +kernel
theorem dX3_told_112 : decode cX3_told 112 = .ok (.iconst 4, 1) := by decide +kernel
theorem dX3_told_113 : decode cX3_told 113 = .ok (.if_icmp .ne 7, 3) := by decide +kernel
theorem dX3_told_116 : decode cX3_told 116 = .ok (.iload_n 3, 1) := by decide +kernel
theorem dX3_told_117 : decode cX3_told 117 = .ok (.goto 14, 3) := by decide +kernel
theorem dX3_told_120 : decode cX3_told 120 = .ok (.iload_n 3, 1) := by decide +kernel
theorem dX3_told_121 : decode cX3_told 121 = .ok (.aload_n 0, 1) := by decide +kernel
theorem dX3_told_122 : decode cX3_told 122 = .ok (.getfield 81, 3) := by decide +kernel
theorem dX3_told_125 : decode cX3_told 125 = .ok (.iadd, 1) := by decide +kernel
theorem dX3_told_126 : decode cX3_told 126 = .ok (.aload_n 0, 1) := by decide +kernel
theorem dX3_told_127 : decode cX3_told 127 = .ok (.getfield 57, 3) := by decide +kernel
theorem dX3_told_130 : decode cX3_told 130 = .ok (.irem, 1) := by decide +kernel
theorem dX3_told_131 : decode cX3_told 131 = .ok (.ireturn, 1) := by decide +kernel
set_option maxRecDepth 20000 in
theorem ggX3_count_X3_chutes : GoodIn wsX3_count wsX3_chutes := goodIn_r _ [12, 2, 13, 14, 15, 16, 17, 18, 19, 20, 21, 22, 23, 24, 25, 26, 27, 28, 29, 30, 31, 32, 33, 34, 35] (by decide +kernel) (by decide +kernel)
set_option maxRecDepth 20000 in
theorem gX3_count_X3_chutes : GoodIn wsX3_count (wsV RX3 73 RX3 yX3_chutes wsX3_chutes) := goodIn_app (goodIn_of _ (by decide +kernel)) ggX3_count_X3_chutes
theorem dX3_count_0 : decode cX3_count 0 = .ok (.aload_n 0, 1) := by decide +kernel
theorem dX3_count_1 : decode cX3_count 1 = .ok (.iconst 0, 1) := by decide +kernel
theorem dX3_count_2 : decode cX3_count 2 = .ok (.putfield 63, 3) := by decide +kernel
theorem dX3_count_5 : decode cX3_count 5 = .ok (.iload_n 1, 1) := by decide +kernel
theorem dX3_count_6 : decode cX3_count 6 = .ok (.ifCond .ne 8, 3) := by decide +kernel
theorem dX3_count_9 : decode cX3_count 9 = .ok (.aload_n 0, 1) := by decide +kernel
theorem dX3_count_10 : decode cX3_count 10 = .ok (.getfield 57, 3) := by decide +kernel
theorem dX3_count_13 : decode cX3_count 13 = .ok (.ireturn, 1) := by decide +kernel
theorem dX3_count_14 : decode cX3_count 14 = .ok (.iload_n 1, 1) := by decide +kernel
theorem dX3_count_15 : decode cX3_count 15 = .ok (.iconst 1, 1) := by decide +kernel
theorem dX3_count_16 : decode cX3_count 16 = .ok (.if_icmp .ne 8, 3) := by decide +kernel
theorem dX3_count_19 : decode cX3_count 19 = .ok (.aload_n 0, 1) := by decide +kernel
theorem dX3_count_20 : decode cX3_count 20 = .ok (.getfield 66, 3) := by decide +kernel
theorem dX3_count_23 : decode cX3_count 23 = .ok (.ireturn, 1) := by decide +kernel
theorem dX3_count_24 : decode cX3_count 24 = .ok (.iload_n 1, 1) := by decide +kernel
theorem dX3_count_25 : decode cX3_count 25 = .ok (.iconst 3, 1) := by decide +kernel
theorem dX3_count_26 : decode cX3_count 26 = .ok (.if_icmp .ne 8, 3) := by decide +kernel
theorem dX3_count_29 : decode cX3_count 29 = .ok (.aload_n 0, 1) := by decide +kernel
theorem dX3_count_30 : decode cX3_count 30 = .ok (.getfield 81, 3) := by decide +kernel
theorem dX3_count_33 : decode cX3_count 33 = .ok (.ireturn, 1) := by decide +kernel
theorem dX3_count_34 : decode cX3_count 34 = .ok (.iload_n 1, 1) := by decide +kernel
theorem dX3_count_35 : decode cX3_count 35 = .ok (.iconst 4, 1) := by decide +kernel
theorem dX3_count_36 : decode cX3_count 36 = .ok (.if_icmp .ne 8, 3) := by decide +kernel
theorem dX3_count_39 : decode cX3_count 39 = .ok (.aload_n 0, 1) := by decide +kernel
theorem dX3_count_40 : decode cX3_count 40 = .ok (.invokevirtual 73, 3) := by decide +kernel
theorem dX3_count_43 : decode cX3_count 43 = .ok (.ireturn, 1) := by decide +kernel
theorem dX3_count_44 : decode cX3_count 44 = .ok (.iload_n 1, 1) := by decide +kernel
theorem dX3_count_45 : decode cX3_count 45 = .ok (.bipush 6, 2) := by decide +kernel
theorem dX3_count_47 : decode cX3_count 47 = .ok (.if_icmp .ne 16, 3) := by decide +kernel
theorem dX3_count_50 : decode cX3_count 50 = .ok (.aload_n 0, 1) := by decide +kernel
theorem dX3_count_51 : decode cX3_count 51 = .ok (.getfield 94, 3) := by decide +kernel
theorem dX3_count_54 : decode cX3_count 54 = .ok (.ifCond .eq 7, 3) := by decide +kernel
theorem dX3_count_57 : decode cX3_count 57 = .ok (.iconst 1, 1) := by decide +kernel
theorem dX3_count_58 : decode cX3_count 58 = .ok (.goto 4, 3) := by decide +kernel
theorem dX3_count_61 : decode cX3_count 61 = .ok (.iconst 0, 1) := by decide +kernel
theorem dX3_count_62 : decode cX3_count 62 = .ok (.ireturn, 1) := by decide +kernel
theorem dX3_count_63 : decode cX3_count 63 = .ok (.iconst 0, 1) := by decide +kernel
theorem dX3_count_64 : decode cX3_count 64 = .ok (.istore_n 2, 1) := by decide +kernel
theorem dX3_count_65 : decode cX3_count 65 = .ok (.iconst 0, 1) := by decide +kernel
theorem dX3_count_66 : decode cX3_count 66 = .ok (.istore_n 3, 1) := by decide +kernel
theorem dX3_count_67 : decode cX3_count 67 = .ok (.iload_n 3, 1) := by decide +kernel
theorem dX3_count_68 : decode cX3_count 68 = .ok (.aload_n 0, 1) := by decide +kernel
theorem dX3_count_69 : decode cX3_count 69 = .ok (.getfield 57, 3) := by decide +kernel
theorem dX3_count_72 : decode cX3_count 72 = .ok (.if_icmp .ge 31, 3) := by decide +kernel
theorem dX3_count_75 : decode cX3_count 75 = .ok (.iload_n 1, 1) := by decide +kernel
theorem dX3_count_76 : decode cX3_count 76 = .ok (.iconst 2, 1) := by decide +kernel
theorem dX3_count_77 : decode cX3_count 77 = .ok (.if_icmp .ne 26, 3) := by decide +kernel
theorem dX3_count_80 : decode cX3_count 80 = .ok (.iload_n 2, 1) := by decide +kernel
theorem dX3_count_81 : decode cX3_count 81 = .ok (.aload_n 0, 1) := by decide +kernel
theorem dX3_count_82 : decode cX3_count 82 = .ok (.getfield 13, 3) := by decide +kernel
theorem dX3_count_85 : decode cX3_count 85 = .ok (.iload_n 3, 1) := by decide +kernel
theorem dX3_count_86 : decode cX3_count 86 = .ok (.iaload, 1) := by decide +kernel
theorem dX3_count_87 : decode cX3_count 87 = .ok (.ifCond .ne 7, 3) := by decide +kernel
theorem dX3_count_90 : decode cX3_count 90 = .ok (.iconst 1, 1) := by decide +kernel
theorem dX3_count_91 : decode cX3_count 91 = .ok (.goto 4, 3) := by decide +kernel
theorem dX3_count_94 : decode cX3_count 94 = .ok (.iconst 0, 1) := by decide +kernel
theorem dX3_count_95 : decode cX3_count 95 = .ok (.iadd, 1) := by decide +kernel
theorem dX3_count_96 : decode cX3_count 96 = .ok (.istore_n 2, 1) := by decide +kernel
theorem dX3_count_97 : decode cX3_count 97 = .ok (.iinc 3 1, 3) := by decide +kernel
theorem dX3_count_100 : decode cX3_count 100 = .ok (.goto (-33), 3) := by decide +kernel
theorem dX3_count_103 : decode cX3_count 103 = .ok (.iconst 1, 1) := by decide +kernel
theorem dX3_count_104 : decode cX3_count 104 = .ok (.istore_n 3, 1) := by decide +kernel
theorem dX3_count_105 : decode cX3_count 105 = .ok (.iload_n 3, 1) := by decide +kernel
theorem dX3_count_106 : decode cX3_count 106 = .ok (.aload_n 0, 1) := by decide +kernel
theorem dX3_count_107 : decode cX3_count 107 = .ok (.getfield 66, 3) := by decide +kernel
theorem dX3_count_110 : decode cX3_count 110 = .ok (.if_icmp .gt 32, 3) := by decide +kernel
theorem dX3_count_113 : decode cX3_count 113 = .ok (.iload_n 1, 1) := by decide +kernel
theorem dX3_count_114 : decode cX3_count 114 = .ok (.iconst 5, 1) := by decide +kernel
theorem dX3_count_115 : decode cX3_count 115 = .ok (.if_icmp .ne 27, 3) := by decide +kernel
theorem dX3_count_118 : decode cX3_count 118 = .ok (.iload_n 2, 1) := by decide +kernel
theorem dX3_count_119 : decode cX3_count 119 = .ok (.aload_n 0, 1) := by decide +kernel
theorem dX3_count_120 : decode cX3_count 120 = .ok (.getfield 24, 3) := by decide +kernel
theorem dX3_count_123 : decode cX3_count 123 = .ok (.iload_n 3, 1) := by decide +kernel
theorem dX3_count_124 : decode cX3_count 124 = .ok (.iaload, 1) := by decide +kernel
theorem dX3_count_125 : decode cX3_count 125 = .ok (.iconst 2, 1) := by decide +kernel
theorem dX3_count_126 : decode cX3_count 126 = .ok (.if_icmp .ne 7, 3) := by decide +kernel
theorem dX3_count_129 : decode cX3_count 129 = .ok (.iconst 1, 1) := by decide +kernel
theorem dX3_count_130 : decode cX3_count 130 = .ok (.goto 4, 3) := by decide +kernel
theorem dX3_count_133 : decode cX3_count 133 = .ok (.iconst 0, 1) := by decide +kernel
theorem dX3_count_134 : decode cX3_count 134 = .ok (.iadd, 1) := by decide +kernel
theorem dX3_count_135 : decode cX3_count 135 = .ok (.istore_n 2, 1) := by decide +kernel
theorem dX3_count_136 : decode cX3_count 136 = .ok (.iinc 3 1, 3) := by decide +kernel
theorem dX3_count_139 : decode cX3_count 139 = .ok (.goto (-34), 3) := by decide +kernel
theorem dX3_count_142 : decode cX3_count 142 = .ok (.iload_n 1, 1) := by decide +kernel
theorem dX3_count_143 : decode cX3_count 143 = .ok (.iconst 2, 1) := by decide +kernel
theorem dX3_count_144 : decode cX3_count 144 = .ok (.if_icmp .eq 8, 3) := by decide +kernel
theorem dX3_count_147 : decode cX3_count 147 = .ok (.iload_n 1, 1) := by decide +kernel
theorem dX3_count_148 : decode cX3_count 148 = .ok (.iconst 5, 1) := by decide +kernel
theorem dX3_count_149 : decode cX3_count 149 = .ok (.if_icmp .ne 7, 3) := by decide +kernel
theorem dX3_count_152 : decode cX3_count 152 = .ok (.iload_n 2, 1) := by decide +kernel
theorem dX3_count_153 : decode cX3_count 153 = .ok (.goto 4, 3) := by decide +kernel
theorem dX3_count_156 : decode cX3_count 156 = .ok (.iconst (-1), 1) := by decide +kernel
theorem dX3_count_157 : decode cX3_count 157 = .ok (.ireturn, 1) := by decide +kernel
theorem dJx00060_init_a7421_0 : decode cJx00060_init_a7421 0 = .ok (.aload_n 0, 1) := by decide +kernel
theorem dJx00060_init_a7421_1 : decode cJx00060_init_a7421 1 = .ok (.aload_n 1, 1) := by decide +kernel
theorem dJx00060_init_a7421_2 : decode cJx00060_init_a7421 2 = .ok (.invokespecial 7, 3) := by decide +kernel
theorem dJx00060_init_a7421_5 : decode cJx00060_init_a7421 5 = .ok (.return_, 1) := by decide +kernel
theorem dJ9_max_7cf53_0 : decode cJ9_max_7cf53 0 = .ok (.iload_n 0, 1) := by decide +kernel
theorem dJ9_max_7cf53_1 : decode cJ9_max_7cf53 1 = .ok (.iload_n 1, 1) := by decide +kernel
theorem dJ9_max_7cf53_2 : decode cJ9_max_7cf53 2 = .ok (.if_icmp .lt 7, 3) := by decide +kernel
theorem dJ9_max_7cf53_5 : decode cJ9_max_7cf53 5 = .ok (.iload_n 0, 1) := by decide +kernel
theorem dJ9_max_7cf53_6 : decode cJ9_max_7cf53 6 = .ok (.goto 4, 3) := by decide +kernel
theorem dJ9_max_7cf53_9 : decode cJ9_max_7cf53 9 = .ok (.iload_n 1, 1) := by decide +kernel
theorem dJ9_max_7cf53_10 : decode cJ9_max_7cf53 10 = .ok (.ireturn, 1) := by decide +kernel
theorem dJ9_min_7cf53_0 : decode cJ9_min_7cf53 0 = .ok (.iload_n 0, 1) := by decide +kernel
theorem dJ9_min_7cf53_1 : decode cJ9_min_7cf53 1 = .ok (.iload_n 1, 1) := by decide +kernel
theorem dJ9_min_7cf53_2 : decode cJ9_min_7cf53 2 = .ok (.if_icmp .gt 7, 3) := by decide +kernel
theorem dJ9_min_7cf53_5 : decode cJ9_min_7cf53 5 = .ok (.iload_n 0, 1) := by decide +kernel
theorem dJ9_min_7cf53_6 : decode cJ9_min_7cf53 6 = .ok (.goto 4, 3) := by decide +kernel
theorem dJ9_min_7cf53_9 : decode cJ9_min_7cf53 9 = .ok (.iload_n 1, 1) := by decide +kernel
theorem dJ9_min_7cf53_10 : decode cJ9_min_7cf53 10 = .ok (.ireturn, 1) := by decide +kernel
theorem dL_cell_0 : decode cL_cell 0 = .ok (.iload_n 1, 1) := by decide +kernel
theorem dL_cell_1 : decode cL_cell 1 = .ok (.aload_n 0, 1) := by decide +kernel
theorem dL_cell_2 : decode cL_cell 2 = .ok (.arraylength, 1) := by decide +kernel
theorem dL_cell_3 : decode cL_cell 3 = .ok (.if_icmp .ge 9, 3) := by decide +kernel
theorem dL_cell_6 : decode cL_cell 6 = .ok (.aload_n 0, 1) := by decide +kernel
theorem dL_cell_7 : decode cL_cell 7 = .ok (.iload_n 1, 1) := by decide +kernel
theorem dL_cell_8 : decode cL_cell 8 = .ok (.iaload, 1) := by decide +kernel
theorem dL_cell_9 : decode cL_cell 9 = .ok (.goto 4, 3) := by decide +kernel
theorem dL_cell_12 : decode cL_cell 12 = .ok (.iconst 0, 1) := by decide +kernel
theorem dL_cell_13 : decode cL_cell 13 = .ok (.ireturn, 1) := by decide +kernel
set_option maxRecDepth 20000 in
theorem ggL_item_X2_item : GoodIn wsL_item wsX2_item := goodIn_ca (goodIn_ca (goodIn_r _ [7, 8, 9, 10, 11, 12, 13, 14, 15, 16, 17, 6, 18, 19, 20, 21, 22, 23, 24, 25, 26, 27, 28, 29, 30, 31, 32, 33, 34, 35, 36, 37, 38, 39, 40, 41, 42, 43, 44, 45, 46, 47, 48, 49, 50, 51, 52, 53, 54, 55, 56, 57, 58, 59, 60, 61, 62, 63, 64, 65, 66, 67, 68, 69, 70, 71] (by decide +kernel) (by decide +kernel)) (goodIn_sub (fun _ h => List.mem_cons_of_mem _ (List.mem_append_left _ (List.mem_append_right _ h))) (by decide +kernel))) (goodIn_sub (fun _ h => List.mem_cons_of_mem _ (List.mem_append_right _ h)) (by decide +kernel))
set_option maxRecDepth 20000 in
theorem gL_item_X2_item : GoodIn wsL_item (wsV RL 7 RX2 yX2_item wsX2_item) := goodIn_app (goodIn_of _ (by decide +kernel)) ggL_item_X2_item
theorem dL_item_0 : decode cL_item 0 = .ok (.aload_n 2, 1) := by decide +kernel
theorem dL_item_1 : decode cL_item 1 = .ok (.iconst 0, 1) := by decide +kernel
theorem dL_item_2 : decode cL_item 2 = .ok (.aload_n 0, 1) := by decide +kernel
theorem dL_item_3 : decode cL_item 3 = .ok (.iload_n 1, 1) := by decide +kernel
theorem dL_item_4 : decode cL_item 4 = .ok (.invokevirtual 7, 3) := by decide +kernel
theorem dL_item_7 : decode cL_item 7 = .ok (.i2l, 1) := by decide +kernel
theorem dL_item_8 : decode cL_item 8 = .ok (.lastore, 1) := by decide +kernel
theorem dL_item_9 : decode cL_item 9 = .ok (.goto 9, 3) := by decide +kernel
theorem dL_item_12 : decode cL_item 12 = .ok (.astore_n 3, 1) := by decide +kernel
theorem dL_item_13 : decode cL_item 13 = .ok (.iconst 1, 1) := by decide +kernel
theorem dL_item_14 : decode cL_item 14 = .ok (.ireturn, 1) := by decide +kernel
theorem dL_item_15 : decode cL_item 15 = .ok (.astore_n 3, 1) := by decide +kernel
theorem dL_item_16 : decode cL_item 16 = .ok (.iconst 2, 1) := by decide +kernel
theorem dL_item_17 : decode cL_item 17 = .ok (.ireturn, 1) := by decide +kernel
theorem dL_item_18 : decode cL_item 18 = .ok (.iconst 0, 1) := by decide +kernel
theorem dL_item_19 : decode cL_item 19 = .ok (.ireturn, 1) := by decide +kernel
set_option maxRecDepth 20000 in
theorem ggL_induct_X2_induct : GoodIn wsL_induct wsX2_induct := goodIn_ca (goodIn_ca (goodIn_r _ [7, 8, 9, 10, 11, 12, 13, 14, 15, 16, 6, 17, 18, 19, 20, 21, 22, 23, 24, 25, 26, 27, 28, 29, 30, 31, 32, 33, 34, 35, 36, 37, 38, 39, 40, 41, 42, 43, 44, 45, 46, 47, 48, 49, 50, 51, 52, 53, 54, 55, 56, 57, 58, 59, 60, 61, 62, 63, 64, 65, 66, 67, 68, 69, 70, 71, 72, 73, 74, 75, 76, 77, 78, 79, 80, 81, 82, 83, 84, 85, 86, 87, 88, 89, 90, 91, 92] (by decide +kernel) (by decide +kernel)) (goodIn_sub (fun _ h => List.mem_cons_of_mem _ (List.mem_append_left _ (List.mem_append_right _ h))) (by decide +kernel))) (goodIn_sub (fun _ h => List.mem_cons_of_mem _ (List.mem_append_right _ h)) (by decide +kernel))
set_option maxRecDepth 20000 in
theorem gL_induct_X2_induct : GoodIn wsL_induct (wsV RL 17 RX2 yX2_induct wsX2_induct) := goodIn_app (goodIn_of _ (by decide +kernel)) ggL_induct_X2_induct
theorem dL_induct_0 : decode cL_induct 0 = .ok (.aload 4, 2) := by decide +kernel
theorem dL_induct_2 : decode cL_induct 2 = .ok (.iconst 0, 1) := by decide +kernel
theorem dL_induct_3 : decode cL_induct 3 = .ok (.aload_n 0, 1) := by decide +kernel
theorem dL_induct_4 : decode cL_induct 4 = .ok (.iload_n 1, 1) := by decide +kernel
theorem dL_induct_5 : decode cL_induct 5 = .ok (.iload_n 2, 1) := by decide +kernel
theorem dL_induct_6 : decode cL_induct 6 = .ok (.iload_n 3, 1) := by decide +kernel
theorem dL_induct_7 : decode cL_induct 7 = .ok (.invokevirtual 17, 3) := by decide +kernel
theorem dL_induct_10 : decode cL_induct 10 = .ok (.i2l, 1) := by decide +kernel
theorem dL_induct_11 : decode cL_induct 11 = .ok (.lastore, 1) := by decide +kernel
theorem dL_induct_12 : decode cL_induct 12 = .ok (.goto 11, 3) := by decide +kernel
theorem dL_induct_15 : decode cL_induct 15 = .ok (.astore 5, 2) := by decide +kernel
theorem dL_induct_17 : decode cL_induct 17 = .ok (.iconst 1, 1) := by decide +kernel
theorem dL_induct_18 : decode cL_induct 18 = .ok (.ireturn, 1) := by decide +kernel
theorem dL_induct_19 : decode cL_induct 19 = .ok (.astore 5, 2) := by decide +kernel
theorem dL_induct_21 : decode cL_induct 21 = .ok (.iconst 2, 1) := by decide +kernel
theorem dL_induct_22 : decode cL_induct 22 = .ok (.ireturn, 1) := by decide +kernel
theorem dL_induct_23 : decode cL_induct 23 = .ok (.iconst 0, 1) := by decide +kernel
theorem dL_induct_24 : decode cL_induct 24 = .ok (.ireturn, 1) := by decide +kernel
set_option maxRecDepth 20000 in
theorem ggL_length_X2_length : GoodIn wsL_length wsX2_length := goodIn_ca (goodIn_r _ [6, 7, 8, 9, 10, 11, 12, 5, 13, 14, 15, 16, 17, 18, 19, 20, 21, 22, 23, 24, 25, 26, 27, 28, 29, 30, 31, 32, 33, 34, 35, 36, 37] (by decide +kernel) (by decide +kernel)) (goodIn_sub (fun _ h => List.mem_cons_of_mem _ (List.mem_append_right _ h)) (by decide +kernel))
set_option maxRecDepth 20000 in
theorem gL_length_X2_length : GoodIn wsL_length (wsV RL 23 RX2 yX2_length wsX2_length) := goodIn_app (goodIn_of _ (by decide +kernel)) ggL_length_X2_length
theorem dL_length_0 : decode cL_length 0 = .ok (.aload_n 2, 1) := by decide +kernel
theorem dL_length_1 : decode cL_length 1 = .ok (.iconst 0, 1) := by decide +kernel
theorem dL_length_2 : decode cL_length 2 = .ok (.aload_n 0, 1) := by decide +kernel
theorem dL_length_3 : decode cL_length 3 = .ok (.iload_n 1, 1) := by decide +kernel
theorem dL_length_4 : decode cL_length 4 = .ok (.invokevirtual 23, 3) := by decide +kernel
theorem dL_length_7 : decode cL_length 7 = .ok (.i2l, 1) := by decide +kernel
theorem dL_length_8 : decode cL_length 8 = .ok (.lastore, 1) := by decide +kernel
theorem dL_length_9 : decode cL_length 9 = .ok (.goto 6, 3) := by decide +kernel
theorem dL_length_12 : decode cL_length 12 = .ok (.astore_n 3, 1) := by decide +kernel
theorem dL_length_13 : decode cL_length 13 = .ok (.iconst 1, 1) := by decide +kernel
theorem dL_length_14 : decode cL_length 14 = .ok (.ireturn, 1) := by decide +kernel
theorem dL_length_15 : decode cL_length 15 = .ok (.iconst 0, 1) := by decide +kernel
theorem dL_length_16 : decode cL_length 16 = .ok (.ireturn, 1) := by decide +kernel
set_option maxRecDepth 20000 in
theorem ggL_retry_X2_retry : GoodIn wsL_retry wsX2_retry := goodIn_ca (goodIn_ca (goodIn_r _ [7, 8, 9, 10, 11, 12, 13, 14, 15, 16, 17, 18, 6, 19, 20, 21, 22, 23, 24, 25, 26, 27, 28, 29, 30, 31, 32, 33, 34, 35, 36, 37, 38, 39, 40, 41, 42, 43, 44, 45, 46, 47, 48, 49, 50, 51, 52, 53, 54, 55, 56, 57, 58, 59, 60] (by decide +kernel) (by decide +kernel)) (goodIn_sub (fun _ h => List.mem_cons_of_mem _ (List.mem_append_left _ (List.mem_append_right _ h))) (by decide +kernel))) (goodIn_sub (fun _ h => List.mem_cons_of_mem _ (List.mem_append_right _ h)) (by decide +kernel))
set_option maxRecDepth 20000 in
theorem gL_retry_X2_retry : GoodIn wsL_retry (wsV RL 26 RX2 yX2_retry wsX2_retry) := goodIn_app (goodIn_of _ (by decide +kernel)) ggL_retry_X2_retry
theorem dL_retry_0 : decode cL_retry 0 = .ok (.aload_n 0, 1) := by decide +kernel
theorem dL_retry_1 : decode cL_retry 1 = .ok (.iload_n 1, 1) := by decide +kernel
theorem dL_retry_2 : decode cL_retry 2 = .ok (.iload_n 2, 1) := by decide +kernel
theorem dL_retry_3 : decode cL_retry 3 = .ok (.iload_n 3, 1) := by decide +kernel
theorem dL_retry_4 : decode cL_retry 4 = .ok (.invokevirtual 26, 3) := by decide +kernel
theorem dL_retry_7 : decode cL_retry 7 = .ok (.goto 11, 3) := by decide +kernel
theorem dL_retry_10 : decode cL_retry 10 = .ok (.astore 4, 2) := by decide +kernel
theorem dL_retry_12 : decode cL_retry 12 = .ok (.iconst 1, 1) := by decide +kernel
theorem dL_retry_13 : decode cL_retry 13 = .ok (.ireturn, 1) := by decide +kernel
theorem dL_retry_14 : decode cL_retry 14 = .ok (.astore 4, 2) := by decide +kernel
theorem dL_retry_16 : decode cL_retry 16 = .ok (.iconst 2, 1) := by decide +kernel
theorem dL_retry_17 : decode cL_retry 17 = .ok (.ireturn, 1) := by decide +kernel
theorem dL_retry_18 : decode cL_retry 18 = .ok (.iconst 0, 1) := by decide +kernel
theorem dL_retry_19 : decode cL_retry 19 = .ok (.ireturn, 1) := by decide +kernel
set_option maxRecDepth 20000 in
theorem ggL_step_X2_step : GoodIn wsL_step wsX2_step := goodIn_ca (goodIn_ca (goodIn_r _ [7, 8, 9, 10, 11, 12, 13, 6, 14, 15, 16, 17, 18, 19, 20, 21, 22, 23, 24, 25, 26, 27, 28, 29, 30, 31, 32, 33, 34, 35, 36, 37, 38, 39, 40, 41, 42, 43, 44, 45, 46, 47, 48, 49, 50, 51, 52, 53, 54, 55, 56, 57, 58, 59, 60, 61, 62, 63, 64, 65, 66, 67, 68, 69, 70, 71, 72, 73, 74, 75, 76, 77, 78, 79, 80, 81, 82, 83, 84, 85, 86, 87, 88, 89, 90, 91, 92, 93, 94, 95, 96, 97, 98, 99, 100, 101, 102, 103, 104, 105, 106, 107, 108, 109] (by decide +kernel) (by decide +kernel)) (goodIn_sub (fun _ h => List.mem_cons_of_mem _ (List.mem_append_left _ (List.mem_append_right _ h))) (by decide +kernel))) (goodIn_sub (fun _ h => List.mem_cons_of_mem _ (List.mem_append_right _ h)) (by decide +kernel))
set_option maxRecDepth 20000 in
theorem gL_step_X2_step : GoodIn wsL_step (wsV RL 30 RX2 yX2_step wsX2_step) := goodIn_app (goodIn_of _ (by decide +kernel)) ggL_step_X2_step
theorem dL_step_0 : decode cL_step 0 = .ok (.aload_n 2, 1) := by decide +kernel
theorem dL_step_1 : decode cL_step 1 = .ok (.iconst 0, 1) := by decide +kernel
theorem dL_step_2 : decode cL_step 2 = .ok (.aload_n 0, 1) := by decide +kernel
theorem dL_step_3 : decode cL_step 3 = .ok (.iload_n 1, 1) := by decide +kernel
theorem dL_step_4 : decode cL_step 4 = .ok (.invokevirtual 30, 3) := by decide +kernel
theorem dL_step_7 : decode cL_step 7 = .ok (.i2l, 1) := by decide +kernel
theorem dL_step_8 : decode cL_step 8 = .ok (.lastore, 1) := by decide +kernel
theorem dL_step_9 : decode cL_step 9 = .ok (.goto 9, 3) := by decide +kernel
theorem dL_step_12 : decode cL_step 12 = .ok (.astore_n 3, 1) := by decide +kernel
theorem dL_step_13 : decode cL_step 13 = .ok (.iconst 1, 1) := by decide +kernel
theorem dL_step_14 : decode cL_step 14 = .ok (.ireturn, 1) := by decide +kernel
theorem dL_step_15 : decode cL_step 15 = .ok (.astore_n 3, 1) := by decide +kernel
theorem dL_step_16 : decode cL_step 16 = .ok (.iconst 2, 1) := by decide +kernel
theorem dL_step_17 : decode cL_step 17 = .ok (.ireturn, 1) := by decide +kernel
theorem dL_step_18 : decode cL_step 18 = .ok (.iconst 0, 1) := by decide +kernel
theorem dL_step_19 : decode cL_step 19 = .ok (.ireturn, 1) := by decide +kernel
set_option maxRecDepth 20000 in
theorem ggL_out_X2_out : GoodIn wsL_out wsX2_out := goodIn_ca (goodIn_r _ [6, 7, 8, 9, 10, 11, 12, 13, 14, 15, 16, 17, 18, 19, 20, 21, 22, 23, 24, 25, 26, 27, 28, 29, 30, 31, 32, 33, 34, 35, 36, 37, 38, 39, 40, 41, 42, 43, 44] (by decide +kernel) (by decide +kernel)) (goodIn_sub (fun _ h => List.mem_cons_of_mem _ (List.mem_append_right _ h)) (by decide +kernel))
set_option maxRecDepth 20000 in
theorem gL_out_X2_out : GoodIn wsL_out (wsV RL 33 RX2 yX2_out wsX2_out) := goodIn_app (goodIn_of _ (by decide +kernel)) ggL_out_X2_out
theorem dL_out_0 : decode cL_out 0 = .ok (.aload_n 3, 1) := by decide +kernel
theorem dL_out_1 : decode cL_out 1 = .ok (.iconst 0, 1) := by decide +kernel
theorem dL_out_2 : decode cL_out 2 = .ok (.aload_n 0, 1) := by decide +kernel
theorem dL_out_3 : decode cL_out 3 = .ok (.iload_n 1, 1) := by decide +kernel
theorem dL_out_4 : decode cL_out 4 = .ok (.iload_n 2, 1) := by decide +kernel
theorem dL_out_5 : decode cL_out 5 = .ok (.invokevirtual 33, 3) := by decide +kernel
theorem dL_out_8 : decode cL_out 8 = .ok (.i2l, 1) := by decide +kernel
theorem dL_out_9 : decode cL_out 9 = .ok (.lastore, 1) := by decide +kernel
theorem dL_out_10 : decode cL_out 10 = .ok (.goto 7, 3) := by decide +kernel
theorem dL_out_13 : decode cL_out 13 = .ok (.astore 4, 2) := by decide +kernel
theorem dL_out_15 : decode cL_out 15 = .ok (.iconst 1, 1) := by decide +kernel
theorem dL_out_16 : decode cL_out 16 = .ok (.ireturn, 1) := by decide +kernel
theorem dL_out_17 : decode cL_out 17 = .ok (.iconst 0, 1) := by decide +kernel
theorem dL_out_18 : decode cL_out 18 = .ok (.ireturn, 1) := by decide +kernel
set_option maxRecDepth 20000 in
theorem ggL_chute_X2_chute : GoodIn wsL_chute wsX2_chute := goodIn_ca (goodIn_r _ [6, 7, 8, 9, 5, 10, 11, 12, 13, 14, 15, 16, 17, 18, 19, 20, 21, 22, 23, 24, 25, 26, 27, 28, 29, 30, 31, 32, 33, 34, 35] (by decide +kernel) (by decide +kernel)) (goodIn_sub (fun _ h => List.mem_cons_of_mem _ (List.mem_append_right _ h)) (by decide +kernel))
set_option maxRecDepth 20000 in
theorem gL_chute_X2_chute : GoodIn wsL_chute (wsV RL 37 RX2 yX2_chute wsX2_chute) := goodIn_app (goodIn_of _ (by decide +kernel)) ggL_chute_X2_chute
