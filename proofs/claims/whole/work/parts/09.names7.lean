theorem dX3_chute_21 : decode cX3_chute 21 = .ok (.ifCond .le 5, 3) := by decide +kernel
theorem dX3_chute_24 : decode cX3_chute 24 = .ok (.iconst 0, 1) := by decide +kernel
theorem dX3_chute_25 : decode cX3_chute 25 = .ok (.ireturn, 1) := by decide +kernel
theorem dX3_chute_26 : decode cX3_chute 26 = .ok (.aload_n 0, 1) := by decide +kernel
theorem dX3_chute_27 : decode cX3_chute 27 = .ok (.getfield 17, 3) := by decide +kernel
theorem dX3_chute_30 : decode cX3_chute 30 = .ok (.iload_n 1, 1) := by decide +kernel
theorem dX3_chute_31 : decode cX3_chute 31 = .ok (.baload, 1) := by decide +kernel
theorem dX3_chute_32 : decode cX3_chute 32 = .ok (.istore_n 3, 1) := by decide +kernel
theorem dX3_chute_33 : decode cX3_chute 33 = .ok (.aload_n 0, 1) := by decide +kernel
theorem dX3_chute_34 : decode cX3_chute 34 = .ok (.getfield 17, 3) := by decide +kernel
theorem dX3_chute_37 : decode cX3_chute 37 = .ok (.iload_n 1, 1) := by decide +kernel
theorem dX3_chute_38 : decode cX3_chute 38 = .ok (.iload_n 2, 1) := by decide +kernel
theorem dX3_chute_39 : decode cX3_chute 39 = .ok (.bastore, 1) := by decide +kernel
theorem dX3_chute_40 : decode cX3_chute 40 = .ok (.iload_n 3, 1) := by decide +kernel
theorem dX3_chute_41 : decode cX3_chute 41 = .ok (.ireturn, 1) := by decide +kernel
set_option maxRecDepth 20000 in
theorem ggX3_jam_X3_in : GoodIn wsX3_jam wsX3_in := goodIn_r _ [11] (by decide +kernel) (by decide +kernel)
set_option maxRecDepth 20000 in
theorem gX3_jam_X3_in : GoodIn wsX3_jam (va_wsS RX3 69 yX3_in wsX3_in) := goodIn_app (goodIn_of _ (by decide +kernel)) ggX3_jam_X3_in
set_option maxRecDepth 20000 in
theorem ggX3_jam_X3_trayAt : GoodIn wsX3_jam wsX3_trayAt := goodIn_r _ [15, 1, 16, 17, 18, 19, 20, 21, 22, 23, 24, 25, 26, 27, 28, 29, 30, 31, 32, 33, 34, 35, 36, 37, 38, 39] (by decide +kernel) (by decide +kernel)
set_option maxRecDepth 20000 in
theorem gX3_jam_X3_trayAt : GoodIn wsX3_jam (wsV RX3 90 RX3 yX3_trayAt wsX3_trayAt) := goodIn_app (goodIn_of _ (by decide +kernel)) ggX3_jam_X3_trayAt
theorem dX3_jam_0 : decode cX3_jam 0 = .ok (.aload_n 0, 1) := by decide +kernel
theorem dX3_jam_1 : decode cX3_jam 1 = .ok (.iload_n 1, 1) := by decide +kernel
theorem dX3_jam_2 : decode cX3_jam 2 = .ok (.iconst 0, 1) := by decide +kernel
theorem dX3_jam_3 : decode cX3_jam 3 = .ok (.aload_n 0, 1) := by decide +kernel
theorem dX3_jam_4 : decode cX3_jam 4 = .ok (.getfield 57, 3) := by decide +kernel
theorem dX3_jam_7 : decode cX3_jam 7 = .ok (.iconst 1, 1) := by decide +kernel
theorem dX3_jam_8 : decode cX3_jam 8 = .ok (.isub, 1) := by decide +kernel
theorem dX3_jam_9 : decode cX3_jam 9 = .ok (.invokestatic 69, 3) := by decide +kernel
theorem dX3_jam_12 : decode cX3_jam 12 = .ok (.ifCond .eq 17, 3) := by decide +kernel
theorem dX3_jam_15 : decode cX3_jam 15 = .ok (.iload_n 2, 1) := by decide +kernel
theorem dX3_jam_16 : decode cX3_jam 16 = .ok (.iconst 0, 1) := by decide +kernel
theorem dX3_jam_17 : decode cX3_jam 17 = .ok (.aload_n 0, 1) := by decide +kernel
theorem dX3_jam_18 : decode cX3_jam 18 = .ok (.getfield 57, 3) := by decide +kernel
theorem dX3_jam_21 : decode cX3_jam 21 = .ok (.iconst 1, 1) := by decide +kernel
theorem dX3_jam_22 : decode cX3_jam 22 = .ok (.isub, 1) := by decide +kernel
theorem dX3_jam_23 : decode cX3_jam 23 = .ok (.invokestatic 69, 3) := by decide +kernel
theorem dX3_jam_26 : decode cX3_jam 26 = .ok (.ifCond .ne 7, 3) := by decide +kernel
theorem dX3_jam_29 : decode cX3_jam 29 = .ok (.iconst 1, 1) := by decide +kernel
theorem dX3_jam_30 : decode cX3_jam 30 = .ok (.goto 15, 3) := by decide +kernel
theorem dX3_jam_33 : decode cX3_jam 33 = .ok (.aload_n 0, 1) := by decide +kernel
theorem dX3_jam_34 : decode cX3_jam 34 = .ok (.getfield 94, 3) := by decide +kernel
theorem dX3_jam_37 : decode cX3_jam 37 = .ok (.ifCond .eq 7, 3) := by decide +kernel
theorem dX3_jam_40 : decode cX3_jam 40 = .ok (.iconst 2, 1) := by decide +kernel
theorem dX3_jam_41 : decode cX3_jam 41 = .ok (.goto 4, 3) := by decide +kernel
theorem dX3_jam_44 : decode cX3_jam 44 = .ok (.iconst 0, 1) := by decide +kernel
theorem dX3_jam_45 : decode cX3_jam 45 = .ok (.putfield 63, 3) := by decide +kernel
theorem dX3_jam_48 : decode cX3_jam 48 = .ok (.aload_n 0, 1) := by decide +kernel
theorem dX3_jam_49 : decode cX3_jam 49 = .ok (.getfield 63, 3) := by decide +kernel
theorem dX3_jam_52 : decode cX3_jam 52 = .ok (.ifCond .le 5, 3) := by decide +kernel
theorem dX3_jam_55 : decode cX3_jam 55 = .ok (.iconst 0, 1) := by decide +kernel
theorem dX3_jam_56 : decode cX3_jam 56 = .ok (.ireturn, 1) := by decide +kernel
theorem dX3_jam_57 : decode cX3_jam 57 = .ok (.aload_n 0, 1) := by decide +kernel
theorem dX3_jam_58 : decode cX3_jam 58 = .ok (.iconst 1, 1) := by decide +kernel
theorem dX3_jam_59 : decode cX3_jam 59 = .ok (.putfield 94, 3) := by decide +kernel
theorem dX3_jam_62 : decode cX3_jam 62 = .ok (.aload_n 0, 1) := by decide +kernel
theorem dX3_jam_63 : decode cX3_jam 63 = .ok (.iconst 0, 1) := by decide +kernel
theorem dX3_jam_64 : decode cX3_jam 64 = .ok (.putfield 112, 3) := by decide +kernel
theorem dX3_jam_67 : decode cX3_jam 67 = .ok (.iload_n 2, 1) := by decide +kernel
theorem dX3_jam_68 : decode cX3_jam 68 = .ok (.iload_n 1, 1) := by decide +kernel
theorem dX3_jam_69 : decode cX3_jam 69 = .ok (.isub, 1) := by decide +kernel
theorem dX3_jam_70 : decode cX3_jam 70 = .ok (.aload_n 0, 1) := by decide +kernel
theorem dX3_jam_71 : decode cX3_jam 71 = .ok (.getfield 57, 3) := by decide +kernel
theorem dX3_jam_74 : decode cX3_jam 74 = .ok (.iadd, 1) := by decide +kernel
theorem dX3_jam_75 : decode cX3_jam 75 = .ok (.aload_n 0, 1) := by decide +kernel
theorem dX3_jam_76 : decode cX3_jam 76 = .ok (.getfield 57, 3) := by decide +kernel
theorem dX3_jam_79 : decode cX3_jam 79 = .ok (.irem, 1) := by decide +kernel
theorem dX3_jam_80 : decode cX3_jam 80 = .ok (.iconst 1, 1) := by decide +kernel
theorem dX3_jam_81 : decode cX3_jam 81 = .ok (.iadd, 1) := by decide +kernel
theorem dX3_jam_82 : decode cX3_jam 82 = .ok (.istore_n 3, 1) := by decide +kernel
theorem dX3_jam_83 : decode cX3_jam 83 = .ok (.iconst 0, 1) := by decide +kernel
theorem dX3_jam_84 : decode cX3_jam 84 = .ok (.istore 4, 2) := by decide +kernel
theorem dX3_jam_86 : decode cX3_jam 86 = .ok (.iload 4, 2) := by decide +kernel
theorem dX3_jam_88 : decode cX3_jam 88 = .ok (.iload_n 3, 1) := by decide +kernel
theorem dX3_jam_89 : decode cX3_jam 89 = .ok (.if_icmp .ge 66, 3) := by decide +kernel
theorem dX3_jam_92 : decode cX3_jam 92 = .ok (.aload_n 0, 1) := by decide +kernel
theorem dX3_jam_93 : decode cX3_jam 93 = .ok (.getfield 13, 3) := by decide +kernel
theorem dX3_jam_96 : decode cX3_jam 96 = .ok (.aload_n 0, 1) := by decide +kernel
theorem dX3_jam_97 : decode cX3_jam 97 = .ok (.iload_n 1, 1) := by decide +kernel
theorem dX3_jam_98 : decode cX3_jam 98 = .ok (.iload 4, 2) := by decide +kernel
theorem dX3_jam_100 : decode cX3_jam 100 = .ok (.iadd, 1) := by decide +kernel
theorem dX3_jam_101 : decode cX3_jam 101 = .ok (.aload_n 0, 1) := by decide +kernel
theorem dX3_jam_102 : decode cX3_jam 102 = .ok (.getfield 57, 3) := by decide +kernel
theorem dX3_jam_105 : decode cX3_jam 105 = .ok (.irem, 1) := by decide +kernel
theorem dX3_jam_106 : decode cX3_jam 106 = .ok (.invokevirtual 90, 3) := by decide +kernel
theorem dX3_jam_109 : decode cX3_jam 109 = .ok (.iaload, 1) := by decide +kernel
theorem dX3_jam_110 : decode cX3_jam 110 = .ok (.istore 5, 2) := by decide +kernel
theorem dX3_jam_112 : decode cX3_jam 112 = .ok (.iload 5, 2) := by decide +kernel
theorem dX3_jam_114 : decode cX3_jam 114 = .ok (.ifCond .ne 6, 3) := by decide +kernel
theorem dX3_jam_117 : decode cX3_jam 117 = .ok (.goto 32, 3) := by decide +kernel
theorem dX3_jam_120 : decode cX3_jam 120 = .ok (.aload_n 0, 1) := by decide +kernel
theorem dX3_jam_121 : decode cX3_jam 121 = .ok (.getfield 51, 3) := by decide +kernel
theorem dX3_jam_124 : decode cX3_jam 124 = .ok (.aload_n 0, 1) := by decide +kernel
theorem dX3_jam_125 : decode cX3_jam 125 = .ok (.getfield 112, 3) := by decide +kernel
theorem dX3_jam_128 : decode cX3_jam 128 = .ok (.iload 5, 2) := by decide +kernel
theorem dX3_jam_130 : decode cX3_jam 130 = .ok (.iastore, 1) := by decide +kernel
theorem dX3_jam_131 : decode cX3_jam 131 = .ok (.aload_n 0, 1) := by decide +kernel
theorem dX3_jam_132 : decode cX3_jam 132 = .ok (.getfield 54, 3) := by decide +kernel
theorem dX3_jam_135 : decode cX3_jam 135 = .ok (.iload 5, 2) := by decide +kernel
theorem dX3_jam_137 : decode cX3_jam 137 = .ok (.iconst 0, 1) := by decide +kernel
theorem dX3_jam_138 : decode cX3_jam 138 = .ok (.bastore, 1) := by decide +kernel
theorem dX3_jam_139 : decode cX3_jam 139 = .ok (.aload_n 0, 1) := by decide +kernel
theorem dX3_jam_140 : decode cX3_jam 140 = .ok (.dup, 1) := by decide +kernel
theorem dX3_jam_141 : decode cX3_jam 141 = .ok (.getfield 112, 3) := by decide +kernel
theorem dX3_jam_144 : decode cX3_jam 144 = .ok (.iconst 1, 1) := by decide +kernel
theorem dX3_jam_145 : decode cX3_jam 145 = .ok (.iadd, 1) := by decide +kernel
theorem dX3_jam_146 : decode cX3_jam 146 = .ok (.putfield 112, 3) := by decide +kernel
theorem dX3_jam_149 : decode cX3_jam 149 = .ok (.iinc 4 1, 3) := by decide +kernel
theorem dX3_jam_152 : decode cX3_jam 152 = .ok (.goto (-66), 3) := by decide +kernel
theorem dX3_jam_155 : decode cX3_jam 155 = .ok (.aload_n 0, 1) := by decide +kernel
theorem dX3_jam_156 : decode cX3_jam 156 = .ok (.getfield 112, 3) := by decide +kernel
theorem dX3_jam_159 : decode cX3_jam 159 = .ok (.ireturn, 1) := by decide +kernel
set_option maxRecDepth 20000 in
theorem ggX3_doubt_X3_in : GoodIn wsX3_doubt wsX3_in := goodIn_r _ [7] (by decide +kernel) (by decide +kernel)
set_option maxRecDepth 20000 in
theorem gX3_doubt_X3_in : GoodIn wsX3_doubt (va_wsS RX3 69 yX3_in wsX3_in) := goodIn_app (goodIn_of _ (by decide +kernel)) ggX3_doubt_X3_in
theorem dX3_doubt_0 : decode cX3_doubt 0 = .ok (.aload_n 0, 1) := by decide +kernel
theorem dX3_doubt_1 : decode cX3_doubt 1 = .ok (.iconst 0, 1) := by decide +kernel
theorem dX3_doubt_2 : decode cX3_doubt 2 = .ok (.putfield 63, 3) := by decide +kernel
theorem dX3_doubt_5 : decode cX3_doubt 5 = .ok (.iload_n 1, 1) := by decide +kernel
theorem dX3_doubt_6 : decode cX3_doubt 6 = .ok (.iconst 0, 1) := by decide +kernel
theorem dX3_doubt_7 : decode cX3_doubt 7 = .ok (.aload_n 0, 1) := by decide +kernel
theorem dX3_doubt_8 : decode cX3_doubt 8 = .ok (.getfield 112, 3) := by decide +kernel
theorem dX3_doubt_11 : decode cX3_doubt 11 = .ok (.iconst 1, 1) := by decide +kernel
theorem dX3_doubt_12 : decode cX3_doubt 12 = .ok (.isub, 1) := by decide +kernel
theorem dX3_doubt_13 : decode cX3_doubt 13 = .ok (.invokestatic 69, 3) := by decide +kernel
theorem dX3_doubt_16 : decode cX3_doubt 16 = .ok (.ifCond .eq 12, 3) := by decide +kernel
theorem dX3_doubt_19 : decode cX3_doubt 19 = .ok (.aload_n 0, 1) := by decide +kernel
theorem dX3_doubt_20 : decode cX3_doubt 20 = .ok (.getfield 51, 3) := by decide +kernel
theorem dX3_doubt_23 : decode cX3_doubt 23 = .ok (.iload_n 1, 1) := by decide +kernel
theorem dX3_doubt_24 : decode cX3_doubt 24 = .ok (.iaload, 1) := by decide +kernel
theorem dX3_doubt_25 : decode cX3_doubt 25 = .ok (.goto 4, 3) := by decide +kernel
theorem dX3_doubt_28 : decode cX3_doubt 28 = .ok (.iconst (-1), 1) := by decide +kernel
theorem dX3_doubt_29 : decode cX3_doubt 29 = .ok (.ireturn, 1) := by decide +kernel
set_option maxRecDepth 20000 in
theorem ggX3_found_X3_isItem : GoodIn wsX3_found wsX3_isItem := goodIn_r _ [9, 10, 11, 12, 8, 13, 14, 15, 16, 17, 18, 19, 20, 21, 22, 23, 24, 25, 26, 27, 28, 29, 30, 31, 32, 33, 34, 35, 36] (by decide +kernel) (by decide +kernel)
set_option maxRecDepth 20000 in
theorem gX3_found_X3_isItem : GoodIn wsX3_found (wsV RX3 84 RX3 yX3_isItem wsX3_isItem) := goodIn_app (goodIn_of _ (by decide +kernel)) ggX3_found_X3_isItem
theorem dX3_found_0 : decode cX3_found 0 = .ok (.aload_n 0, 1) := by decide +kernel
theorem dX3_found_1 : decode cX3_found 1 = .ok (.aload_n 0, 1) := by decide +kernel
theorem dX3_found_2 : decode cX3_found 2 = .ok (.iload_n 1, 1) := by decide +kernel
theorem dX3_found_3 : decode cX3_found 3 = .ok (.invokevirtual 84, 3) := by decide +kernel
theorem dX3_found_6 : decode cX3_found 6 = .ok (.ifCond .eq 7, 3) := by decide +kernel
theorem dX3_found_9 : decode cX3_found 9 = .ok (.iconst 0, 1) := by decide +kernel
theorem dX3_found_10 : decode cX3_found 10 = .ok (.goto 4, 3) := by decide +kernel
theorem dX3_found_13 : decode cX3_found 13 = .ok (.iconst 1, 1) := by decide +kernel
theorem dX3_found_14 : decode cX3_found 14 = .ok (.putfield 63, 3) := by decide +kernel
theorem dX3_found_17 : decode cX3_found 17 = .ok (.aload_n 0, 1) := by decide +kernel
theorem dX3_found_18 : decode cX3_found 18 = .ok (.getfield 63, 3) := by decide +kernel
theorem dX3_found_21 : decode cX3_found 21 = .ok (.ifCond .le 5, 3) := by decide +kernel
theorem dX3_found_24 : decode cX3_found 24 = .ok (.iconst 0, 1) := by decide +kernel
theorem dX3_found_25 : decode cX3_found 25 = .ok (.ireturn, 1) := by decide +kernel
theorem dX3_found_26 : decode cX3_found 26 = .ok (.iconst 0, 1) := by decide +kernel
theorem dX3_found_27 : decode cX3_found 27 = .ok (.istore_n 3, 1) := by decide +kernel
theorem dX3_found_28 : decode cX3_found 28 = .ok (.iconst 0, 1) := by decide +kernel
theorem dX3_found_29 : decode cX3_found 29 = .ok (.istore 4, 2) := by decide +kernel
theorem dX3_found_31 : decode cX3_found 31 = .ok (.iload 4, 2) := by decide +kernel
theorem dX3_found_33 : decode cX3_found 33 = .ok (.aload_n 0, 1) := by decide +kernel
theorem dX3_found_34 : decode cX3_found 34 = .ok (.getfield 112, 3) := by decide +kernel
theorem dX3_found_37 : decode cX3_found 37 = .ok (.if_icmp .ge 30, 3) := by decide +kernel
theorem dX3_found_40 : decode cX3_found 40 = .ok (.iload_n 3, 1) := by decide +kernel
theorem dX3_found_41 : decode cX3_found 41 = .ok (.ifCond .ne 14, 3) := by decide +kernel
theorem dX3_found_44 : decode cX3_found 44 = .ok (.aload_n 0, 1) := by decide +kernel
theorem dX3_found_45 : decode cX3_found 45 = .ok (.getfield 51, 3) := by decide +kernel
theorem dX3_found_48 : decode cX3_found 48 = .ok (.iload 4, 2) := by decide +kernel
theorem dX3_found_50 : decode cX3_found 50 = .ok (.iaload, 1) := by decide +kernel
theorem dX3_found_51 : decode cX3_found 51 = .ok (.iload_n 1, 1) := by decide +kernel
theorem dX3_found_52 : decode cX3_found 52 = .ok (.if_icmp .ne 7, 3) := by decide +kernel
theorem dX3_found_55 : decode cX3_found 55 = .ok (.iconst 1, 1) := by decide +kernel
theorem dX3_found_56 : decode cX3_found 56 = .ok (.goto 4, 3) := by decide +kernel
theorem dX3_found_59 : decode cX3_found 59 = .ok (.iconst 0, 1) := by decide +kernel
theorem dX3_found_60 : decode cX3_found 60 = .ok (.istore_n 3, 1) := by decide +kernel
theorem dX3_found_61 : decode cX3_found 61 = .ok (.iinc 4 1, 3) := by decide +kernel
theorem dX3_found_64 : decode cX3_found 64 = .ok (.goto (-33), 3) := by decide +kernel
theorem dX3_found_67 : decode cX3_found 67 = .ok (.aload_n 0, 1) := by decide +kernel
theorem dX3_found_68 : decode cX3_found 68 = .ok (.iload_n 3, 1) := by decide +kernel
theorem dX3_found_69 : decode cX3_found 69 = .ok (.ifCond .eq 7, 3) := by decide +kernel
theorem dX3_found_72 : decode cX3_found 72 = .ok (.iconst 0, 1) := by decide +kernel
theorem dX3_found_73 : decode cX3_found 73 = .ok (.goto 4, 3) := by decide +kernel
theorem dX3_found_76 : decode cX3_found 76 = .ok (.iconst 2, 1) := by decide +kernel
theorem dX3_found_77 : decode cX3_found 77 = .ok (.putfield 63, 3) := by decide +kernel
theorem dX3_found_80 : decode cX3_found 80 = .ok (.aload_n 0, 1) := by decide +kernel
theorem dX3_found_81 : decode cX3_found 81 = .ok (.getfield 63, 3) := by decide +kernel
theorem dX3_found_84 : decode cX3_found 84 = .ok (.ifCond .le 5, 3) := by decide +kernel
theorem dX3_found_87 : decode cX3_found 87 = .ok (.iconst 0, 1) := by decide +kernel
theorem dX3_found_88 : decode cX3_found 88 = .ok (.ireturn, 1) := by decide +kernel
theorem dX3_found_89 : decode cX3_found 89 = .ok (.aload_n 0, 1) := by decide +kernel
theorem dX3_found_90 : decode cX3_found 90 = .ok (.getfield 54, 3) := by decide +kernel
theorem dX3_found_93 : decode cX3_found 93 = .ok (.iload_n 1, 1) := by decide +kernel
theorem dX3_found_94 : decode cX3_found 94 = .ok (.iload_n 2, 1) := by decide +kernel
theorem dX3_found_95 : decode cX3_found 95 = .ok (.bastore, 1) := by decide +kernel
theorem dX3_found_96 : decode cX3_found 96 = .ok (.iconst 0, 1) := by decide +kernel
theorem dX3_found_97 : decode cX3_found 97 = .ok (.istore 4, 2) := by decide +kernel
theorem dX3_found_99 : decode cX3_found 99 = .ok (.iconst 0, 1) := by decide +kernel
theorem dX3_found_100 : decode cX3_found 100 = .ok (.istore 5, 2) := by decide +kernel
theorem dX3_found_102 : decode cX3_found 102 = .ok (.iload 5, 2) := by decide +kernel
theorem dX3_found_104 : decode cX3_found 104 = .ok (.aload_n 0, 1) := by decide +kernel
theorem dX3_found_105 : decode cX3_found 105 = .ok (.getfield 112, 3) := by decide +kernel
theorem dX3_found_108 : decode cX3_found 108 = .ok (.if_icmp .ge 34, 3) := by decide +kernel
theorem dX3_found_111 : decode cX3_found 111 = .ok (.iload 4, 2) := by decide +kernel
theorem dX3_found_113 : decode cX3_found 113 = .ok (.aload_n 0, 1) := by decide +kernel
theorem dX3_found_114 : decode cX3_found 114 = .ok (.getfield 54, 3) := by decide +kernel
theorem dX3_found_117 : decode cX3_found 117 = .ok (.aload_n 0, 1) := by decide +kernel
theorem dX3_found_118 : decode cX3_found 118 = .ok (.getfield 51, 3) := by decide +kernel
theorem dX3_found_121 : decode cX3_found 121 = .ok (.iload 5, 2) := by decide +kernel
theorem dX3_found_123 : decode cX3_found 123 = .ok (.iaload, 1) := by decide +kernel
theorem dX3_found_124 : decode cX3_found 124 = .ok (.baload, 1) := by decide +kernel
theorem dX3_found_125 : decode cX3_found 125 = .ok (.ifCond .eq 7, 3) := by decide +kernel
theorem dX3_found_128 : decode cX3_found 128 = .ok (.iconst 0, 1) := by decide +kernel
theorem dX3_found_129 : decode cX3_found 129 = .ok (.goto 4, 3) := by decide +kernel
theorem dX3_found_132 : decode cX3_found 132 = .ok (.iconst 1, 1) := by decide +kernel
theorem dX3_found_133 : decode cX3_found 133 = .ok (.iadd, 1) := by decide +kernel
theorem dX3_found_134 : decode cX3_found 134 = .ok (.istore 4, 2) := by decide +kernel
theorem dX3_found_136 : decode cX3_found 136 = .ok (.iinc 5 1, 3) := by decide +kernel
theorem dX3_found_139 : decode cX3_found 139 = .ok (.goto (-37), 3) := by decide +kernel
theorem dX3_found_142 : decode cX3_found 142 = .ok (.iload 4, 2) := by decide +kernel
theorem dX3_found_144 : decode cX3_found 144 = .ok (.ireturn, 1) := by decide +kernel
set_option maxRecDepth 20000 in
theorem ggX3_retrack_X3_trayOf : GoodIn wsX3_retrack wsX3_trayOf := goodIn_r _ [11, 12, 13, 25, 26, 27, 28, 29, 30, 31, 32, 33, 34, 35, 36, 37, 38, 39, 40, 41, 42, 43, 44, 45, 46, 47] (by decide +kernel) (by decide +kernel)
set_option maxRecDepth 20000 in
theorem gX3_retrack_X3_trayOf : GoodIn wsX3_retrack (wsV RX3 115 RX3 yX3_trayOf wsX3_trayOf) := goodIn_app (goodIn_of _ (by decide +kernel)) ggX3_retrack_X3_trayOf
set_option maxRecDepth 20000 in
theorem ggX3_retrack_X3_leave : GoodIn wsX3_retrack wsX3_leave := goodIn_r _ [17, 13, 18, 19, 3, 20, 21, 22, 23, 24, 25, 26, 27, 28, 29, 30, 31, 32, 33, 34, 35, 36, 37, 38, 39, 40, 41, 42, 43, 44, 45, 46, 47] (by decide +kernel) (by decide +kernel)
set_option maxRecDepth 20000 in
theorem gX3_retrack_X3_leave : GoodIn wsX3_retrack (wsV RX3 101 RX3 yX3_leave wsX3_leave) := goodIn_app (goodIn_of _ (by decide +kernel)) ggX3_retrack_X3_leave
theorem dX3_retrack_0 : decode cX3_retrack 0 = .ok (.aload_n 0, 1) := by decide +kernel
theorem dX3_retrack_1 : decode cX3_retrack 1 = .ok (.aload_n 0, 1) := by decide +kernel
theorem dX3_retrack_2 : decode cX3_retrack 2 = .ok (.getfield 94, 3) := by decide +kernel
theorem dX3_retrack_5 : decode cX3_retrack 5 = .ok (.ifCond .eq 7, 3) := by decide +kernel
theorem dX3_retrack_8 : decode cX3_retrack 8 = .ok (.iconst 0, 1) := by decide +kernel
theorem dX3_retrack_9 : decode cX3_retrack 9 = .ok (.goto 4, 3) := by decide +kernel
theorem dX3_retrack_12 : decode cX3_retrack 12 = .ok (.iconst 1, 1) := by decide +kernel
theorem dX3_retrack_13 : decode cX3_retrack 13 = .ok (.putfield 63, 3) := by decide +kernel
theorem dX3_retrack_16 : decode cX3_retrack 16 = .ok (.aload_n 0, 1) := by decide +kernel
theorem dX3_retrack_17 : decode cX3_retrack 17 = .ok (.getfield 63, 3) := by decide +kernel
theorem dX3_retrack_20 : decode cX3_retrack 20 = .ok (.ifCond .le 5, 3) := by decide +kernel
theorem dX3_retrack_23 : decode cX3_retrack 23 = .ok (.iconst 0, 1) := by decide +kernel
theorem dX3_retrack_24 : decode cX3_retrack 24 = .ok (.ireturn, 1) := by decide +kernel
theorem dX3_retrack_25 : decode cX3_retrack 25 = .ok (.aload_n 0, 1) := by decide +kernel
theorem dX3_retrack_26 : decode cX3_retrack 26 = .ok (.getfield 98, 3) := by decide +kernel
theorem dX3_retrack_29 : decode cX3_retrack 29 = .ok (.istore_n 1, 1) := by decide +kernel
theorem dX3_retrack_30 : decode cX3_retrack 30 = .ok (.iconst 0, 1) := by decide +kernel
theorem dX3_retrack_31 : decode cX3_retrack 31 = .ok (.istore_n 2, 1) := by decide +kernel
theorem dX3_retrack_32 : decode cX3_retrack 32 = .ok (.iload_n 2, 1) := by decide +kernel
theorem dX3_retrack_33 : decode cX3_retrack 33 = .ok (.aload_n 0, 1) := by decide +kernel
theorem dX3_retrack_34 : decode cX3_retrack 34 = .ok (.getfield 112, 3) := by decide +kernel
theorem dX3_retrack_37 : decode cX3_retrack 37 = .ok (.if_icmp .ge 40, 3) := by decide +kernel
theorem dX3_retrack_40 : decode cX3_retrack 40 = .ok (.aload_n 0, 1) := by decide +kernel
theorem dX3_retrack_41 : decode cX3_retrack 41 = .ok (.getfield 54, 3) := by decide +kernel
theorem dX3_retrack_44 : decode cX3_retrack 44 = .ok (.aload_n 0, 1) := by decide +kernel
theorem dX3_retrack_45 : decode cX3_retrack 45 = .ok (.getfield 51, 3) := by decide +kernel
theorem dX3_retrack_48 : decode cX3_retrack 48 = .ok (.iload_n 2, 1) := by decide +kernel
theorem dX3_retrack_49 : decode cX3_retrack 49 = .ok (.iaload, 1) := by decide +kernel
theorem dX3_retrack_50 : decode cX3_retrack 50 = .ok (.baload, 1) := by decide +kernel
theorem dX3_retrack_51 : decode cX3_retrack 51 = .ok (.ifCond .ne 20, 3) := by decide +kernel
theorem dX3_retrack_54 : decode cX3_retrack 54 = .ok (.aload_n 0, 1) := by decide +kernel
theorem dX3_retrack_55 : decode cX3_retrack 55 = .ok (.aload_n 0, 1) := by decide +kernel
theorem dX3_retrack_56 : decode cX3_retrack 56 = .ok (.aload_n 0, 1) := by decide +kernel
theorem dX3_retrack_57 : decode cX3_retrack 57 = .ok (.getfield 51, 3) := by decide +kernel
theorem dX3_retrack_60 : decode cX3_retrack 60 = .ok (.iload_n 2, 1) := by decide +kernel
theorem dX3_retrack_61 : decode cX3_retrack 61 = .ok (.iaload, 1) := by decide +kernel
theorem dX3_retrack_62 : decode cX3_retrack 62 = .ok (.invokevirtual 115, 3) := by decide +kernel
theorem dX3_retrack_65 : decode cX3_retrack 65 = .ok (.iconst 5, 1) := by decide +kernel
theorem dX3_retrack_66 : decode cX3_retrack 66 = .ok (.bipush (-2), 2) := by decide +kernel
theorem dX3_retrack_68 : decode cX3_retrack 68 = .ok (.invokevirtual 101, 3) := by decide +kernel
theorem dX3_retrack_71 : decode cX3_retrack 71 = .ok (.iinc 2 1, 3) := by decide +kernel
theorem dX3_retrack_74 : decode cX3_retrack 74 = .ok (.goto (-42), 3) := by decide +kernel
theorem dX3_retrack_77 : decode cX3_retrack 77 = .ok (.aload_n 0, 1) := by decide +kernel
theorem dX3_retrack_78 : decode cX3_retrack 78 = .ok (.iconst 0, 1) := by decide +kernel
theorem dX3_retrack_79 : decode cX3_retrack 79 = .ok (.putfield 94, 3) := by decide +kernel
theorem dX3_retrack_82 : decode cX3_retrack 82 = .ok (.aload_n 0, 1) := by decide +kernel
theorem dX3_retrack_83 : decode cX3_retrack 83 = .ok (.iconst 0, 1) := by decide +kernel
theorem dX3_retrack_84 : decode cX3_retrack 84 = .ok (.putfield 112, 3) := by decide +kernel
theorem dX3_retrack_87 : decode cX3_retrack 87 = .ok (.aload_n 0, 1) := by decide +kernel
theorem dX3_retrack_88 : decode cX3_retrack 88 = .ok (.getfield 98, 3) := by decide +kernel
theorem dX3_retrack_91 : decode cX3_retrack 91 = .ok (.iload_n 1, 1) := by decide +kernel
theorem dX3_retrack_92 : decode cX3_retrack 92 = .ok (.isub, 1) := by decide +kernel
theorem dX3_retrack_93 : decode cX3_retrack 93 = .ok (.ireturn, 1) := by decide +kernel
set_option maxRecDepth 20000 in
theorem ggX3_manual_X3_isItem : GoodIn wsX3_manual wsX3_isItem := goodIn_r _ [8, 9, 10, 11, 7, 12, 22, 23, 24, 25, 26, 27, 28, 29, 30, 31, 32, 33, 34, 35, 36, 37, 38, 39, 40, 41, 42, 43, 44] (by decide +kernel) (by decide +kernel)
set_option maxRecDepth 20000 in
theorem gX3_manual_X3_isItem : GoodIn wsX3_manual (wsV RX3 84 RX3 yX3_isItem wsX3_isItem) := goodIn_app (goodIn_of _ (by decide +kernel)) ggX3_manual_X3_isItem
set_option maxRecDepth 20000 in
theorem ggX3_manual_X3_isChute : GoodIn wsX3_manual wsX3_isChute := goodIn_r _ [16, 17, 18, 19, 7, 20, 21, 10, 11, 12, 22, 23, 24, 25, 26, 27, 28, 29, 30, 31, 32, 33, 34, 35, 36, 37, 38, 39, 40, 41, 42, 43, 44] (by decide +kernel) (by decide +kernel)
set_option maxRecDepth 20000 in
theorem gX3_manual_X3_isChute : GoodIn wsX3_manual (wsV RX3 77 RX3 yX3_isChute wsX3_isChute) := goodIn_app (goodIn_of _ (by decide +kernel)) ggX3_manual_X3_isChute
theorem dX3_manual_0 : decode cX3_manual 0 = .ok (.aload_n 0, 1) := by decide +kernel
theorem dX3_manual_1 : decode cX3_manual 1 = .ok (.aload_n 0, 1) := by decide +kernel
theorem dX3_manual_2 : decode cX3_manual 2 = .ok (.iload_n 1, 1) := by decide +kernel
theorem dX3_manual_3 : decode cX3_manual 3 = .ok (.invokevirtual 84, 3) := by decide +kernel
theorem dX3_manual_6 : decode cX3_manual 6 = .ok (.ifCond .eq 11, 3) := by decide +kernel
theorem dX3_manual_9 : decode cX3_manual 9 = .ok (.aload_n 0, 1) := by decide +kernel
theorem dX3_manual_10 : decode cX3_manual 10 = .ok (.iload_n 2, 1) := by decide +kernel
theorem dX3_manual_11 : decode cX3_manual 11 = .ok (.invokevirtual 77, 3) := by decide +kernel
theorem dX3_manual_14 : decode cX3_manual 14 = .ok (.ifCond .ne 7, 3) := by decide +kernel
theorem dX3_manual_17 : decode cX3_manual 17 = .ok (.iconst 1, 1) := by decide +kernel
theorem dX3_manual_18 : decode cX3_manual 18 = .ok (.goto 4, 3) := by decide +kernel
theorem dX3_manual_21 : decode cX3_manual 21 = .ok (.iconst 0, 1) := by decide +kernel
theorem dX3_manual_22 : decode cX3_manual 22 = .ok (.putfield 63, 3) := by decide +kernel
theorem dX3_manual_25 : decode cX3_manual 25 = .ok (.aload_n 0, 1) := by decide +kernel
theorem dX3_manual_26 : decode cX3_manual 26 = .ok (.getfield 63, 3) := by decide +kernel
theorem dX3_manual_29 : decode cX3_manual 29 = .ok (.ifCond .ne 32, 3) := by decide +kernel
theorem dX3_manual_32 : decode cX3_manual 32 = .ok (.aload_n 0, 1) := by decide +kernel
theorem dX3_manual_33 : decode cX3_manual 33 = .ok (.aload_n 0, 1) := by decide +kernel
theorem dX3_manual_34 : decode cX3_manual 34 = .ok (.getfield 24, 3) := by decide +kernel
theorem dX3_manual_37 : decode cX3_manual 37 = .ok (.iload_n 1, 1) := by decide +kernel
theorem dX3_manual_38 : decode cX3_manual 38 = .ok (.iaload, 1) := by decide +kernel
theorem dX3_manual_39 : decode cX3_manual 39 = .ok (.iconst 3, 1) := by decide +kernel
theorem dX3_manual_40 : decode cX3_manual 40 = .ok (.if_icmp .eq 17, 3) := by decide +kernel
theorem dX3_manual_43 : decode cX3_manual 43 = .ok (.aload_n 0, 1) := by decide +kernel
theorem dX3_manual_44 : decode cX3_manual 44 = .ok (.getfield 24, 3) := by decide +kernel
theorem dX3_manual_47 : decode cX3_manual 47 = .ok (.iload_n 1, 1) := by decide +kernel
theorem dX3_manual_48 : decode cX3_manual 48 = .ok (.iaload, 1) := by decide +kernel
theorem dX3_manual_49 : decode cX3_manual 49 = .ok (.iconst 5, 1) := by decide +kernel
theorem dX3_manual_50 : decode cX3_manual 50 = .ok (.if_icmp .eq 7, 3) := by decide +kernel
theorem dX3_manual_53 : decode cX3_manual 53 = .ok (.iconst 2, 1) := by decide +kernel
theorem dX3_manual_54 : decode cX3_manual 54 = .ok (.goto 4, 3) := by decide +kernel
theorem dX3_manual_57 : decode cX3_manual 57 = .ok (.iconst 0, 1) := by decide +kernel
theorem dX3_manual_58 : decode cX3_manual 58 = .ok (.putfield 63, 3) := by decide +kernel
theorem dX3_manual_61 : decode cX3_manual 61 = .ok (.aload_n 0, 1) := by decide +kernel
theorem dX3_manual_62 : decode cX3_manual 62 = .ok (.getfield 63, 3) := by decide +kernel
theorem dX3_manual_65 : decode cX3_manual 65 = .ok (.ifCond .gt 12, 3) := by decide +kernel
theorem dX3_manual_68 : decode cX3_manual 68 = .ok (.aload_n 0, 1) := by decide +kernel
theorem dX3_manual_69 : decode cX3_manual 69 = .ok (.getfield 17, 3) := by decide +kernel
theorem dX3_manual_72 : decode cX3_manual 72 = .ok (.iload_n 2, 1) := by decide +kernel
theorem dX3_manual_73 : decode cX3_manual 73 = .ok (.baload, 1) := by decide +kernel
theorem dX3_manual_74 : decode cX3_manual 74 = .ok (.ifCond .eq 5, 3) := by decide +kernel
theorem dX3_manual_77 : decode cX3_manual 77 = .ok (.iconst 0, 1) := by decide +kernel
theorem dX3_manual_78 : decode cX3_manual 78 = .ok (.ireturn, 1) := by decide +kernel
theorem dX3_manual_79 : decode cX3_manual 79 = .ok (.aload_n 0, 1) := by decide +kernel
theorem dX3_manual_80 : decode cX3_manual 80 = .ok (.getfield 24, 3) := by decide +kernel
theorem dX3_manual_83 : decode cX3_manual 83 = .ok (.iload_n 1, 1) := by decide +kernel
theorem dX3_manual_84 : decode cX3_manual 84 = .ok (.iconst 2, 1) := by decide +kernel
theorem dX3_manual_85 : decode cX3_manual 85 = .ok (.iastore, 1) := by decide +kernel
theorem dX3_manual_86 : decode cX3_manual 86 = .ok (.iconst 1, 1) := by decide +kernel
theorem dX3_manual_87 : decode cX3_manual 87 = .ok (.ireturn, 1) := by decide +kernel
set_option maxRecDepth 20000 in
theorem ggX3_tray_X3_in : GoodIn wsX3_tray wsX3_in := goodIn_r _ [7] (by decide +kernel) (by decide +kernel)
set_option maxRecDepth 20000 in
theorem gX3_tray_X3_in : GoodIn wsX3_tray (va_wsS RX3 69 yX3_in wsX3_in) := goodIn_app (goodIn_of _ (by decide +kernel)) ggX3_tray_X3_in
theorem dX3_tray_0 : decode cX3_tray 0 = .ok (.aload_n 0, 1) := by decide +kernel
theorem dX3_tray_1 : decode cX3_tray 1 = .ok (.iload_n 1, 1) := by decide +kernel
theorem dX3_tray_2 : decode cX3_tray 2 = .ok (.iconst 0, 1) := by decide +kernel
theorem dX3_tray_3 : decode cX3_tray 3 = .ok (.aload_n 0, 1) := by decide +kernel
theorem dX3_tray_4 : decode cX3_tray 4 = .ok (.getfield 57, 3) := by decide +kernel
theorem dX3_tray_7 : decode cX3_tray 7 = .ok (.iconst 1, 1) := by decide +kernel
theorem dX3_tray_8 : decode cX3_tray 8 = .ok (.isub, 1) := by decide +kernel
theorem dX3_tray_9 : decode cX3_tray 9 = .ok (.invokestatic 69, 3) := by decide +kernel
