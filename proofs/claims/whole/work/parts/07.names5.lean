theorem dX3_init_77 : decode cX3_init 77 = .ok (.newarray .int, 2) := by decide +kernel
theorem dX3_init_79 : decode cX3_init 79 = .ok (.putfield 39, 3) := by decide +kernel
theorem dX3_init_82 : decode cX3_init 82 = .ok (.aload_n 0, 1) := by decide +kernel
theorem dX3_init_83 : decode cX3_init 83 = .ok (.bipush 60, 2) := by decide +kernel
theorem dX3_init_85 : decode cX3_init 85 = .ok (.newarray .int, 2) := by decide +kernel
theorem dX3_init_87 : decode cX3_init 87 = .ok (.putfield 42, 3) := by decide +kernel
theorem dX3_init_90 : decode cX3_init 90 = .ok (.aload_n 0, 1) := by decide +kernel
theorem dX3_init_91 : decode cX3_init 91 = .ok (.bipush 60, 2) := by decide +kernel
theorem dX3_init_93 : decode cX3_init 93 = .ok (.newarray .int, 2) := by decide +kernel
theorem dX3_init_95 : decode cX3_init 95 = .ok (.putfield 45, 3) := by decide +kernel
theorem dX3_init_98 : decode cX3_init 98 = .ok (.aload_n 0, 1) := by decide +kernel
theorem dX3_init_99 : decode cX3_init 99 = .ok (.bipush 60, 2) := by decide +kernel
theorem dX3_init_101 : decode cX3_init 101 = .ok (.newarray .int, 2) := by decide +kernel
theorem dX3_init_103 : decode cX3_init 103 = .ok (.putfield 48, 3) := by decide +kernel
theorem dX3_init_106 : decode cX3_init 106 = .ok (.aload_n 0, 1) := by decide +kernel
theorem dX3_init_107 : decode cX3_init 107 = .ok (.bipush 40, 2) := by decide +kernel
theorem dX3_init_109 : decode cX3_init 109 = .ok (.newarray .int, 2) := by decide +kernel
theorem dX3_init_111 : decode cX3_init 111 = .ok (.putfield 51, 3) := by decide +kernel
theorem dX3_init_114 : decode cX3_init 114 = .ok (.aload_n 0, 1) := by decide +kernel
theorem dX3_init_115 : decode cX3_init 115 = .ok (.bipush 61, 2) := by decide +kernel
theorem dX3_init_117 : decode cX3_init 117 = .ok (.newarray .boolean, 2) := by decide +kernel
theorem dX3_init_119 : decode cX3_init 119 = .ok (.putfield 54, 3) := by decide +kernel
theorem dX3_init_122 : decode cX3_init 122 = .ok (.aload_n 0, 1) := by decide +kernel
theorem dX3_init_123 : decode cX3_init 123 = .ok (.iload_n 1, 1) := by decide +kernel
theorem dX3_init_124 : decode cX3_init 124 = .ok (.iconst 2, 1) := by decide +kernel
theorem dX3_init_125 : decode cX3_init 125 = .ok (.if_icmp .ge 7, 3) := by decide +kernel
theorem dX3_init_128 : decode cX3_init 128 = .ok (.iconst 2, 1) := by decide +kernel
theorem dX3_init_129 : decode cX3_init 129 = .ok (.goto 15, 3) := by decide +kernel
theorem dX3_init_132 : decode cX3_init 132 = .ok (.iload_n 1, 1) := by decide +kernel
theorem dX3_init_133 : decode cX3_init 133 = .ok (.bipush 40, 2) := by decide +kernel
theorem dX3_init_135 : decode cX3_init 135 = .ok (.if_icmp .le 8, 3) := by decide +kernel
theorem dX3_init_138 : decode cX3_init 138 = .ok (.bipush 40, 2) := by decide +kernel
theorem dX3_init_140 : decode cX3_init 140 = .ok (.goto 4, 3) := by decide +kernel
theorem dX3_init_143 : decode cX3_init 143 = .ok (.iload_n 1, 1) := by decide +kernel
theorem dX3_init_144 : decode cX3_init 144 = .ok (.putfield 57, 3) := by decide +kernel
theorem dX3_init_147 : decode cX3_init 147 = .ok (.aload_n 0, 1) := by decide +kernel
theorem dX3_init_148 : decode cX3_init 148 = .ok (.iload_n 2, 1) := by decide +kernel
theorem dX3_init_149 : decode cX3_init 149 = .ok (.ifCond .ge 7, 3) := by decide +kernel
theorem dX3_init_152 : decode cX3_init 152 = .ok (.iconst 0, 1) := by decide +kernel
theorem dX3_init_153 : decode cX3_init 153 = .ok (.goto 15, 3) := by decide +kernel
theorem dX3_init_156 : decode cX3_init 156 = .ok (.iload_n 2, 1) := by decide +kernel
theorem dX3_init_157 : decode cX3_init 157 = .ok (.bipush 9, 2) := by decide +kernel
theorem dX3_init_159 : decode cX3_init 159 = .ok (.if_icmp .le 8, 3) := by decide +kernel
theorem dX3_init_162 : decode cX3_init 162 = .ok (.bipush 9, 2) := by decide +kernel
theorem dX3_init_164 : decode cX3_init 164 = .ok (.goto 4, 3) := by decide +kernel
theorem dX3_init_167 : decode cX3_init 167 = .ok (.iload_n 2, 1) := by decide +kernel
theorem dX3_init_168 : decode cX3_init 168 = .ok (.putfield 60, 3) := by decide +kernel
theorem dX3_init_171 : decode cX3_init 171 = .ok (.return_, 1) := by decide +kernel
theorem dX3_thrown_0 : decode cX3_thrown 0 = .ok (.aload_n 0, 1) := by decide +kernel
theorem dX3_thrown_1 : decode cX3_thrown 1 = .ok (.getfield 63, 3) := by decide +kernel
theorem dX3_thrown_4 : decode cX3_thrown 4 = .ok (.ireturn, 1) := by decide +kernel
theorem dX3_in_0 : decode cX3_in 0 = .ok (.iload_n 0, 1) := by decide +kernel
theorem dX3_in_1 : decode cX3_in 1 = .ok (.iload_n 1, 1) := by decide +kernel
theorem dX3_in_2 : decode cX3_in 2 = .ok (.if_icmp .lt 12, 3) := by decide +kernel
theorem dX3_in_5 : decode cX3_in 5 = .ok (.iload_n 0, 1) := by decide +kernel
theorem dX3_in_6 : decode cX3_in 6 = .ok (.iload_n 2, 1) := by decide +kernel
theorem dX3_in_7 : decode cX3_in 7 = .ok (.if_icmp .gt 7, 3) := by decide +kernel
theorem dX3_in_10 : decode cX3_in 10 = .ok (.iconst 1, 1) := by decide +kernel
theorem dX3_in_11 : decode cX3_in 11 = .ok (.goto 4, 3) := by decide +kernel
theorem dX3_in_14 : decode cX3_in 14 = .ok (.iconst 0, 1) := by decide +kernel
theorem dX3_in_15 : decode cX3_in 15 = .ok (.ireturn, 1) := by decide +kernel
set_option maxRecDepth 20000 in
theorem ggX3_isItem_X3_in : GoodIn wsX3_isItem wsX3_in := goodIn_r _ [5] (by decide +kernel) (by decide +kernel)
set_option maxRecDepth 20000 in
theorem gX3_isItem_X3_in : GoodIn wsX3_isItem (va_wsS RX3 69 yX3_in wsX3_in) := goodIn_app (goodIn_of _ (by decide +kernel)) ggX3_isItem_X3_in
theorem dX3_isItem_0 : decode cX3_isItem 0 = .ok (.iload_n 1, 1) := by decide +kernel
theorem dX3_isItem_1 : decode cX3_isItem 1 = .ok (.iconst 1, 1) := by decide +kernel
theorem dX3_isItem_2 : decode cX3_isItem 2 = .ok (.aload_n 0, 1) := by decide +kernel
theorem dX3_isItem_3 : decode cX3_isItem 3 = .ok (.getfield 66, 3) := by decide +kernel
theorem dX3_isItem_6 : decode cX3_isItem 6 = .ok (.invokestatic 69, 3) := by decide +kernel
theorem dX3_isItem_9 : decode cX3_isItem 9 = .ok (.ireturn, 1) := by decide +kernel
theorem dX3_chutes_0 : decode cX3_chutes 0 = .ok (.aload_n 0, 1) := by decide +kernel
theorem dX3_chutes_1 : decode cX3_chutes 1 = .ok (.getfield 57, 3) := by decide +kernel
theorem dX3_chutes_4 : decode cX3_chutes 4 = .ok (.bipush 12, 2) := by decide +kernel
theorem dX3_chutes_6 : decode cX3_chutes 6 = .ok (.if_icmp .le 8, 3) := by decide +kernel
theorem dX3_chutes_9 : decode cX3_chutes 9 = .ok (.bipush 6, 2) := by decide +kernel
theorem dX3_chutes_11 : decode cX3_chutes 11 = .ok (.goto 11, 3) := by decide +kernel
theorem dX3_chutes_14 : decode cX3_chutes 14 = .ok (.aload_n 0, 1) := by decide +kernel
theorem dX3_chutes_15 : decode cX3_chutes 15 = .ok (.getfield 57, 3) := by decide +kernel
theorem dX3_chutes_18 : decode cX3_chutes 18 = .ok (.iconst 1, 1) := by decide +kernel
theorem dX3_chutes_19 : decode cX3_chutes 19 = .ok (.isub, 1) := by decide +kernel
theorem dX3_chutes_20 : decode cX3_chutes 20 = .ok (.iconst 2, 1) := by decide +kernel
theorem dX3_chutes_21 : decode cX3_chutes 21 = .ok (.idiv, 1) := by decide +kernel
theorem dX3_chutes_22 : decode cX3_chutes 22 = .ok (.ireturn, 1) := by decide +kernel
set_option maxRecDepth 20000 in
theorem ggX3_isChute_X3_chutes : GoodIn wsX3_isChute wsX3_chutes := goodIn_r _ [5, 6, 10, 11, 12, 13, 14, 15, 16, 17, 18, 19, 20, 21, 22, 23, 24, 25, 26, 27, 28, 29, 30, 31, 32] (by decide +kernel) (by decide +kernel)
set_option maxRecDepth 20000 in
theorem gX3_isChute_X3_chutes : GoodIn wsX3_isChute (wsV RX3 73 RX3 yX3_chutes wsX3_chutes) := goodIn_app (goodIn_of _ (by decide +kernel)) ggX3_isChute_X3_chutes
set_option maxRecDepth 20000 in
theorem ggX3_isChute_X3_in : GoodIn wsX3_isChute wsX3_in := goodIn_r _ [9] (by decide +kernel) (by decide +kernel)
set_option maxRecDepth 20000 in
theorem gX3_isChute_X3_in : GoodIn wsX3_isChute (va_wsS RX3 69 yX3_in wsX3_in) := goodIn_app (goodIn_of _ (by decide +kernel)) ggX3_isChute_X3_in
theorem dX3_isChute_0 : decode cX3_isChute 0 = .ok (.iload_n 1, 1) := by decide +kernel
theorem dX3_isChute_1 : decode cX3_isChute 1 = .ok (.iconst 1, 1) := by decide +kernel
theorem dX3_isChute_2 : decode cX3_isChute 2 = .ok (.aload_n 0, 1) := by decide +kernel
theorem dX3_isChute_3 : decode cX3_isChute 3 = .ok (.invokevirtual 73, 3) := by decide +kernel
theorem dX3_isChute_6 : decode cX3_isChute 6 = .ok (.invokestatic 69, 3) := by decide +kernel
theorem dX3_isChute_9 : decode cX3_isChute 9 = .ok (.ireturn, 1) := by decide +kernel
set_option maxRecDepth 20000 in
theorem ggX3_isCode_X3_isChute : GoodIn wsX3_isCode wsX3_isChute := goodIn_r _ [5, 6, 7, 8, 4, 9, 10, 11, 12, 13, 14, 15, 16, 17, 18, 19, 20, 21, 22, 23, 24, 25, 26, 27, 28, 29, 30, 31, 32, 33, 34, 35, 36] (by decide +kernel) (by decide +kernel)
set_option maxRecDepth 20000 in
theorem gX3_isCode_X3_isChute : GoodIn wsX3_isCode (wsV RX3 77 RX3 yX3_isChute wsX3_isChute) := goodIn_app (goodIn_of _ (by decide +kernel)) ggX3_isCode_X3_isChute
theorem dX3_isCode_0 : decode cX3_isCode 0 = .ok (.iload_n 1, 1) := by decide +kernel
theorem dX3_isCode_1 : decode cX3_isCode 1 = .ok (.ifCond .eq 11, 3) := by decide +kernel
theorem dX3_isCode_4 : decode cX3_isCode 4 = .ok (.aload_n 0, 1) := by decide +kernel
theorem dX3_isCode_5 : decode cX3_isCode 5 = .ok (.iload_n 1, 1) := by decide +kernel
theorem dX3_isCode_6 : decode cX3_isCode 6 = .ok (.invokevirtual 77, 3) := by decide +kernel
theorem dX3_isCode_9 : decode cX3_isCode 9 = .ok (.ifCond .eq 7, 3) := by decide +kernel
theorem dX3_isCode_12 : decode cX3_isCode 12 = .ok (.iconst 1, 1) := by decide +kernel
theorem dX3_isCode_13 : decode cX3_isCode 13 = .ok (.goto 4, 3) := by decide +kernel
theorem dX3_isCode_16 : decode cX3_isCode 16 = .ok (.iconst 0, 1) := by decide +kernel
theorem dX3_isCode_17 : decode cX3_isCode 17 = .ok (.ireturn, 1) := by decide +kernel
theorem dX3_trayAt_0 : decode cX3_trayAt 0 = .ok (.iload_n 1, 1) := by decide +kernel
theorem dX3_trayAt_1 : decode cX3_trayAt 1 = .ok (.aload_n 0, 1) := by decide +kernel
theorem dX3_trayAt_2 : decode cX3_trayAt 2 = .ok (.getfield 57, 3) := by decide +kernel
theorem dX3_trayAt_5 : decode cX3_trayAt 5 = .ok (.iadd, 1) := by decide +kernel
theorem dX3_trayAt_6 : decode cX3_trayAt 6 = .ok (.aload_n 0, 1) := by decide +kernel
theorem dX3_trayAt_7 : decode cX3_trayAt 7 = .ok (.getfield 81, 3) := by decide +kernel
theorem dX3_trayAt_10 : decode cX3_trayAt 10 = .ok (.aload_n 0, 1) := by decide +kernel
theorem dX3_trayAt_11 : decode cX3_trayAt 11 = .ok (.getfield 57, 3) := by decide +kernel
theorem dX3_trayAt_14 : decode cX3_trayAt 14 = .ok (.irem, 1) := by decide +kernel
theorem dX3_trayAt_15 : decode cX3_trayAt 15 = .ok (.isub, 1) := by decide +kernel
theorem dX3_trayAt_16 : decode cX3_trayAt 16 = .ok (.aload_n 0, 1) := by decide +kernel
theorem dX3_trayAt_17 : decode cX3_trayAt 17 = .ok (.getfield 57, 3) := by decide +kernel
theorem dX3_trayAt_20 : decode cX3_trayAt 20 = .ok (.irem, 1) := by decide +kernel
theorem dX3_trayAt_21 : decode cX3_trayAt 21 = .ok (.ireturn, 1) := by decide +kernel
theorem dX3_trayOf_0 : decode cX3_trayOf 0 = .ok (.iconst 0, 1) := by decide +kernel
theorem dX3_trayOf_1 : decode cX3_trayOf 1 = .ok (.istore_n 2, 1) := by decide +kernel
theorem dX3_trayOf_2 : decode cX3_trayOf 2 = .ok (.iload_n 2, 1) := by decide +kernel
theorem dX3_trayOf_3 : decode cX3_trayOf 3 = .ok (.aload_n 0, 1) := by decide +kernel
theorem dX3_trayOf_4 : decode cX3_trayOf 4 = .ok (.getfield 57, 3) := by decide +kernel
theorem dX3_trayOf_7 : decode cX3_trayOf 7 = .ok (.if_icmp .ge 21, 3) := by decide +kernel
theorem dX3_trayOf_10 : decode cX3_trayOf 10 = .ok (.aload_n 0, 1) := by decide +kernel
theorem dX3_trayOf_11 : decode cX3_trayOf 11 = .ok (.getfield 13, 3) := by decide +kernel
theorem dX3_trayOf_14 : decode cX3_trayOf 14 = .ok (.iload_n 2, 1) := by decide +kernel
theorem dX3_trayOf_15 : decode cX3_trayOf 15 = .ok (.iaload, 1) := by decide +kernel
theorem dX3_trayOf_16 : decode cX3_trayOf 16 = .ok (.iload_n 1, 1) := by decide +kernel
theorem dX3_trayOf_17 : decode cX3_trayOf 17 = .ok (.if_icmp .ne 5, 3) := by decide +kernel
theorem dX3_trayOf_20 : decode cX3_trayOf 20 = .ok (.iload_n 2, 1) := by decide +kernel
theorem dX3_trayOf_21 : decode cX3_trayOf 21 = .ok (.ireturn, 1) := by decide +kernel
theorem dX3_trayOf_22 : decode cX3_trayOf 22 = .ok (.iinc 2 1, 3) := by decide +kernel
theorem dX3_trayOf_25 : decode cX3_trayOf 25 = .ok (.goto (-23), 3) := by decide +kernel
theorem dX3_trayOf_28 : decode cX3_trayOf 28 = .ok (.iconst (-1), 1) := by decide +kernel
theorem dX3_trayOf_29 : decode cX3_trayOf 29 = .ok (.ireturn, 1) := by decide +kernel
set_option maxRecDepth 20000 in
theorem ggX3_item_X3_in : GoodIn wsX3_item wsX3_in := goodIn_r _ [7] (by decide +kernel) (by decide +kernel)
set_option maxRecDepth 20000 in
theorem gX3_item_X3_in : GoodIn wsX3_item (va_wsS RX3 69 yX3_in wsX3_in) := goodIn_app (goodIn_of _ (by decide +kernel)) ggX3_item_X3_in
theorem dX3_item_0 : decode cX3_item 0 = .ok (.aload_n 0, 1) := by decide +kernel
theorem dX3_item_1 : decode cX3_item 1 = .ok (.iload_n 1, 1) := by decide +kernel
theorem dX3_item_2 : decode cX3_item 2 = .ok (.iconst 1, 1) := by decide +kernel
theorem dX3_item_3 : decode cX3_item 3 = .ok (.bipush 100, 2) := by decide +kernel
theorem dX3_item_5 : decode cX3_item 5 = .ok (.invokestatic 69, 3) := by decide +kernel
theorem dX3_item_8 : decode cX3_item 8 = .ok (.ifCond .ne 7, 3) := by decide +kernel
theorem dX3_item_11 : decode cX3_item 11 = .ok (.iconst 1, 1) := by decide +kernel
theorem dX3_item_12 : decode cX3_item 12 = .ok (.goto 17, 3) := by decide +kernel
theorem dX3_item_15 : decode cX3_item 15 = .ok (.aload_n 0, 1) := by decide +kernel
theorem dX3_item_16 : decode cX3_item 16 = .ok (.getfield 66, 3) := by decide +kernel
theorem dX3_item_19 : decode cX3_item 19 = .ok (.bipush 60, 2) := by decide +kernel
theorem dX3_item_21 : decode cX3_item 21 = .ok (.if_icmp .ne 7, 3) := by decide +kernel
theorem dX3_item_24 : decode cX3_item 24 = .ok (.iconst 2, 1) := by decide +kernel
theorem dX3_item_25 : decode cX3_item 25 = .ok (.goto 4, 3) := by decide +kernel
theorem dX3_item_28 : decode cX3_item 28 = .ok (.iconst 0, 1) := by decide +kernel
theorem dX3_item_29 : decode cX3_item 29 = .ok (.putfield 63, 3) := by decide +kernel
theorem dX3_item_32 : decode cX3_item 32 = .ok (.aload_n 0, 1) := by decide +kernel
theorem dX3_item_33 : decode cX3_item 33 = .ok (.getfield 63, 3) := by decide +kernel
theorem dX3_item_36 : decode cX3_item 36 = .ok (.ifCond .le 5, 3) := by decide +kernel
theorem dX3_item_39 : decode cX3_item 39 = .ok (.iconst 0, 1) := by decide +kernel
theorem dX3_item_40 : decode cX3_item 40 = .ok (.ireturn, 1) := by decide +kernel
theorem dX3_item_41 : decode cX3_item 41 = .ok (.aload_n 0, 1) := by decide +kernel
theorem dX3_item_42 : decode cX3_item 42 = .ok (.dup, 1) := by decide +kernel
theorem dX3_item_43 : decode cX3_item 43 = .ok (.getfield 66, 3) := by decide +kernel
theorem dX3_item_46 : decode cX3_item 46 = .ok (.iconst 1, 1) := by decide +kernel
theorem dX3_item_47 : decode cX3_item 47 = .ok (.iadd, 1) := by decide +kernel
theorem dX3_item_48 : decode cX3_item 48 = .ok (.putfield 66, 3) := by decide +kernel
theorem dX3_item_51 : decode cX3_item 51 = .ok (.aload_n 0, 1) := by decide +kernel
theorem dX3_item_52 : decode cX3_item 52 = .ok (.getfield 21, 3) := by decide +kernel
theorem dX3_item_55 : decode cX3_item 55 = .ok (.aload_n 0, 1) := by decide +kernel
theorem dX3_item_56 : decode cX3_item 56 = .ok (.getfield 66, 3) := by decide +kernel
theorem dX3_item_59 : decode cX3_item 59 = .ok (.iload_n 1, 1) := by decide +kernel
theorem dX3_item_60 : decode cX3_item 60 = .ok (.iastore, 1) := by decide +kernel
theorem dX3_item_61 : decode cX3_item 61 = .ok (.aload_n 0, 1) := by decide +kernel
theorem dX3_item_62 : decode cX3_item 62 = .ok (.getfield 66, 3) := by decide +kernel
theorem dX3_item_65 : decode cX3_item 65 = .ok (.ireturn, 1) := by decide +kernel
set_option maxRecDepth 20000 in
theorem ggX3_induct_X3_isItem : GoodIn wsX3_induct wsX3_isItem := goodIn_r _ [12, 13, 14, 15, 11, 16, 35, 36, 37, 38, 39, 40, 41, 42, 43, 44, 45, 46, 47, 48, 49, 50, 51, 52, 53, 54, 55, 56, 57] (by decide +kernel) (by decide +kernel)
set_option maxRecDepth 20000 in
theorem gX3_induct_X3_isItem : GoodIn wsX3_induct (wsV RX3 84 RX3 yX3_isItem wsX3_isItem) := goodIn_app (goodIn_of _ (by decide +kernel)) ggX3_induct_X3_isItem
set_option maxRecDepth 20000 in
theorem ggX3_induct_X3_in : GoodIn wsX3_induct wsX3_in := goodIn_r _ [16] (by decide +kernel) (by decide +kernel)
set_option maxRecDepth 20000 in
theorem gX3_induct_X3_in : GoodIn wsX3_induct (va_wsS RX3 69 yX3_in wsX3_in) := goodIn_app (goodIn_of _ (by decide +kernel)) ggX3_induct_X3_in
set_option maxRecDepth 20000 in
theorem ggX3_induct_X3_isCode : GoodIn wsX3_induct wsX3_isCode := goodIn_r _ [20, 21, 22, 23, 11, 24, 25, 26, 27, 28, 29, 14, 15, 16, 35, 36, 37, 38, 39, 40, 41, 42, 43, 44, 45, 46, 47, 48, 49, 50, 51, 52, 53, 54, 55, 56, 57] (by decide +kernel) (by decide +kernel)
set_option maxRecDepth 20000 in
theorem gX3_induct_X3_isCode : GoodIn wsX3_induct (wsV RX3 87 RX3 yX3_isCode wsX3_isCode) := goodIn_app (goodIn_of _ (by decide +kernel)) ggX3_induct_X3_isCode
set_option maxRecDepth 20000 in
theorem ggX3_induct_X3_trayAt : GoodIn wsX3_induct wsX3_trayAt := goodIn_r _ [33, 29, 34, 35, 36, 37, 38, 39, 40, 41, 42, 43, 44, 45, 46, 47, 48, 49, 50, 51, 52, 53, 54, 55, 56, 57] (by decide +kernel) (by decide +kernel)
set_option maxRecDepth 20000 in
theorem gX3_induct_X3_trayAt : GoodIn wsX3_induct (wsV RX3 90 RX3 yX3_trayAt wsX3_trayAt) := goodIn_app (goodIn_of _ (by decide +kernel)) ggX3_induct_X3_trayAt
theorem dX3_induct_0 : decode cX3_induct 0 = .ok (.aload_n 0, 1) := by decide +kernel
theorem dX3_induct_1 : decode cX3_induct 1 = .ok (.aload_n 0, 1) := by decide +kernel
theorem dX3_induct_2 : decode cX3_induct 2 = .ok (.iload_n 1, 1) := by decide +kernel
theorem dX3_induct_3 : decode cX3_induct 3 = .ok (.invokevirtual 84, 3) := by decide +kernel
theorem dX3_induct_6 : decode cX3_induct 6 = .ok (.ifCond .eq 20, 3) := by decide +kernel
theorem dX3_induct_9 : decode cX3_induct 9 = .ok (.iload_n 2, 1) := by decide +kernel
theorem dX3_induct_10 : decode cX3_induct 10 = .ok (.iconst 0, 1) := by decide +kernel
theorem dX3_induct_11 : decode cX3_induct 11 = .ok (.iconst 1, 1) := by decide +kernel
theorem dX3_induct_12 : decode cX3_induct 12 = .ok (.invokestatic 69, 3) := by decide +kernel
theorem dX3_induct_15 : decode cX3_induct 15 = .ok (.ifCond .eq 11, 3) := by decide +kernel
theorem dX3_induct_18 : decode cX3_induct 18 = .ok (.aload_n 0, 1) := by decide +kernel
theorem dX3_induct_19 : decode cX3_induct 19 = .ok (.iload_n 3, 1) := by decide +kernel
theorem dX3_induct_20 : decode cX3_induct 20 = .ok (.invokevirtual 87, 3) := by decide +kernel
theorem dX3_induct_23 : decode cX3_induct 23 = .ok (.ifCond .ne 7, 3) := by decide +kernel
theorem dX3_induct_26 : decode cX3_induct 26 = .ok (.iconst 1, 1) := by decide +kernel
theorem dX3_induct_27 : decode cX3_induct 27 = .ok (.goto 4, 3) := by decide +kernel
theorem dX3_induct_30 : decode cX3_induct 30 = .ok (.iconst 0, 1) := by decide +kernel
theorem dX3_induct_31 : decode cX3_induct 31 = .ok (.putfield 63, 3) := by decide +kernel
theorem dX3_induct_34 : decode cX3_induct 34 = .ok (.aload_n 0, 1) := by decide +kernel
theorem dX3_induct_35 : decode cX3_induct 35 = .ok (.getfield 63, 3) := by decide +kernel
theorem dX3_induct_38 : decode cX3_induct 38 = .ok (.ifCond .ne 54, 3) := by decide +kernel
theorem dX3_induct_41 : decode cX3_induct 41 = .ok (.aload_n 0, 1) := by decide +kernel
theorem dX3_induct_42 : decode cX3_induct 42 = .ok (.aload_n 0, 1) := by decide +kernel
theorem dX3_induct_43 : decode cX3_induct 43 = .ok (.getfield 24, 3) := by decide +kernel
theorem dX3_induct_46 : decode cX3_induct 46 = .ok (.iload_n 1, 1) := by decide +kernel
theorem dX3_induct_47 : decode cX3_induct 47 = .ok (.iaload, 1) := by decide +kernel
theorem dX3_induct_48 : decode cX3_induct 48 = .ok (.ifCond .ne 36, 3) := by decide +kernel
theorem dX3_induct_51 : decode cX3_induct 51 = .ok (.aload_n 0, 1) := by decide +kernel
theorem dX3_induct_52 : decode cX3_induct 52 = .ok (.getfield 13, 3) := by decide +kernel
theorem dX3_induct_55 : decode cX3_induct 55 = .ok (.aload_n 0, 1) := by decide +kernel
theorem dX3_induct_56 : decode cX3_induct 56 = .ok (.iload_n 2, 1) := by decide +kernel
theorem dX3_induct_57 : decode cX3_induct 57 = .ok (.invokevirtual 90, 3) := by decide +kernel
theorem dX3_induct_60 : decode cX3_induct 60 = .ok (.iaload, 1) := by decide +kernel
theorem dX3_induct_61 : decode cX3_induct 61 = .ok (.ifCond .ne 23, 3) := by decide +kernel
theorem dX3_induct_64 : decode cX3_induct 64 = .ok (.aload_n 0, 1) := by decide +kernel
theorem dX3_induct_65 : decode cX3_induct 65 = .ok (.getfield 94, 3) := by decide +kernel
theorem dX3_induct_68 : decode cX3_induct 68 = .ok (.ifCond .ne 16, 3) := by decide +kernel
theorem dX3_induct_71 : decode cX3_induct 71 = .ok (.aload_n 0, 1) := by decide +kernel
theorem dX3_induct_72 : decode cX3_induct 72 = .ok (.getfield 21, 3) := by decide +kernel
theorem dX3_induct_75 : decode cX3_induct 75 = .ok (.iload_n 1, 1) := by decide +kernel
theorem dX3_induct_76 : decode cX3_induct 76 = .ok (.iaload, 1) := by decide +kernel
theorem dX3_induct_77 : decode cX3_induct 77 = .ok (.aload_n 0, 1) := by decide +kernel
theorem dX3_induct_78 : decode cX3_induct 78 = .ok (.getfield 7, 3) := by decide +kernel
theorem dX3_induct_81 : decode cX3_induct 81 = .ok (.if_icmp .le 7, 3) := by decide +kernel
theorem dX3_induct_84 : decode cX3_induct 84 = .ok (.iconst 2, 1) := by decide +kernel
theorem dX3_induct_85 : decode cX3_induct 85 = .ok (.goto 4, 3) := by decide +kernel
theorem dX3_induct_88 : decode cX3_induct 88 = .ok (.iconst 0, 1) := by decide +kernel
theorem dX3_induct_89 : decode cX3_induct 89 = .ok (.putfield 63, 3) := by decide +kernel
theorem dX3_induct_92 : decode cX3_induct 92 = .ok (.aload_n 0, 1) := by decide +kernel
theorem dX3_induct_93 : decode cX3_induct 93 = .ok (.getfield 63, 3) := by decide +kernel
theorem dX3_induct_96 : decode cX3_induct 96 = .ok (.ifCond .le 5, 3) := by decide +kernel
theorem dX3_induct_99 : decode cX3_induct 99 = .ok (.iconst 0, 1) := by decide +kernel
theorem dX3_induct_100 : decode cX3_induct 100 = .ok (.ireturn, 1) := by decide +kernel
theorem dX3_induct_101 : decode cX3_induct 101 = .ok (.aload_n 0, 1) := by decide +kernel
theorem dX3_induct_102 : decode cX3_induct 102 = .ok (.getfield 13, 3) := by decide +kernel
theorem dX3_induct_105 : decode cX3_induct 105 = .ok (.aload_n 0, 1) := by decide +kernel
theorem dX3_induct_106 : decode cX3_induct 106 = .ok (.iload_n 2, 1) := by decide +kernel
theorem dX3_induct_107 : decode cX3_induct 107 = .ok (.invokevirtual 90, 3) := by decide +kernel
theorem dX3_induct_110 : decode cX3_induct 110 = .ok (.iload_n 1, 1) := by decide +kernel
theorem dX3_induct_111 : decode cX3_induct 111 = .ok (.iastore, 1) := by decide +kernel
theorem dX3_induct_112 : decode cX3_induct 112 = .ok (.aload_n 0, 1) := by decide +kernel
theorem dX3_induct_113 : decode cX3_induct 113 = .ok (.getfield 24, 3) := by decide +kernel
theorem dX3_induct_116 : decode cX3_induct 116 = .ok (.iload_n 1, 1) := by decide +kernel
theorem dX3_induct_117 : decode cX3_induct 117 = .ok (.iconst 1, 1) := by decide +kernel
theorem dX3_induct_118 : decode cX3_induct 118 = .ok (.iastore, 1) := by decide +kernel
theorem dX3_induct_119 : decode cX3_induct 119 = .ok (.aload_n 0, 1) := by decide +kernel
theorem dX3_induct_120 : decode cX3_induct 120 = .ok (.getfield 27, 3) := by decide +kernel
theorem dX3_induct_123 : decode cX3_induct 123 = .ok (.iload_n 1, 1) := by decide +kernel
theorem dX3_induct_124 : decode cX3_induct 124 = .ok (.iload_n 3, 1) := by decide +kernel
theorem dX3_induct_125 : decode cX3_induct 125 = .ok (.iastore, 1) := by decide +kernel
theorem dX3_induct_126 : decode cX3_induct 126 = .ok (.aload_n 0, 1) := by decide +kernel
theorem dX3_induct_127 : decode cX3_induct 127 = .ok (.iload_n 2, 1) := by decide +kernel
theorem dX3_induct_128 : decode cX3_induct 128 = .ok (.invokevirtual 90, 3) := by decide +kernel
theorem dX3_induct_131 : decode cX3_induct 131 = .ok (.ireturn, 1) := by decide +kernel
set_option maxRecDepth 20000 in
theorem ggX3_length_X3_in : GoodIn wsX3_length wsX3_in := goodIn_r _ [9] (by decide +kernel) (by decide +kernel)
set_option maxRecDepth 20000 in
theorem gX3_length_X3_in : GoodIn wsX3_length (va_wsS RX3 69 yX3_in wsX3_in) := goodIn_app (goodIn_of _ (by decide +kernel)) ggX3_length_X3_in
theorem dX3_length_0 : decode cX3_length 0 = .ok (.aload_n 0, 1) := by decide +kernel
theorem dX3_length_1 : decode cX3_length 1 = .ok (.iload_n 1, 1) := by decide +kernel
theorem dX3_length_2 : decode cX3_length 2 = .ok (.iconst 1, 1) := by decide +kernel
theorem dX3_length_3 : decode cX3_length 3 = .ok (.bipush 100, 2) := by decide +kernel
theorem dX3_length_5 : decode cX3_length 5 = .ok (.invokestatic 69, 3) := by decide +kernel
theorem dX3_length_8 : decode cX3_length 8 = .ok (.ifCond .eq 7, 3) := by decide +kernel
theorem dX3_length_11 : decode cX3_length 11 = .ok (.iconst 0, 1) := by decide +kernel
theorem dX3_length_12 : decode cX3_length 12 = .ok (.goto 4, 3) := by decide +kernel
theorem dX3_length_15 : decode cX3_length 15 = .ok (.iconst 1, 1) := by decide +kernel
theorem dX3_length_16 : decode cX3_length 16 = .ok (.putfield 63, 3) := by decide +kernel
theorem dX3_length_19 : decode cX3_length 19 = .ok (.aload_n 0, 1) := by decide +kernel
theorem dX3_length_20 : decode cX3_length 20 = .ok (.getfield 63, 3) := by decide +kernel
theorem dX3_length_23 : decode cX3_length 23 = .ok (.ifCond .le 5, 3) := by decide +kernel
theorem dX3_length_26 : decode cX3_length 26 = .ok (.iconst 0, 1) := by decide +kernel
theorem dX3_length_27 : decode cX3_length 27 = .ok (.ireturn, 1) := by decide +kernel
theorem dX3_length_28 : decode cX3_length 28 = .ok (.aload_n 0, 1) := by decide +kernel
theorem dX3_length_29 : decode cX3_length 29 = .ok (.iload_n 1, 1) := by decide +kernel
theorem dX3_length_30 : decode cX3_length 30 = .ok (.putfield 7, 3) := by decide +kernel
theorem dX3_length_33 : decode cX3_length 33 = .ok (.iconst 0, 1) := by decide +kernel
theorem dX3_length_34 : decode cX3_length 34 = .ok (.istore_n 2, 1) := by decide +kernel
theorem dX3_length_35 : decode cX3_length 35 = .ok (.iconst 0, 1) := by decide +kernel
theorem dX3_length_36 : decode cX3_length 36 = .ok (.istore_n 3, 1) := by decide +kernel
theorem dX3_length_37 : decode cX3_length 37 = .ok (.iload_n 3, 1) := by decide +kernel
theorem dX3_length_38 : decode cX3_length 38 = .ok (.aload_n 0, 1) := by decide +kernel
theorem dX3_length_39 : decode cX3_length 39 = .ok (.getfield 57, 3) := by decide +kernel
theorem dX3_length_42 : decode cX3_length 42 = .ok (.if_icmp .ge 41, 3) := by decide +kernel
theorem dX3_length_45 : decode cX3_length 45 = .ok (.iload_n 2, 1) := by decide +kernel
theorem dX3_length_46 : decode cX3_length 46 = .ok (.aload_n 0, 1) := by decide +kernel
theorem dX3_length_47 : decode cX3_length 47 = .ok (.getfield 13, 3) := by decide +kernel
theorem dX3_length_50 : decode cX3_length 50 = .ok (.iload_n 3, 1) := by decide +kernel
theorem dX3_length_51 : decode cX3_length 51 = .ok (.iaload, 1) := by decide +kernel
theorem dX3_length_52 : decode cX3_length 52 = .ok (.ifCond .eq 22, 3) := by decide +kernel
theorem dX3_length_55 : decode cX3_length 55 = .ok (.aload_n 0, 1) := by decide +kernel
theorem dX3_length_56 : decode cX3_length 56 = .ok (.getfield 21, 3) := by decide +kernel
theorem dX3_length_59 : decode cX3_length 59 = .ok (.aload_n 0, 1) := by decide +kernel
theorem dX3_length_60 : decode cX3_length 60 = .ok (.getfield 13, 3) := by decide +kernel
theorem dX3_length_63 : decode cX3_length 63 = .ok (.iload_n 3, 1) := by decide +kernel
theorem dX3_length_64 : decode cX3_length 64 = .ok (.iaload, 1) := by decide +kernel
theorem dX3_length_65 : decode cX3_length 65 = .ok (.iaload, 1) := by decide +kernel
theorem dX3_length_66 : decode cX3_length 66 = .ok (.iload_n 1, 1) := by decide +kernel
theorem dX3_length_67 : decode cX3_length 67 = .ok (.if_icmp .le 7, 3) := by decide +kernel
theorem dX3_length_70 : decode cX3_length 70 = .ok (.iconst 1, 1) := by decide +kernel
theorem dX3_length_71 : decode cX3_length 71 = .ok (.goto 4, 3) := by decide +kernel
theorem dX3_length_74 : decode cX3_length 74 = .ok (.iconst 0, 1) := by decide +kernel
theorem dX3_length_75 : decode cX3_length 75 = .ok (.iadd, 1) := by decide +kernel
theorem dX3_length_76 : decode cX3_length 76 = .ok (.istore_n 2, 1) := by decide +kernel
theorem dX3_length_77 : decode cX3_length 77 = .ok (.iinc 3 1, 3) := by decide +kernel
theorem dX3_length_80 : decode cX3_length 80 = .ok (.goto (-43), 3) := by decide +kernel
theorem dX3_length_83 : decode cX3_length 83 = .ok (.iload_n 2, 1) := by decide +kernel
theorem dX3_length_84 : decode cX3_length 84 = .ok (.ireturn, 1) := by decide +kernel
set_option maxRecDepth 20000 in
theorem ggX3_retry_X3_isItem : GoodIn wsX3_retry wsX3_isItem := goodIn_r _ [10, 11, 12, 13, 9, 14, 28, 29, 30, 31, 32, 33, 34, 35, 36, 37, 38, 39, 40, 41, 42, 43, 44, 45, 46, 47, 48, 49, 50] (by decide +kernel) (by decide +kernel)
set_option maxRecDepth 20000 in
theorem gX3_retry_X3_isItem : GoodIn wsX3_retry (wsV RX3 84 RX3 yX3_isItem wsX3_isItem) := goodIn_app (goodIn_of _ (by decide +kernel)) ggX3_retry_X3_isItem
set_option maxRecDepth 20000 in
theorem ggX3_retry_X3_in : GoodIn wsX3_retry wsX3_in := goodIn_r _ [14] (by decide +kernel) (by decide +kernel)
set_option maxRecDepth 20000 in
theorem gX3_retry_X3_in : GoodIn wsX3_retry (va_wsS RX3 69 yX3_in wsX3_in) := goodIn_app (goodIn_of _ (by decide +kernel)) ggX3_retry_X3_in
set_option maxRecDepth 20000 in
theorem ggX3_retry_X3_isCode : GoodIn wsX3_retry wsX3_isCode := goodIn_r _ [18, 19, 20, 21, 9, 22, 23, 24, 25, 26, 27, 12, 13, 14, 28, 29, 30, 31, 32, 33, 34, 35, 36, 37, 38, 39, 40, 41, 42, 43, 44, 45, 46, 47, 48, 49, 50] (by decide +kernel) (by decide +kernel)
set_option maxRecDepth 20000 in
theorem gX3_retry_X3_isCode : GoodIn wsX3_retry (wsV RX3 87 RX3 yX3_isCode wsX3_isCode) := goodIn_app (goodIn_of _ (by decide +kernel)) ggX3_retry_X3_isCode
theorem dX3_retry_0 : decode cX3_retry 0 = .ok (.aload_n 0, 1) := by decide +kernel
theorem dX3_retry_1 : decode cX3_retry 1 = .ok (.aload_n 0, 1) := by decide +kernel
theorem dX3_retry_2 : decode cX3_retry 2 = .ok (.iload_n 1, 1) := by decide +kernel
theorem dX3_retry_3 : decode cX3_retry 3 = .ok (.invokevirtual 84, 3) := by decide +kernel
theorem dX3_retry_6 : decode cX3_retry 6 = .ok (.ifCond .eq 21, 3) := by decide +kernel
theorem dX3_retry_9 : decode cX3_retry 9 = .ok (.iload_n 2, 1) := by decide +kernel
theorem dX3_retry_10 : decode cX3_retry 10 = .ok (.iconst 0, 1) := by decide +kernel
theorem dX3_retry_11 : decode cX3_retry 11 = .ok (.bipush 9, 2) := by decide +kernel
theorem dX3_retry_13 : decode cX3_retry 13 = .ok (.invokestatic 69, 3) := by decide +kernel
theorem dX3_retry_16 : decode cX3_retry 16 = .ok (.ifCond .eq 11, 3) := by decide +kernel
