theorem dL_chute_0 : decode cL_chute 0 = .ok (.aload_n 3, 1) := by decide +kernel
theorem dL_chute_1 : decode cL_chute 1 = .ok (.iconst 0, 1) := by decide +kernel
theorem dL_chute_2 : decode cL_chute 2 = .ok (.aload_n 0, 1) := by decide +kernel
theorem dL_chute_3 : decode cL_chute 3 = .ok (.iload_n 1, 1) := by decide +kernel
theorem dL_chute_4 : decode cL_chute 4 = .ok (.iload_n 2, 1) := by decide +kernel
theorem dL_chute_5 : decode cL_chute 5 = .ok (.invokevirtual 37, 3) := by decide +kernel
theorem dL_chute_8 : decode cL_chute 8 = .ok (.ifCond .eq 7, 3) := by decide +kernel
theorem dL_chute_11 : decode cL_chute 11 = .ok (.lconst 1, 1) := by decide +kernel
theorem dL_chute_12 : decode cL_chute 12 = .ok (.goto 4, 3) := by decide +kernel
theorem dL_chute_15 : decode cL_chute 15 = .ok (.lconst 0, 1) := by decide +kernel
theorem dL_chute_16 : decode cL_chute 16 = .ok (.lastore, 1) := by decide +kernel
theorem dL_chute_17 : decode cL_chute 17 = .ok (.goto 7, 3) := by decide +kernel
theorem dL_chute_20 : decode cL_chute 20 = .ok (.astore 4, 2) := by decide +kernel
theorem dL_chute_22 : decode cL_chute 22 = .ok (.iconst 1, 1) := by decide +kernel
theorem dL_chute_23 : decode cL_chute 23 = .ok (.ireturn, 1) := by decide +kernel
theorem dL_chute_24 : decode cL_chute 24 = .ok (.iconst 0, 1) := by decide +kernel
theorem dL_chute_25 : decode cL_chute 25 = .ok (.ireturn, 1) := by decide +kernel
set_option maxRecDepth 20000 in
theorem ggL_jam_X2_jam : GoodIn wsL_jam wsX2_jam := goodIn_ca (goodIn_ca (goodIn_r _ [7, 8, 9, 10, 11, 12, 13, 14, 6, 15, 16, 17, 18, 19, 20, 21, 22, 23, 24, 25, 26, 27, 28, 29, 30, 31, 32, 33, 34, 35, 36, 37, 38, 39, 40, 41, 42, 43, 44, 45, 46, 47, 48, 49, 50, 51, 52, 53, 54, 55, 56, 57, 58, 59, 60, 61, 62, 63, 64, 65, 66, 67, 68, 69, 70, 71, 72, 73, 74, 75, 76, 77, 78, 79, 80] (by decide +kernel) (by decide +kernel)) (goodIn_sub (fun _ h => List.mem_cons_of_mem _ (List.mem_append_left _ (List.mem_append_right _ h))) (by decide +kernel))) (goodIn_sub (fun _ h => List.mem_cons_of_mem _ (List.mem_append_right _ h)) (by decide +kernel))
set_option maxRecDepth 20000 in
theorem gL_jam_X2_jam : GoodIn wsL_jam (wsV RL 41 RX2 yX2_jam wsX2_jam) := goodIn_app (goodIn_of _ (by decide +kernel)) ggL_jam_X2_jam
theorem dL_jam_0 : decode cL_jam 0 = .ok (.aload_n 3, 1) := by decide +kernel
theorem dL_jam_1 : decode cL_jam 1 = .ok (.iconst 0, 1) := by decide +kernel
theorem dL_jam_2 : decode cL_jam 2 = .ok (.aload_n 0, 1) := by decide +kernel
theorem dL_jam_3 : decode cL_jam 3 = .ok (.iload_n 1, 1) := by decide +kernel
theorem dL_jam_4 : decode cL_jam 4 = .ok (.iload_n 2, 1) := by decide +kernel
theorem dL_jam_5 : decode cL_jam 5 = .ok (.invokevirtual 41, 3) := by decide +kernel
theorem dL_jam_8 : decode cL_jam 8 = .ok (.i2l, 1) := by decide +kernel
theorem dL_jam_9 : decode cL_jam 9 = .ok (.lastore, 1) := by decide +kernel
theorem dL_jam_10 : decode cL_jam 10 = .ok (.goto 11, 3) := by decide +kernel
theorem dL_jam_13 : decode cL_jam 13 = .ok (.astore 4, 2) := by decide +kernel
theorem dL_jam_15 : decode cL_jam 15 = .ok (.iconst 1, 1) := by decide +kernel
theorem dL_jam_16 : decode cL_jam 16 = .ok (.ireturn, 1) := by decide +kernel
theorem dL_jam_17 : decode cL_jam 17 = .ok (.astore 4, 2) := by decide +kernel
theorem dL_jam_19 : decode cL_jam 19 = .ok (.iconst 2, 1) := by decide +kernel
theorem dL_jam_20 : decode cL_jam 20 = .ok (.ireturn, 1) := by decide +kernel
theorem dL_jam_21 : decode cL_jam 21 = .ok (.iconst 0, 1) := by decide +kernel
theorem dL_jam_22 : decode cL_jam 22 = .ok (.ireturn, 1) := by decide +kernel
set_option maxRecDepth 20000 in
theorem ggL_found_X2_found : GoodIn wsL_found wsX2_found := goodIn_ca (goodIn_ca (goodIn_r _ [7, 8, 9, 10, 11, 12, 13, 14, 6, 15, 16, 17, 18, 19, 20, 21, 22, 23, 24, 25, 26, 27, 28, 29, 30, 31, 32, 33, 34, 35, 36, 37, 38, 39, 40, 41, 42, 43, 44, 45, 46, 47, 48, 49, 50, 51, 52, 53, 54, 55, 56, 57, 58] (by decide +kernel) (by decide +kernel)) (goodIn_sub (fun _ h => List.mem_cons_of_mem _ (List.mem_append_left _ (List.mem_append_right _ h))) (by decide +kernel))) (goodIn_sub (fun _ h => List.mem_cons_of_mem _ (List.mem_append_right _ h)) (by decide +kernel))
set_option maxRecDepth 20000 in
theorem gL_found_X2_found : GoodIn wsL_found (wsV RL 44 RX2 yX2_found wsX2_found) := goodIn_app (goodIn_of _ (by decide +kernel)) ggL_found_X2_found
theorem dL_found_0 : decode cL_found 0 = .ok (.aload_n 3, 1) := by decide +kernel
theorem dL_found_1 : decode cL_found 1 = .ok (.iconst 0, 1) := by decide +kernel
theorem dL_found_2 : decode cL_found 2 = .ok (.aload_n 0, 1) := by decide +kernel
theorem dL_found_3 : decode cL_found 3 = .ok (.iload_n 1, 1) := by decide +kernel
theorem dL_found_4 : decode cL_found 4 = .ok (.iload_n 2, 1) := by decide +kernel
theorem dL_found_5 : decode cL_found 5 = .ok (.invokevirtual 44, 3) := by decide +kernel
theorem dL_found_8 : decode cL_found 8 = .ok (.i2l, 1) := by decide +kernel
theorem dL_found_9 : decode cL_found 9 = .ok (.lastore, 1) := by decide +kernel
theorem dL_found_10 : decode cL_found 10 = .ok (.goto 11, 3) := by decide +kernel
theorem dL_found_13 : decode cL_found 13 = .ok (.astore 4, 2) := by decide +kernel
theorem dL_found_15 : decode cL_found 15 = .ok (.iconst 1, 1) := by decide +kernel
theorem dL_found_16 : decode cL_found 16 = .ok (.ireturn, 1) := by decide +kernel
theorem dL_found_17 : decode cL_found 17 = .ok (.astore 4, 2) := by decide +kernel
theorem dL_found_19 : decode cL_found 19 = .ok (.iconst 2, 1) := by decide +kernel
theorem dL_found_20 : decode cL_found 20 = .ok (.ireturn, 1) := by decide +kernel
theorem dL_found_21 : decode cL_found 21 = .ok (.iconst 0, 1) := by decide +kernel
theorem dL_found_22 : decode cL_found 22 = .ok (.ireturn, 1) := by decide +kernel
set_option maxRecDepth 20000 in
theorem ggL_retrack_X2_retrack : GoodIn wsL_retrack wsX2_retrack := goodIn_ca (goodIn_r _ [6, 7, 8, 9, 10, 11, 12, 13, 14, 15, 16, 17, 18, 19, 20, 21, 22, 23, 24, 25, 5, 26, 27, 28, 29, 30, 31, 32, 33, 34, 35, 36, 37, 38, 39, 40, 41, 42, 43, 44, 45, 46, 47, 48, 49, 50, 51, 52, 53, 54, 55, 56, 57, 58, 59, 60, 61, 62, 63, 64, 65, 66, 67, 68, 69, 70, 71, 72, 73, 74, 75, 76, 77, 78] (by decide +kernel) (by decide +kernel)) (goodIn_sub (fun _ h => List.mem_cons_of_mem _ (List.mem_append_right _ h)) (by decide +kernel))
set_option maxRecDepth 20000 in
theorem gL_retrack_X2_retrack : GoodIn wsL_retrack (wsV RL 48 RX2 yX2_retrack wsX2_retrack) := goodIn_app (goodIn_of _ (by decide +kernel)) ggL_retrack_X2_retrack
theorem dL_retrack_0 : decode cL_retrack 0 = .ok (.aload_n 1, 1) := by decide +kernel
theorem dL_retrack_1 : decode cL_retrack 1 = .ok (.iconst 0, 1) := by decide +kernel
theorem dL_retrack_2 : decode cL_retrack 2 = .ok (.aload_n 0, 1) := by decide +kernel
theorem dL_retrack_3 : decode cL_retrack 3 = .ok (.invokevirtual 48, 3) := by decide +kernel
theorem dL_retrack_6 : decode cL_retrack 6 = .ok (.i2l, 1) := by decide +kernel
theorem dL_retrack_7 : decode cL_retrack 7 = .ok (.lastore, 1) := by decide +kernel
theorem dL_retrack_8 : decode cL_retrack 8 = .ok (.goto 6, 3) := by decide +kernel
theorem dL_retrack_11 : decode cL_retrack 11 = .ok (.astore_n 2, 1) := by decide +kernel
theorem dL_retrack_12 : decode cL_retrack 12 = .ok (.iconst 1, 1) := by decide +kernel
theorem dL_retrack_13 : decode cL_retrack 13 = .ok (.ireturn, 1) := by decide +kernel
theorem dL_retrack_14 : decode cL_retrack 14 = .ok (.iconst 0, 1) := by decide +kernel
theorem dL_retrack_15 : decode cL_retrack 15 = .ok (.ireturn, 1) := by decide +kernel
set_option maxRecDepth 20000 in
theorem ggL_manual_X2_manual : GoodIn wsL_manual wsX2_manual := goodIn_ca (goodIn_ca (goodIn_r _ [7, 8, 9, 10, 11, 12, 13, 6, 14, 15, 16, 17, 18, 19, 20, 21, 22, 23, 24, 25, 26, 27, 28, 29, 30, 31, 32, 33, 34, 35, 36, 37, 38, 39, 40, 41, 42, 43, 44, 45, 46, 47, 48, 49, 50, 51, 52, 53, 54, 55, 56, 57, 58, 59, 60, 61] (by decide +kernel) (by decide +kernel)) (goodIn_sub (fun _ h => List.mem_cons_of_mem _ (List.mem_append_left _ (List.mem_append_right _ h))) (by decide +kernel))) (goodIn_sub (fun _ h => List.mem_cons_of_mem _ (List.mem_append_right _ h)) (by decide +kernel))
set_option maxRecDepth 20000 in
theorem gL_manual_X2_manual : GoodIn wsL_manual (wsV RL 52 RX2 yX2_manual wsX2_manual) := goodIn_app (goodIn_of _ (by decide +kernel)) ggL_manual_X2_manual
theorem dL_manual_0 : decode cL_manual 0 = .ok (.aload_n 3, 1) := by decide +kernel
theorem dL_manual_1 : decode cL_manual 1 = .ok (.iconst 0, 1) := by decide +kernel
theorem dL_manual_2 : decode cL_manual 2 = .ok (.aload_n 0, 1) := by decide +kernel
theorem dL_manual_3 : decode cL_manual 3 = .ok (.iload_n 1, 1) := by decide +kernel
theorem dL_manual_4 : decode cL_manual 4 = .ok (.iload_n 2, 1) := by decide +kernel
theorem dL_manual_5 : decode cL_manual 5 = .ok (.invokevirtual 52, 3) := by decide +kernel
theorem dL_manual_8 : decode cL_manual 8 = .ok (.ifCond .eq 7, 3) := by decide +kernel
theorem dL_manual_11 : decode cL_manual 11 = .ok (.lconst 1, 1) := by decide +kernel
theorem dL_manual_12 : decode cL_manual 12 = .ok (.goto 4, 3) := by decide +kernel
theorem dL_manual_15 : decode cL_manual 15 = .ok (.lconst 0, 1) := by decide +kernel
theorem dL_manual_16 : decode cL_manual 16 = .ok (.lastore, 1) := by decide +kernel
theorem dL_manual_17 : decode cL_manual 17 = .ok (.goto 11, 3) := by decide +kernel
theorem dL_manual_20 : decode cL_manual 20 = .ok (.astore 4, 2) := by decide +kernel
theorem dL_manual_22 : decode cL_manual 22 = .ok (.iconst 1, 1) := by decide +kernel
theorem dL_manual_23 : decode cL_manual 23 = .ok (.ireturn, 1) := by decide +kernel
theorem dL_manual_24 : decode cL_manual 24 = .ok (.astore 4, 2) := by decide +kernel
theorem dL_manual_26 : decode cL_manual 26 = .ok (.iconst 2, 1) := by decide +kernel
theorem dL_manual_27 : decode cL_manual 27 = .ok (.ireturn, 1) := by decide +kernel
theorem dL_manual_28 : decode cL_manual 28 = .ok (.iconst 0, 1) := by decide +kernel
theorem dL_manual_29 : decode cL_manual 29 = .ok (.ireturn, 1) := by decide +kernel
set_option maxRecDepth 20000 in
theorem ggL_tray_X2_tray : GoodIn wsL_tray wsX2_tray := goodIn_r _ [5, 6, 7, 8, 9, 10, 11, 12, 13, 4, 14, 15, 16, 17, 18, 19, 20, 21, 22, 23, 24, 25, 26, 27, 28, 29, 30, 31, 32, 33, 34, 35, 36, 37, 38, 39, 40, 41, 42] (by decide +kernel) (by decide +kernel)
set_option maxRecDepth 20000 in
theorem gL_tray_X2_tray : GoodIn wsL_tray (wsV RL 56 RX2 yX2_tray wsX2_tray) := goodIn_app (goodIn_of _ (by decide +kernel)) ggL_tray_X2_tray
theorem dL_tray_0 : decode cL_tray 0 = .ok (.aload_n 2, 1) := by decide +kernel
theorem dL_tray_1 : decode cL_tray 1 = .ok (.iconst 0, 1) := by decide +kernel
theorem dL_tray_2 : decode cL_tray 2 = .ok (.aload_n 0, 1) := by decide +kernel
theorem dL_tray_3 : decode cL_tray 3 = .ok (.iload_n 1, 1) := by decide +kernel
theorem dL_tray_4 : decode cL_tray 4 = .ok (.invokevirtual 56, 3) := by decide +kernel
theorem dL_tray_7 : decode cL_tray 7 = .ok (.i2l, 1) := by decide +kernel
theorem dL_tray_8 : decode cL_tray 8 = .ok (.lastore, 1) := by decide +kernel
theorem dL_tray_9 : decode cL_tray 9 = .ok (.goto 6, 3) := by decide +kernel
theorem dL_tray_12 : decode cL_tray 12 = .ok (.astore_n 3, 1) := by decide +kernel
theorem dL_tray_13 : decode cL_tray 13 = .ok (.iconst 1, 1) := by decide +kernel
theorem dL_tray_14 : decode cL_tray 14 = .ok (.ireturn, 1) := by decide +kernel
theorem dL_tray_15 : decode cL_tray 15 = .ok (.iconst 0, 1) := by decide +kernel
theorem dL_tray_16 : decode cL_tray 16 = .ok (.ireturn, 1) := by decide +kernel
set_option maxRecDepth 20000 in
theorem ggL_told_X2_told : GoodIn wsL_told wsX2_told := goodIn_ca (goodIn_r _ [6, 7, 8, 9, 10, 11, 12, 13, 14, 15, 16, 17, 5, 18, 19, 20, 21, 22, 23, 24, 25, 26, 27, 28, 29, 30, 31, 32, 33, 34, 35, 36, 37, 38, 39, 40, 41, 42, 43, 44, 45, 46, 47, 48, 49, 50, 51, 52, 53, 54, 55, 56, 57, 58, 59, 60] (by decide +kernel) (by decide +kernel)) (goodIn_sub (fun _ h => List.mem_cons_of_mem _ (List.mem_append_right _ h)) (by decide +kernel))
set_option maxRecDepth 20000 in
theorem gL_told_X2_told : GoodIn wsL_told (wsV RL 61 RX2 yX2_told wsX2_told) := goodIn_app (goodIn_of _ (by decide +kernel)) ggL_told_X2_told
theorem dL_told_0 : decode cL_told 0 = .ok (.aload_n 3, 1) := by decide +kernel
theorem dL_told_1 : decode cL_told 1 = .ok (.iconst 0, 1) := by decide +kernel
theorem dL_told_2 : decode cL_told 2 = .ok (.aload_n 0, 1) := by decide +kernel
theorem dL_told_3 : decode cL_told 3 = .ok (.iload_n 1, 1) := by decide +kernel
theorem dL_told_4 : decode cL_told 4 = .ok (.iload_n 2, 1) := by decide +kernel
theorem dL_told_5 : decode cL_told 5 = .ok (.invokevirtual 61, 3) := by decide +kernel
theorem dL_told_8 : decode cL_told 8 = .ok (.i2l, 1) := by decide +kernel
theorem dL_told_9 : decode cL_told 9 = .ok (.lastore, 1) := by decide +kernel
theorem dL_told_10 : decode cL_told 10 = .ok (.goto 7, 3) := by decide +kernel
theorem dL_told_13 : decode cL_told 13 = .ok (.astore 4, 2) := by decide +kernel
theorem dL_told_15 : decode cL_told 15 = .ok (.iconst 1, 1) := by decide +kernel
theorem dL_told_16 : decode cL_told 16 = .ok (.ireturn, 1) := by decide +kernel
theorem dL_told_17 : decode cL_told 17 = .ok (.iconst 0, 1) := by decide +kernel
theorem dL_told_18 : decode cL_told 18 = .ok (.ireturn, 1) := by decide +kernel
set_option maxRecDepth 20000 in
theorem ggL_law_L_cell : GoodIn wsL_law wsL_cell := goodIn_r _ [10] (by decide +kernel) (by decide +kernel)
set_option maxRecDepth 20000 in
theorem gL_law_L_cell : GoodIn wsL_law (va_wsS RL 64 yL_cell wsL_cell) := goodIn_app (goodIn_of _ (by decide +kernel)) ggL_law_L_cell
set_option maxRecDepth 20000 in
theorem ggL_law_X2_init : GoodIn wsL_law wsX2_init := goodIn_r _ [13, 14, 15, 16, 17, 18, 19, 20, 21, 22, 23, 24, 25, 26, 27, 28, 29, 30, 31, 32, 33, 34, 35, 36, 37, 38, 39, 40, 41, 42, 462, 463, 429, 430, 431, 432, 433, 434, 435, 436, 437, 438] (by decide +kernel) (by decide +kernel)
set_option maxRecDepth 20000 in
theorem gL_law_X2_init : GoodIn wsL_law (wsX2_init) := ggL_law_X2_init
set_option maxRecDepth 20000 in
theorem ggL_law_X3_init : GoodIn wsL_law wsX3_init := goodIn_r _ [45, 46, 15, 16, 47, 48, 49, 33, 50, 51, 52, 53, 54, 55, 56, 57, 58, 59, 60, 61, 62, 63, 64, 439, 440, 441, 442, 443, 444, 445, 446, 447, 448, 449, 450, 451, 452, 453, 454, 455, 456, 457, 458, 459, 460, 461] (by decide +kernel) (by decide +kernel)
set_option maxRecDepth 20000 in
theorem gL_law_X3_init : GoodIn wsL_law (wsX3_init) := ggL_law_X3_init
set_option maxRecDepth 20000 in
theorem ggL_law_L_item : GoodIn wsL_law wsL_item := goodIn_ca (goodIn_ca (goodIn_r _ [67, 68, 69, 70, 71, 72, 2, 73, 74, 75, 20, 31, 76, 77, 78, 79, 80, 81, 82, 83, 84, 85, 86, 87, 19, 88, 89, 42, 90, 91, 92, 93, 94, 95, 96, 97, 15, 16, 98, 99, 100, 101, 102, 103, 104, 105, 106, 107, 429, 430, 431, 432, 433, 434, 435, 436, 437, 438, 464, 465, 466, 467, 468, 469, 470, 471, 472, 473, 474, 475, 462, 463] (by decide +kernel) (by decide +kernel)) (goodIn_sub (fun _ h => List.mem_append_left _ (List.mem_append_left _ (List.mem_append_right _ h))) (by decide +kernel))) (goodIn_sub (fun _ h => List.mem_append_left _ (List.mem_append_right _ h)) (by decide +kernel))
set_option maxRecDepth 20000 in
theorem gL_law_L_item : GoodIn wsL_law (va_wsS RL 76 yL_item wsL_item) := goodIn_app (goodIn_of _ (by decide +kernel)) ggL_law_L_item
set_option maxRecDepth 20000 in
theorem ggL_law_X3_item : GoodIn wsL_law wsX3_item := goodIn_r _ [111, 112, 113, 51, 114, 115, 5, 116, 439, 440, 441, 442, 443, 444, 445, 446, 447, 448, 449, 450, 451, 452, 453, 454, 455, 456, 457, 458, 459, 460, 461] (by decide +kernel) (by decide +kernel)
set_option maxRecDepth 20000 in
theorem gL_law_X3_item : GoodIn wsL_law (wsV RL 79 RX3 yX3_item wsX3_item) := goodIn_app (goodIn_of _ (by decide +kernel)) ggL_law_X3_item
set_option maxRecDepth 20000 in
theorem ggL_law_X3_thrown : GoodIn wsL_law wsX3_thrown := goodIn_r _ [120, 113, 439, 440, 441, 442, 443, 444, 445, 446, 447, 448, 449, 450, 451, 452, 453, 454, 455, 456, 457, 458, 459, 460, 461] (by decide +kernel) (by decide +kernel)
set_option maxRecDepth 20000 in
theorem gL_law_X3_thrown : GoodIn wsL_law (wsV RL 80 RX3 yX3_thrown wsX3_thrown) := goodIn_app (goodIn_of _ (by decide +kernel)) ggL_law_X3_thrown
set_option maxRecDepth 20000 in
theorem ggL_law_L_induct : GoodIn wsL_law wsL_induct := goodIn_ca (goodIn_ca (goodIn_r _ [123, 68, 124, 125, 126, 127, 2, 128, 83, 84, 129, 130, 131, 132, 133, 134, 135, 136, 20, 137, 138, 139, 19, 140, 89, 42, 141, 142, 143, 144, 145, 146, 147, 148, 34, 149, 150, 151, 152, 153, 154, 155, 156, 157, 158, 159, 23, 160, 161, 162, 163, 32, 164, 165, 166, 167, 168, 169, 170, 171, 172, 173, 174, 175, 176, 177, 178, 179, 180, 464, 465, 466, 467, 468, 469, 470, 471, 472, 473, 474, 475, 429, 430, 431, 432, 433, 434, 435, 436, 437, 438, 462, 463] (by decide +kernel) (by decide +kernel)) (goodIn_sub (fun _ h => List.mem_append_left _ (List.mem_append_right _ h)) (by decide +kernel))) (goodIn_sub (fun _ h => List.mem_append_right _ h) (by decide +kernel))
set_option maxRecDepth 20000 in
theorem gL_law_L_induct : GoodIn wsL_law (va_wsS RL 83 yL_induct wsL_induct) := goodIn_app (goodIn_of _ (by decide +kernel)) ggL_law_L_induct
set_option maxRecDepth 20000 in
theorem ggL_law_X3_induct : GoodIn wsL_law wsX3_induct := goodIn_r _ [184, 113, 52, 49, 185, 51, 47, 53, 186, 187, 188, 5, 189, 112, 114, 115, 116, 190, 191, 192, 193, 194, 195, 196, 197, 198, 199, 200, 201, 63, 202, 203, 204, 205, 206, 439, 440, 441, 442, 443, 444, 445, 446, 447, 448, 449, 450, 451, 452, 453, 454, 455, 456, 457, 458, 459, 460, 461] (by decide +kernel) (by decide +kernel)
set_option maxRecDepth 20000 in
theorem gL_law_X3_induct : GoodIn wsL_law (wsV RL 86 RX3 yX3_induct wsX3_induct) := goodIn_app (goodIn_of _ (by decide +kernel)) ggL_law_X3_induct
set_option maxRecDepth 20000 in
theorem ggL_law_L_length : GoodIn wsL_law wsL_length := goodIn_ca (goodIn_r _ [209, 68, 210, 211, 212, 2, 213, 23, 32, 159, 79, 80, 81, 82, 83, 84, 429, 430, 431, 432, 433, 434, 435, 436, 437, 438, 464, 465, 466, 467, 468, 469, 470, 471, 472, 473, 474, 475] (by decide +kernel) (by decide +kernel)) (goodIn_sub (fun _ h => List.mem_append_left _ (List.mem_append_right _ h)) (by decide +kernel))
set_option maxRecDepth 20000 in
theorem gL_law_L_length : GoodIn wsL_law (va_wsS RL 87 yL_length wsL_length) := goodIn_app (goodIn_of _ (by decide +kernel)) ggL_law_L_length
set_option maxRecDepth 20000 in
theorem ggL_law_X3_length : GoodIn wsL_law wsX3_length := goodIn_r _ [217, 113, 47, 63, 49, 51, 114, 115, 5, 116, 439, 440, 441, 442, 443, 444, 445, 446, 447, 448, 449, 450, 451, 452, 453, 454, 455, 456, 457, 458, 459, 460, 461] (by decide +kernel) (by decide +kernel)
set_option maxRecDepth 20000 in
theorem gL_law_X3_length : GoodIn wsL_law (wsV RL 89 RX3 yX3_length wsX3_length) := goodIn_app (goodIn_of _ (by decide +kernel)) ggL_law_X3_length
set_option maxRecDepth 20000 in
theorem ggL_law_L_retry : GoodIn wsL_law wsL_retry := goodIn_ca (goodIn_ca (goodIn_r _ [220, 68, 124, 221, 222, 223, 2, 224, 83, 84, 129, 130, 158, 131, 225, 226, 133, 134, 135, 136, 20, 137, 138, 139, 19, 140, 89, 42, 141, 142, 143, 144, 145, 146, 147, 148, 34, 464, 465, 466, 467, 468, 469, 470, 471, 472, 473, 474, 475, 429, 430, 431, 432, 433, 434, 435, 436, 437, 438, 462, 463] (by decide +kernel) (by decide +kernel)) (goodIn_sub (fun _ h => List.mem_append_left _ (List.mem_append_right _ h)) (by decide +kernel))) (goodIn_sub (fun _ h => List.mem_append_right _ h) (by decide +kernel))
set_option maxRecDepth 20000 in
theorem gL_law_L_retry : GoodIn wsL_law (va_wsS RL 90 yL_retry wsL_retry) := goodIn_app (goodIn_of _ (by decide +kernel)) ggL_law_L_retry
set_option maxRecDepth 20000 in
theorem ggL_law_X3_retry : GoodIn wsL_law wsX3_retry := goodIn_r _ [230, 113, 52, 53, 55, 56, 186, 187, 188, 5, 189, 112, 114, 115, 116, 190, 191, 192, 193, 194, 195, 196, 197, 198, 199, 200, 201, 63, 439, 440, 441, 442, 443, 444, 445, 446, 447, 448, 449, 450, 451, 452, 453, 454, 455, 456, 457, 458, 459, 460, 461] (by decide +kernel) (by decide +kernel)
set_option maxRecDepth 20000 in
theorem gL_law_X3_retry : GoodIn wsL_law (wsV RL 93 RX3 yX3_retry wsX3_retry) := goodIn_app (goodIn_of _ (by decide +kernel)) ggL_law_X3_retry
set_option maxRecDepth 20000 in
theorem ggL_law_L_step : GoodIn wsL_law wsL_step := goodIn_ca (goodIn_ca (goodIn_r _ [233, 68, 124, 234, 235, 236, 2, 237, 83, 84, 21, 149, 150, 151, 152, 129, 130, 153, 90, 91, 92, 19, 93, 89, 238, 239, 240, 241, 242, 168, 34, 169, 170, 171, 172, 32, 243, 244, 245, 246, 131, 247, 35, 160, 161, 162, 163, 164, 165, 166, 167, 173, 174, 175, 176, 248, 249, 250, 251, 145, 146, 147, 148, 252, 253, 254, 255, 132, 158, 256, 257, 103, 104, 105, 106, 42, 107, 86, 87, 88, 258, 259, 260, 261, 225, 226, 429, 430, 431, 432, 433, 434, 435, 436, 437, 438, 462, 463, 464, 465, 466, 467, 468, 469, 470, 471, 472, 473, 474, 475] (by decide +kernel) (by decide +kernel)) (goodIn_sub (fun _ h => List.mem_append_left _ (List.mem_append_right _ h)) (by decide +kernel))) (goodIn_sub (fun _ h => List.mem_append_right _ h) (by decide +kernel))
set_option maxRecDepth 20000 in
theorem gL_law_L_step : GoodIn wsL_law (va_wsS RL 94 yL_step wsL_step) := goodIn_app (goodIn_of _ (by decide +kernel)) ggL_law_L_step
set_option maxRecDepth 20000 in
theorem ggL_law_X3_step : GoodIn wsL_law wsX3_step := goodIn_r _ [265, 185, 113, 266, 206, 114, 115, 5, 116, 198, 199, 200, 201, 63, 267, 268, 269, 270, 49, 53, 50, 54, 64, 202, 203, 204, 205, 271, 272, 273, 274, 52, 57, 58, 59, 60, 275, 276, 277, 278, 55, 56, 439, 440, 441, 442, 443, 444, 445, 446, 447, 448, 449, 450, 451, 452, 453, 454, 455, 456, 457, 458, 459, 460, 461] (by decide +kernel) (by decide +kernel)
set_option maxRecDepth 20000 in
theorem gL_law_X3_step : GoodIn wsL_law (wsV RL 96 RX3 yX3_step wsX3_step) := goodIn_app (goodIn_of _ (by decide +kernel)) ggL_law_X3_step
set_option maxRecDepth 20000 in
theorem ggL_law_L_out : GoodIn wsL_law wsL_out := goodIn_ca (goodIn_r _ [281, 68, 282, 283, 284, 2, 285, 83, 84, 21, 78, 256, 257, 247, 137, 138, 139, 19, 140, 89, 42, 429, 430, 431, 432, 433, 434, 435, 436, 437, 438, 464, 465, 466, 467, 468, 469, 470, 471, 472, 473, 474, 475, 462, 463] (by decide +kernel) (by decide +kernel)) (goodIn_sub (fun _ h => List.mem_append_left _ (List.mem_append_right _ h)) (by decide +kernel))
set_option maxRecDepth 20000 in
theorem gL_law_L_out : GoodIn wsL_law (va_wsS RL 97 yL_out wsL_out) := goodIn_app (goodIn_of _ (by decide +kernel)) ggL_law_L_out
set_option maxRecDepth 20000 in
theorem ggL_law_X3_out : GoodIn wsL_law wsX3_out := goodIn_r _ [289, 266, 113, 57, 58, 59, 60, 114, 115, 5, 116, 439, 440, 441, 442, 443, 444, 445, 446, 447, 448, 449, 450, 451, 452, 453, 454, 455, 456, 457, 458, 459, 460, 461] (by decide +kernel) (by decide +kernel)
set_option maxRecDepth 20000 in
theorem gL_law_X3_out : GoodIn wsL_law (wsV RL 100 RX3 yX3_out wsX3_out) := goodIn_app (goodIn_of _ (by decide +kernel)) ggL_law_X3_out
set_option maxRecDepth 20000 in
theorem ggL_law_L_chute : GoodIn wsL_law wsL_chute := goodIn_ca (goodIn_r _ [292, 68, 293, 294, 295, 2, 296, 297, 298, 299, 300, 83, 84, 145, 146, 147, 148, 34, 248, 249, 250, 251, 301, 302, 303, 304, 429, 430, 431, 432, 433, 434, 435, 436, 437, 438] (by decide +kernel) (by decide +kernel)) (goodIn_sub (fun _ h => List.mem_append_left _ (List.mem_append_right _ h)) (by decide +kernel))
set_option maxRecDepth 20000 in
theorem gL_law_L_chute : GoodIn wsL_law (va_wsS RL 101 yL_chute wsL_chute) := goodIn_app (goodIn_of _ (by decide +kernel)) ggL_law_L_chute
set_option maxRecDepth 20000 in
theorem ggL_law_X3_chute : GoodIn wsL_law wsX3_chute := goodIn_r _ [308, 113, 50, 194, 195, 196, 5, 197, 198, 199, 200, 201, 63, 114, 115, 116, 439, 440, 441, 442, 443, 444, 445, 446, 447, 448, 449, 450, 451, 452, 453, 454, 455, 456, 457, 458, 459, 460, 461] (by decide +kernel) (by decide +kernel)
set_option maxRecDepth 20000 in
theorem gL_law_X3_chute : GoodIn wsL_law (wsV RL 104 RX3 yX3_chute wsX3_chute) := goodIn_app (goodIn_of _ (by decide +kernel)) ggL_law_X3_chute
set_option maxRecDepth 20000 in
theorem ggL_law_L_jam : GoodIn wsL_law wsL_jam := goodIn_ca (goodIn_ca (goodIn_r _ [311, 68, 124, 312, 313, 314, 2, 315, 83, 84, 153, 22, 173, 174, 175, 176, 32, 149, 150, 151, 152, 129, 130, 169, 170, 171, 172, 316, 317, 318, 319, 320, 321, 160, 161, 162, 163, 164, 165, 166, 167, 168, 103, 104, 105, 19, 106, 42, 89, 107, 86, 87, 88, 90, 91, 92, 93, 429, 430, 431, 432, 433, 434, 435, 436, 437, 438, 464, 465, 466, 467, 468, 469, 470, 471, 472, 473, 474, 475, 462, 463] (by decide +kernel) (by decide +kernel)) (goodIn_sub (fun _ h => List.mem_append_left _ (List.mem_append_right _ h)) (by decide +kernel))) (goodIn_sub (fun _ h => List.mem_append_right _ h) (by decide +kernel))
set_option maxRecDepth 20000 in
theorem gL_law_L_jam : GoodIn wsL_law (va_wsS RL 105 yL_jam wsL_jam) := goodIn_app (goodIn_of _ (by decide +kernel)) ggL_law_L_jam
set_option maxRecDepth 20000 in
theorem ggL_law_X3_jam : GoodIn wsL_law wsX3_jam := goodIn_r _ [325, 63, 185, 113, 326, 49, 61, 62, 114, 115, 5, 116, 202, 203, 204, 205, 206, 439, 440, 441, 442, 443, 444, 445, 446, 447, 448, 449, 450, 451, 452, 453, 454, 455, 456, 457, 458, 459, 460, 461] (by decide +kernel) (by decide +kernel)
set_option maxRecDepth 20000 in
theorem gL_law_X3_jam : GoodIn wsL_law (wsV RL 107 RX3 yX3_jam wsX3_jam) := goodIn_app (goodIn_of _ (by decide +kernel)) ggL_law_X3_jam
set_option maxRecDepth 20000 in
theorem ggL_law_X2_doubt : GoodIn wsL_law wsX2_doubt := goodIn_r _ [330, 22, 78, 137, 138, 139, 19, 140, 89, 42, 429, 430, 431, 432, 433, 434, 435, 436, 437, 438, 464, 465, 466, 467, 468, 469, 470, 471, 472, 473, 474, 475, 462, 463] (by decide +kernel) (by decide +kernel)
set_option maxRecDepth 20000 in
theorem gL_law_X2_doubt : GoodIn wsL_law (wsV RL 108 RX2 yX2_doubt wsX2_doubt) := goodIn_app (goodIn_of _ (by decide +kernel)) ggL_law_X2_doubt
set_option maxRecDepth 20000 in
theorem ggL_law_X3_doubt : GoodIn wsL_law wsX3_doubt := goodIn_r _ [334, 113, 326, 61, 114, 115, 5, 116, 439, 440, 441, 442, 443, 444, 445, 446, 447, 448, 449, 450, 451, 452, 453, 454, 455, 456, 457, 458, 459, 460, 461] (by decide +kernel) (by decide +kernel)
set_option maxRecDepth 20000 in
theorem gL_law_X3_doubt : GoodIn wsL_law (wsV RL 111 RX3 yX3_doubt wsX3_doubt) := goodIn_app (goodIn_of _ (by decide +kernel)) ggL_law_X3_doubt
set_option maxRecDepth 20000 in
theorem ggL_law_L_found : GoodIn wsL_law wsL_found := goodIn_ca (goodIn_ca (goodIn_r _ [337, 68, 124, 338, 339, 340, 2, 341, 129, 130, 320, 321, 133, 134, 135, 136, 83, 84, 20, 137, 138, 139, 19, 140, 89, 42, 342, 343, 344, 345, 22, 90, 91, 92, 93, 464, 465, 466, 467, 468, 469, 470, 471, 472, 473, 474, 475, 429, 430, 431, 432, 433, 434, 435, 436, 437, 438, 462, 463] (by decide +kernel) (by decide +kernel)) (goodIn_sub (fun _ h => List.mem_append_right _ h) (by decide +kernel))) (goodIn_sub (fun _ h => List.mem_append_left _ (List.mem_append_right _ h)) (by decide +kernel))
set_option maxRecDepth 20000 in
theorem gL_law_L_found : GoodIn wsL_law (va_wsS RL 112 yL_found wsL_found) := goodIn_app (goodIn_of _ (by decide +kernel)) ggL_law_L_found
set_option maxRecDepth 20000 in
theorem ggL_law_X3_found : GoodIn wsL_law wsX3_found := goodIn_r _ [349, 113, 326, 61, 62, 186, 187, 188, 5, 189, 112, 114, 115, 116, 439, 440, 441, 442, 443, 444, 445, 446, 447, 448, 449, 450, 451, 452, 453, 454, 455, 456, 457, 458, 459, 460, 461] (by decide +kernel) (by decide +kernel)
set_option maxRecDepth 20000 in
theorem gL_law_X3_found : GoodIn wsL_law (wsV RL 114 RX3 yX3_found wsX3_found) := goodIn_app (goodIn_of _ (by decide +kernel)) ggL_law_X3_found
set_option maxRecDepth 20000 in
theorem ggL_law_L_retrack : GoodIn wsL_law wsL_retrack := goodIn_ca (goodIn_r _ [352, 124, 353, 354, 355, 2, 356, 129, 130, 153, 21, 22, 90, 91, 92, 19, 93, 89, 137, 138, 139, 140, 42, 357, 358, 359, 360, 320, 321, 252, 253, 254, 255, 132, 32, 158, 256, 242, 257, 173, 174, 175, 176, 103, 104, 105, 106, 107, 86, 87, 88, 361, 362, 363, 364, 429, 430, 431, 432, 433, 434, 435, 436, 437, 438, 462, 463, 464, 465, 466, 467, 468, 469, 470, 471, 472, 473, 474, 475] (by decide +kernel) (by decide +kernel)) (goodIn_sub (fun _ h => List.mem_append_right _ h) (by decide +kernel))
set_option maxRecDepth 20000 in
theorem gL_law_L_retrack : GoodIn wsL_law (va_wsS RL 115 yL_retrack wsL_retrack) := goodIn_app (goodIn_of _ (by decide +kernel)) ggL_law_L_retrack
set_option maxRecDepth 20000 in
theorem ggL_law_X3_retrack : GoodIn wsL_law wsX3_retrack := goodIn_r _ [368, 185, 113, 266, 326, 62, 61, 369, 370, 371, 5, 372, 63, 49, 271, 272, 273, 274, 52, 57, 58, 59, 206, 60, 54, 439, 440, 441, 442, 443, 444, 445, 446, 447, 448, 449, 450, 451, 452, 453, 454, 455, 456, 457, 458, 459, 460, 461] (by decide +kernel) (by decide +kernel)
set_option maxRecDepth 20000 in
theorem gL_law_X3_retrack : GoodIn wsL_law (wsV RL 118 RX3 yX3_retrack wsX3_retrack) := goodIn_app (goodIn_of _ (by decide +kernel)) ggL_law_X3_retrack
set_option maxRecDepth 20000 in
theorem ggL_law_L_manual : GoodIn wsL_law wsL_manual := goodIn_ca (goodIn_ca (goodIn_r _ [375, 68, 124, 376, 377, 378, 2, 379, 129, 130, 158, 133, 134, 135, 136, 83, 84, 20, 137, 138, 139, 19, 140, 89, 42, 297, 298, 299, 300, 145, 146, 147, 148, 34, 248, 249, 250, 251, 464, 465, 466, 467, 468, 469, 470, 471, 472, 473, 474, 475, 429, 430, 431, 432, 433, 434, 435, 436, 437, 438, 462, 463] (by decide +kernel) (by decide +kernel)) (goodIn_sub (fun _ h => List.mem_append_right _ h) (by decide +kernel))) (goodIn_sub (fun _ h => List.mem_append_left _ (List.mem_append_right _ h)) (by decide +kernel))
set_option maxRecDepth 20000 in
theorem gL_law_L_manual : GoodIn wsL_law (va_wsS RL 119 yL_manual wsL_manual) := goodIn_app (goodIn_of _ (by decide +kernel)) ggL_law_L_manual
set_option maxRecDepth 20000 in
theorem ggL_law_X3_manual : GoodIn wsL_law wsX3_manual := goodIn_r _ [383, 113, 52, 50, 186, 187, 188, 5, 189, 112, 114, 115, 116, 194, 195, 196, 197, 198, 199, 200, 201, 63, 439, 440, 441, 442, 443, 444, 445, 446, 447, 448, 449, 450, 451, 452, 453, 454, 455, 456, 457, 458, 459, 460, 461] (by decide +kernel) (by decide +kernel)
set_option maxRecDepth 20000 in
theorem gL_law_X3_manual : GoodIn wsL_law (wsV RL 121 RX3 yX3_manual wsX3_manual) := goodIn_app (goodIn_of _ (by decide +kernel)) ggL_law_X3_manual
set_option maxRecDepth 20000 in
theorem ggL_law_L_tray : GoodIn wsL_law wsL_tray := goodIn_r _ [386, 387, 388, 389, 2, 390, 391, 392, 393, 32, 78, 173, 174, 175, 176, 476, 477, 478, 479, 480, 481, 429, 430, 431, 432, 433, 434, 435, 436, 437, 438, 464, 465, 466, 467, 468, 469, 470, 471, 472, 473, 474, 475] (by decide +kernel) (by decide +kernel)
set_option maxRecDepth 20000 in
theorem gL_law_L_tray : GoodIn wsL_law (va_wsS RL 122 yL_tray wsL_tray) := goodIn_app (goodIn_of _ (by decide +kernel)) ggL_law_L_tray
set_option maxRecDepth 20000 in
theorem ggL_law_X3_tray : GoodIn wsL_law wsX3_tray := goodIn_r _ [397, 63, 113, 49, 114, 115, 5, 116, 439, 440, 441, 442, 443, 444, 445, 446, 447, 448, 449, 450, 451, 452, 453, 454, 455, 456, 457, 458, 459, 460, 461] (by decide +kernel) (by decide +kernel)
set_option maxRecDepth 20000 in
theorem gL_law_X3_tray : GoodIn wsL_law (wsV RL 124 RX3 yX3_tray wsX3_tray) := goodIn_app (goodIn_of _ (by decide +kernel)) ggL_law_X3_tray
set_option maxRecDepth 20000 in
theorem ggL_law_L_told : GoodIn wsL_law wsL_told := goodIn_ca (goodIn_r _ [400, 68, 401, 402, 403, 2, 404, 83, 84, 158, 131, 247, 159, 132, 225, 133, 134, 135, 136, 20, 137, 138, 139, 19, 140, 89, 42, 405, 406, 407, 408, 168, 169, 170, 171, 172, 32, 464, 465, 466, 467, 468, 469, 470, 471, 472, 473, 474, 475, 429, 430, 431, 432, 433, 434, 435, 436, 437, 438, 462, 463] (by decide +kernel) (by decide +kernel)) (goodIn_sub (fun _ h => List.mem_append_left _ (List.mem_append_right _ h)) (by decide +kernel))
set_option maxRecDepth 20000 in
theorem gL_law_L_told : GoodIn wsL_law (va_wsS RL 125 yL_told wsL_told) := goodIn_app (goodIn_of _ (by decide +kernel)) ggL_law_L_told
set_option maxRecDepth 20000 in
theorem ggL_law_X3_told : GoodIn wsL_law wsX3_told := goodIn_r _ [412, 113, 52, 53, 54, 51, 55, 206, 63, 186, 187, 188, 5, 189, 112, 114, 115, 116, 369, 370, 371, 372, 49, 439, 440, 441, 442, 443, 444, 445, 446, 447, 448, 449, 450, 451, 452, 453, 454, 455, 456, 457, 458, 459, 460, 461] (by decide +kernel) (by decide +kernel)
set_option maxRecDepth 20000 in
theorem gL_law_X3_told : GoodIn wsL_law (wsV RL 127 RX3 yX3_told wsX3_told) := goodIn_app (goodIn_of _ (by decide +kernel)) ggL_law_X3_told
set_option maxRecDepth 20000 in
theorem ggL_law_X2_count : GoodIn wsL_law wsX2_count := goodIn_r _ [416, 32, 20, 242, 34, 153, 90, 91, 92, 19, 93, 89, 417, 418, 419, 2, 420, 421, 422, 423, 424, 158, 137, 138, 139, 140, 42, 429, 430, 431, 432, 433, 434, 435, 436, 437, 438, 462, 463, 464, 465, 466, 467, 468, 469, 470, 471, 472, 473, 474, 475] (by decide +kernel) (by decide +kernel)
set_option maxRecDepth 20000 in
theorem gL_law_X2_count : GoodIn wsL_law (wsV RL 128 RX2 yX2_count wsX2_count) := goodIn_app (goodIn_of _ (by decide +kernel)) ggL_law_X2_count
set_option maxRecDepth 20000 in
theorem ggL_law_X3_count : GoodIn wsL_law wsX3_count := goodIn_r _ [428, 113, 63, 112, 206, 185, 49, 52, 198, 199, 200, 5, 201, 439, 440, 441, 442, 443, 444, 445, 446, 447, 448, 449, 450, 451, 452, 453, 454, 455, 456, 457, 458, 459, 460, 461] (by decide +kernel) (by decide +kernel)
set_option maxRecDepth 20000 in
theorem gL_law_X3_count : GoodIn wsL_law (wsV RL 131 RX3 yX3_count wsX3_count) := goodIn_app (goodIn_of _ (by decide +kernel)) ggL_law_X3_count
theorem dL_law_0 : decode cL_law 0 = .ok (.new 8, 3) := by decide +kernel
theorem dL_law_3 : decode cL_law 3 = .ok (.dup, 1) := by decide +kernel
theorem dL_law_4 : decode cL_law 4 = .ok (.aload_n 0, 1) := by decide +kernel
theorem dL_law_5 : decode cL_law 5 = .ok (.iconst 0, 1) := by decide +kernel
theorem dL_law_6 : decode cL_law 6 = .ok (.invokestatic 64, 3) := by decide +kernel
theorem dL_law_9 : decode cL_law 9 = .ok (.aload_n 0, 1) := by decide +kernel
theorem dL_law_10 : decode cL_law 10 = .ok (.iconst 1, 1) := by decide +kernel
theorem dL_law_11 : decode cL_law 11 = .ok (.invokestatic 64, 3) := by decide +kernel
theorem dL_law_14 : decode cL_law 14 = .ok (.invokespecial 70, 3) := by decide +kernel
theorem dL_law_17 : decode cL_law 17 = .ok (.astore_n 1, 1) := by decide +kernel
theorem dL_law_18 : decode cL_law 18 = .ok (.new 73, 3) := by decide +kernel
theorem dL_law_21 : decode cL_law 21 = .ok (.dup, 1) := by decide +kernel
theorem dL_law_22 : decode cL_law 22 = .ok (.aload_n 0, 1) := by decide +kernel
theorem dL_law_23 : decode cL_law 23 = .ok (.iconst 0, 1) := by decide +kernel
theorem dL_law_24 : decode cL_law 24 = .ok (.invokestatic 64, 3) := by decide +kernel
theorem dL_law_27 : decode cL_law 27 = .ok (.aload_n 0, 1) := by decide +kernel
theorem dL_law_28 : decode cL_law 28 = .ok (.iconst 1, 1) := by decide +kernel
theorem dL_law_29 : decode cL_law 29 = .ok (.invokestatic 64, 3) := by decide +kernel
theorem dL_law_32 : decode cL_law 32 = .ok (.invokespecial 75, 3) := by decide +kernel
theorem dL_law_35 : decode cL_law 35 = .ok (.astore_n 2, 1) := by decide +kernel
theorem dL_law_36 : decode cL_law 36 = .ok (.iconst 1, 1) := by decide +kernel
theorem dL_law_37 : decode cL_law 37 = .ok (.newarray .long, 2) := by decide +kernel
theorem dL_law_39 : decode cL_law 39 = .ok (.astore_n 3, 1) := by decide +kernel
theorem dL_law_40 : decode cL_law 40 = .ok (.iconst 2, 1) := by decide +kernel
theorem dL_law_41 : decode cL_law 41 = .ok (.istore 4, 2) := by decide +kernel
theorem dL_law_43 : decode cL_law 43 = .ok (.iload 4, 2) := by decide +kernel
theorem dL_law_45 : decode cL_law 45 = .ok (.aload_n 0, 1) := by decide +kernel
theorem dL_law_46 : decode cL_law 46 = .ok (.arraylength, 1) := by decide +kernel
theorem dL_law_47 : decode cL_law 47 = .ok (.iconst 4, 1) := by decide +kernel
theorem dL_law_48 : decode cL_law 48 = .ok (.isub, 1) := by decide +kernel
theorem dL_law_49 : decode cL_law 49 = .ok (.if_icmp .gt 1001, 3) := by decide +kernel
theorem dL_law_52 : decode cL_law 52 = .ok (.aload_n 0, 1) := by decide +kernel
theorem dL_law_53 : decode cL_law 53 = .ok (.iload 4, 2) := by decide +kernel
theorem dL_law_55 : decode cL_law 55 = .ok (.iaload, 1) := by decide +kernel
theorem dL_law_56 : decode cL_law 56 = .ok (.bipush 15, 2) := by decide +kernel
theorem dL_law_58 : decode cL_law 58 = .ok (.iand, 1) := by decide +kernel
theorem dL_law_59 : decode cL_law 59 = .ok (.tableswitch 985 0 14 #[73, 129, 209, 265, 325, 381, 449, 540, 608, 633, 717, 761, 836, 892, 960], 73) := by decide +kernel
theorem dL_law_132 : decode cL_law 132 = .ok (.aload_n 1, 1) := by decide +kernel
theorem dL_law_133 : decode cL_law 133 = .ok (.aload_n 0, 1) := by decide +kernel
theorem dL_law_134 : decode cL_law 134 = .ok (.iload 4, 2) := by decide +kernel
theorem dL_law_136 : decode cL_law 136 = .ok (.iconst 1, 1) := by decide +kernel
theorem dL_law_137 : decode cL_law 137 = .ok (.iadd, 1) := by decide +kernel
theorem dL_law_138 : decode cL_law 138 = .ok (.iaload, 1) := by decide +kernel
theorem dL_law_139 : decode cL_law 139 = .ok (.aload_n 3, 1) := by decide +kernel
theorem dL_law_140 : decode cL_law 140 = .ok (.invokestatic 76, 3) := by decide +kernel
theorem dL_law_143 : decode cL_law 143 = .ok (.istore 5, 2) := by decide +kernel
theorem dL_law_145 : decode cL_law 145 = .ok (.aload_n 2, 1) := by decide +kernel
theorem dL_law_146 : decode cL_law 146 = .ok (.aload_n 0, 1) := by decide +kernel
theorem dL_law_147 : decode cL_law 147 = .ok (.iload 4, 2) := by decide +kernel
theorem dL_law_149 : decode cL_law 149 = .ok (.iconst 1, 1) := by decide +kernel
theorem dL_law_150 : decode cL_law 150 = .ok (.iadd, 1) := by decide +kernel
theorem dL_law_151 : decode cL_law 151 = .ok (.iaload, 1) := by decide +kernel
theorem dL_law_152 : decode cL_law 152 = .ok (.invokevirtual 79, 3) := by decide +kernel
theorem dL_law_155 : decode cL_law 155 = .ok (.istore 6, 2) := by decide +kernel
theorem dL_law_157 : decode cL_law 157 = .ok (.aload_n 2, 1) := by decide +kernel
theorem dL_law_158 : decode cL_law 158 = .ok (.invokevirtual 80, 3) := by decide +kernel
theorem dL_law_161 : decode cL_law 161 = .ok (.iload 5, 2) := by decide +kernel
theorem dL_law_163 : decode cL_law 163 = .ok (.if_icmp .eq 5, 3) := by decide +kernel
theorem dL_law_166 : decode cL_law 166 = .ok (.iconst 0, 1) := by decide +kernel
theorem dL_law_167 : decode cL_law 167 = .ok (.ireturn, 1) := by decide +kernel
theorem dL_law_168 : decode cL_law 168 = .ok (.iload 5, 2) := by decide +kernel
theorem dL_law_170 : decode cL_law 170 = .ok (.ifCond .ne 15, 3) := by decide +kernel
theorem dL_law_173 : decode cL_law 173 = .ok (.aload_n 3, 1) := by decide +kernel
theorem dL_law_174 : decode cL_law 174 = .ok (.iconst 0, 1) := by decide +kernel
theorem dL_law_175 : decode cL_law 175 = .ok (.laload, 1) := by decide +kernel
theorem dL_law_176 : decode cL_law 176 = .ok (.iload 6, 2) := by decide +kernel
theorem dL_law_178 : decode cL_law 178 = .ok (.i2l, 1) := by decide +kernel
theorem dL_law_179 : decode cL_law 179 = .ok (.lcmp, 1) := by decide +kernel
theorem dL_law_180 : decode cL_law 180 = .ok (.ifCond .eq 5, 3) := by decide +kernel
theorem dL_law_183 : decode cL_law 183 = .ok (.iconst 0, 1) := by decide +kernel
theorem dL_law_184 : decode cL_law 184 = .ok (.ireturn, 1) := by decide +kernel
theorem dL_law_185 : decode cL_law 185 = .ok (.goto 859, 3) := by decide +kernel
theorem dL_law_188 : decode cL_law 188 = .ok (.aload_n 1, 1) := by decide +kernel
theorem dL_law_189 : decode cL_law 189 = .ok (.aload_n 0, 1) := by decide +kernel
theorem dL_law_190 : decode cL_law 190 = .ok (.iload 4, 2) := by decide +kernel
theorem dL_law_192 : decode cL_law 192 = .ok (.iconst 1, 1) := by decide +kernel
theorem dL_law_193 : decode cL_law 193 = .ok (.iadd, 1) := by decide +kernel
theorem dL_law_194 : decode cL_law 194 = .ok (.iaload, 1) := by decide +kernel
theorem dL_law_195 : decode cL_law 195 = .ok (.aload_n 0, 1) := by decide +kernel
theorem dL_law_196 : decode cL_law 196 = .ok (.iload 4, 2) := by decide +kernel
