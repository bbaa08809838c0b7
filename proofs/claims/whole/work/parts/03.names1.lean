set_option maxRecDepth 20000 in
theorem wsL_law_ch1 : ∀ w ∈ wsL_law0_r1, w ∈ lw_tbl := fun w h => (goodIn_p wsL_law0_r1 [137, 52, 55] (by decide +kernel) (by decide +kernel) w h).1
set_option maxRecDepth 20000 in
theorem wsL_law_ch2 : ∀ w ∈ wsL_law0_r2, w ∈ lw_tbl := fun w h => (goodIn_p wsL_law0_r2 [64, 77, 60, 524] (by decide +kernel) (by decide +kernel) w h).1
set_option maxRecDepth 20000 in
theorem wsL_law_ch3 : ∀ w ∈ wsL_law0_r3, w ∈ lw_tbl := fun w h => (goodIn_p wsL_law0_r3 [] (by decide +kernel) (by decide +kernel) w h).1
set_option maxRecDepth 20000 in
theorem wsL_law_ch4 : ∀ w ∈ wsL_law0_r4, w ∈ lw_tbl := fun w h => (goodIn_p wsL_law0_r4 [146, 150, 223, 126] (by decide +kernel) (by decide +kernel) w h).1
set_option maxRecDepth 20000 in
theorem wsL_law_ch5 : ∀ w ∈ wsL_law0_r5, w ∈ lw_tbl := fun w h => (goodIn_p wsL_law0_r5 [243, 290, 604, 607] (by decide +kernel) (by decide +kernel) w h).1
set_option maxRecDepth 20000 in
theorem wsL_law_ch6 : ∀ w ∈ wsL_law0_r6, w ∈ lw_tbl := fun w h => (goodIn_p wsL_law0_r6 [600, 299, 303, 118] (by decide +kernel) (by decide +kernel) w h).1
set_option maxRecDepth 20000 in
theorem wsL_law_ch7 : ∀ w ∈ wsL_law0_r7, w ∈ lw_tbl := fun w h => (goodIn_p wsL_law0_r7 [309, 313, 318, 338, 344, 348] (by decide +kernel) (by decide +kernel) w h).1
set_option maxRecDepth 20000 in
theorem wsL_law_ch8 : ∀ w ∈ wsL_law0_r8, w ∈ lw_tbl := fun w h => (goodIn_p wsL_law0_r8 [352, 356, 361, 611, 615] (by decide +kernel) (by decide +kernel) w h).1
set_option maxRecDepth 20000 in
theorem wsL_law_ch9 : ∀ w ∈ wsL_law0_r9, w ∈ lw_tbl := fun w h => (goodIn_p wsL_law0_r9 [619, 623, 627, 631, 368] (by decide +kernel) (by decide +kernel) w h).1
set_option maxRecDepth 20000 in
theorem wsL_law_ch10 : ∀ w ∈ wsL_law0_r10, w ∈ lw_tbl := fun w h => (goodIn_p wsL_law0_r10 [635, 375, 639, 385] (by decide +kernel) (by decide +kernel) w h).1
set_option maxRecDepth 20000 in
theorem wsL_law_ch11 : ∀ w ∈ wsL_law0_r11, w ∈ lw_tbl := fun w h => (goodIn_p wsL_law0_r11 [390, 394, 398, 402, 406] (by decide +kernel) (by decide +kernel) w h).1
set_option maxRecDepth 20000 in
theorem wsL_law_ch12 : ∀ w ∈ wsL_law0_r12, w ∈ lw_tbl := fun w h => (goodIn_p wsL_law0_r12 [643, 647, 651, 655, 413] (by decide +kernel) (by decide +kernel) w h).1
set_option maxRecDepth 20000 in
theorem wsL_law_ch13 : ∀ w ∈ wsL_law0_r13, w ∈ lw_tbl := fun w h => (goodIn_p wsL_law0_r13 [659, 422, 426, 431, 663] (by decide +kernel) (by decide +kernel) w h).1
set_option maxRecDepth 20000 in
theorem wsL_law_ch14 : ∀ w ∈ wsL_law0_r14, w ∈ lw_tbl := fun w h => (goodIn_p wsL_law0_r14 [438, 443, 667, 114, 671] (by decide +kernel) (by decide +kernel) w h).1
set_option maxRecDepth 20000 in
theorem wsL_law_ch15 : ∀ w ∈ wsL_law0_r15, w ∈ lw_tbl := fun w h => (goodIn_p wsL_law0_r15 [450, 455, 675, 462] (by decide +kernel) (by decide +kernel) w h).1
set_option maxRecDepth 20000 in
theorem wsL_law_ch16 : ∀ w ∈ wsL_law0_r16, w ∈ lw_tbl := fun w h => (goodIn_p wsL_law0_r16 [467, 471, 679, 683, 478, 687] (by decide +kernel) (by decide +kernel) w h).1
set_option maxRecDepth 20000 in
theorem wsL_law_ch17 : ∀ w ∈ wsL_law0_r17, w ∈ lw_tbl := fun w h => (goodIn_p wsL_law0_r17 [487, 691, 515] (by decide +kernel) (by decide +kernel) w h).1
set_option maxRecDepth 20000 in
theorem wsL_law_ch18 : ∀ w ∈ wsL_law0_r18, w ∈ lw_tbl := fun w h => (goodIn_p wsL_law0_r18 [519, 695, 122, 130, 134, 699] (by decide +kernel) (by decide +kernel) w h).1
theorem wsL_law_tr : ∀ w ∈ (wsL_law0_r1 ++ (wsL_law0_r2 ++ (wsL_law0_r3 ++ (wsL_law0_r4 ++ (wsL_law0_r5 ++ (wsL_law0_r6 ++ (wsL_law0_r7 ++ (wsL_law0_r8 ++ (wsL_law0_r9 ++ (wsL_law0_r10 ++ (wsL_law0_r11 ++ (wsL_law0_r12 ++ (wsL_law0_r13 ++ (wsL_law0_r14 ++ (wsL_law0_r15 ++ (wsL_law0_r16 ++ (wsL_law0_r17 ++ (wsL_law0_r18)))))))))))))))))), w ∈ lw_tbl := fun w h => (fun h => (List.mem_append.mp h).elim (fun h => wsL_law_ch1 w h) (fun h => (List.mem_append.mp h).elim (fun h => wsL_law_ch2 w h) (fun h => (List.mem_append.mp h).elim (fun h => wsL_law_ch3 w h) (fun h => (List.mem_append.mp h).elim (fun h => wsL_law_ch4 w h) (fun h => (List.mem_append.mp h).elim (fun h => wsL_law_ch5 w h) (fun h => (List.mem_append.mp h).elim (fun h => wsL_law_ch6 w h) (fun h => (List.mem_append.mp h).elim (fun h => wsL_law_ch7 w h) (fun h => (List.mem_append.mp h).elim (fun h => wsL_law_ch8 w h) (fun h => (List.mem_append.mp h).elim (fun h => wsL_law_ch9 w h) (fun h => (List.mem_append.mp h).elim (fun h => wsL_law_ch10 w h) (fun h => (List.mem_append.mp h).elim (fun h => wsL_law_ch11 w h) (fun h => (List.mem_append.mp h).elim (fun h => wsL_law_ch12 w h) (fun h => (List.mem_append.mp h).elim (fun h => wsL_law_ch13 w h) (fun h => (List.mem_append.mp h).elim (fun h => wsL_law_ch14 w h) (fun h => (List.mem_append.mp h).elim (fun h => wsL_law_ch15 w h) (fun h => (List.mem_append.mp h).elim (fun h => wsL_law_ch16 w h) (fun h => (List.mem_append.mp h).elim (fun h => wsL_law_ch17 w h) (fun h => wsL_law_ch18 w h)))))))))))))))))) h
theorem wsL_law_swsX20 : ∀ w ∈ wsX20, w ∈ lw_tbl := by decide +kernel
theorem wsL_law_swsX30 : ∀ w ∈ wsX30, w ∈ lw_tbl := by decide +kernel
theorem wsL_law_swsX10 : ∀ w ∈ wsX10, w ∈ lw_tbl := by decide +kernel
theorem wsL_law_swsX00 : ∀ w ∈ wsX00, w ∈ lw_tbl := by decide +kernel
theorem wsL_law_swsJx000600 : ∀ w ∈ wsJx000600, w ∈ lw_tbl := by decide +kernel
theorem wsL_law_in0 : ∀ w ∈ wsL_law0, w ∈ lw_tbl := fun w h => (fun h => (List.mem_append.mp h).elim (fun h => (List.mem_append.mp h).elim (fun h => (List.mem_append.mp h).elim (fun h => (List.mem_append.mp h).elim (fun h => (List.mem_append.mp h).elim (fun h => (List.mem_append.mp h).elim (fun h => wsL_law_tr w h) (fun h => wsL_law_swsX20 w h)) (fun h => wsL_law_swsX30 w h)) (fun h => wsL_law_swsX10 w h)) (fun h => wsL_law_swsX00 w h)) (fun h => wsL_law_swsJx000600 w h)) (fun h => absurd h List.not_mem_nil)) h
theorem wsL_law_x0 : ∀ w ∈ (vx_atS RX2 61 "java/lang/UnsupportedOperationException" ["java/lang/RuntimeException", "java/lang/Exception"]).filter goodWord, w ∈ lw_tbl := by decide +kernel
theorem wsL_law_x1 : ∀ w ∈ (vx_atS RX2 86 "java/lang/IllegalArgumentException" ["java/lang/RuntimeException", "java/lang/Exception"]).filter goodWord, w ∈ lw_tbl := by decide +kernel
theorem wsL_law_x2 : ∀ w ∈ (vx_atS RX2 103 "java/lang/IllegalStateException" ["java/lang/RuntimeException", "java/lang/Exception"]).filter goodWord, w ∈ lw_tbl := by decide +kernel
theorem wsL_law_in : ∀ w ∈ wsL_law, w ∈ lw_tbl := fun w h => (List.mem_append.mp h).elim (fun h => (List.mem_append.mp h).elim (fun h => (List.mem_append.mp h).elim (fun h => wsL_law_in0 w h) (fun h => wsL_law_x0 w h)) (fun h => wsL_law_x1 w h)) (fun h => wsL_law_x2 w h)
theorem inlX0 : ∀ w ∈ wsX00, w ∈ wsL_law := fun _ h => List.mem_append_left _ (List.mem_append_left _ (List.mem_append_left _ (List.mem_append_left _ (List.mem_append_left _ (List.mem_append_right _ h)))))
theorem inX0 : ∀ w ∈ wsX00, w ∈ lw_tbl := fun w h => wsL_law_in w (inlX0 w h)
theorem inlX1 : ∀ w ∈ wsX10, w ∈ wsL_law := fun _ h => List.mem_append_left _ (List.mem_append_left _ (List.mem_append_left _ (List.mem_append_left _ (List.mem_append_left _ (List.mem_append_left _ (List.mem_append_right _ h))))))
theorem inX1 : ∀ w ∈ wsX10, w ∈ lw_tbl := fun w h => wsL_law_in w (inlX1 w h)
theorem inlX2 : ∀ w ∈ wsX20, w ∈ wsL_law := fun _ h => List.mem_append_left _ (List.mem_append_left _ (List.mem_append_left _ (List.mem_append_left _ (List.mem_append_left _ (List.mem_append_left _ (List.mem_append_left _ (List.mem_append_left _ (List.mem_append_right _ h))))))))
theorem inX2 : ∀ w ∈ wsX20, w ∈ lw_tbl := fun w h => wsL_law_in w (inlX2 w h)
theorem inlX3 : ∀ w ∈ wsX30, w ∈ wsL_law := fun _ h => List.mem_append_left _ (List.mem_append_left _ (List.mem_append_left _ (List.mem_append_left _ (List.mem_append_left _ (List.mem_append_left _ (List.mem_append_left _ (List.mem_append_right _ h)))))))
theorem inX3 : ∀ w ∈ wsX30, w ∈ lw_tbl := fun w h => wsL_law_in w (inlX3 w h)
theorem inlJx00060 : ∀ w ∈ wsJx000600, w ∈ wsL_law := fun _ h => List.mem_append_left _ (List.mem_append_left _ (List.mem_append_left _ (List.mem_append_left _ (List.mem_append_right _ h))))
theorem inJx00060 : ∀ w ∈ wsJx000600, w ∈ lw_tbl := fun w h => wsL_law_in w (inlJx00060 w h)
theorem inJ9 : ∀ w ∈ wsJ90, w ∈ lw_tbl := by decide +kernel
theorem inJ0 : ∀ w ∈ wsJ00, w ∈ lw_tbl := by decide +kernel
theorem dX0_init_0 : decode cX0_init 0 = .ok (.aload_n 0, 1) := by decide +kernel
theorem dX0_init_1 : decode cX0_init 1 = .ok (.invokespecial 3, 3) := by decide +kernel
theorem dX0_init_4 : decode cX0_init 4 = .ok (.aload_n 0, 1) := by decide +kernel
theorem dX0_init_5 : decode cX0_init 5 = .ok (.iconst 0, 1) := by decide +kernel
theorem dX0_init_6 : decode cX0_init 6 = .ok (.putfield 9, 3) := by decide +kernel
theorem dX0_init_9 : decode cX0_init 9 = .ok (.aload_n 0, 1) := by decide +kernel
theorem dX0_init_10 : decode cX0_init 10 = .ok (.iconst 0, 1) := by decide +kernel
theorem dX0_init_11 : decode cX0_init 11 = .ok (.putfield 15, 3) := by decide +kernel
theorem dX0_init_14 : decode cX0_init 14 = .ok (.aload_n 0, 1) := by decide +kernel
theorem dX0_init_15 : decode cX0_init 15 = .ok (.iconst (-1), 1) := by decide +kernel
theorem dX0_init_16 : decode cX0_init 16 = .ok (.putfield 18, 3) := by decide +kernel
theorem dX0_init_19 : decode cX0_init 19 = .ok (.aload_n 0, 1) := by decide +kernel
theorem dX0_init_20 : decode cX0_init 20 = .ok (.iload_n 1, 1) := by decide +kernel
theorem dX0_init_21 : decode cX0_init 21 = .ok (.putfield 21, 3) := by decide +kernel
theorem dX0_init_24 : decode cX0_init 24 = .ok (.aload_n 0, 1) := by decide +kernel
theorem dX0_init_25 : decode cX0_init 25 = .ok (.iload_n 2, 1) := by decide +kernel
theorem dX0_init_26 : decode cX0_init 26 = .ok (.putfield 24, 3) := by decide +kernel
theorem dX0_init_29 : decode cX0_init 29 = .ok (.return_, 1) := by decide +kernel
theorem dX1_init_0 : decode cX1_init 0 = .ok (.aload_n 0, 1) := by decide +kernel
theorem dX1_init_1 : decode cX1_init 1 = .ok (.invokespecial 1, 3) := by decide +kernel
theorem dX1_init_4 : decode cX1_init 4 = .ok (.aload_n 0, 1) := by decide +kernel
theorem dX1_init_5 : decode cX1_init 5 = .ok (.iload_n 1, 1) := by decide +kernel
theorem dX1_init_6 : decode cX1_init 6 = .ok (.iconst 0, 1) := by decide +kernel
theorem dX1_init_7 : decode cX1_init 7 = .ok (.invokestatic 7, 3) := by decide +kernel
theorem dX1_init_10 : decode cX1_init 10 = .ok (.anewarray 13, 3) := by decide +kernel
theorem dX1_init_13 : decode cX1_init 13 = .ok (.putfield 15, 3) := by decide +kernel
theorem dX1_init_16 : decode cX1_init 16 = .ok (.return_, 1) := by decide +kernel
theorem dX1_size_0 : decode cX1_size 0 = .ok (.aload_n 0, 1) := by decide +kernel
theorem dX1_size_1 : decode cX1_size 1 = .ok (.getfield 21, 3) := by decide +kernel
theorem dX1_size_4 : decode cX1_size 4 = .ok (.ireturn, 1) := by decide +kernel
theorem dX1_isFilled_0 : decode cX1_isFilled 0 = .ok (.aload_n 0, 1) := by decide +kernel
theorem dX1_isFilled_1 : decode cX1_isFilled 1 = .ok (.getfield 21, 3) := by decide +kernel
theorem dX1_isFilled_4 : decode cX1_isFilled 4 = .ok (.aload_n 0, 1) := by decide +kernel
theorem dX1_isFilled_5 : decode cX1_isFilled 5 = .ok (.getfield 15, 3) := by decide +kernel
theorem dX1_isFilled_8 : decode cX1_isFilled 8 = .ok (.arraylength, 1) := by decide +kernel
theorem dX1_isFilled_9 : decode cX1_isFilled 9 = .ok (.if_icmp .lt 7, 3) := by decide +kernel
theorem dX1_isFilled_12 : decode cX1_isFilled 12 = .ok (.iconst 1, 1) := by decide +kernel
theorem dX1_isFilled_13 : decode cX1_isFilled 13 = .ok (.goto 4, 3) := by decide +kernel
theorem dX1_isFilled_16 : decode cX1_isFilled 16 = .ok (.iconst 0, 1) := by decide +kernel
theorem dX1_isFilled_17 : decode cX1_isFilled 17 = .ok (.ireturn, 1) := by decide +kernel
set_option maxRecDepth 20000 in
theorem ggX1_add_X1_isFilled : GoodIn wsX1_add wsX1_isFilled := goodIn_r _ [7, 2, 1, 8, 9] (by decide +kernel) (by decide +kernel)
set_option maxRecDepth 20000 in
theorem gX1_add_X1_isFilled : GoodIn wsX1_add (wsV RX1 25 RX1 yX1_isFilled wsX1_isFilled) := goodIn_app (goodIn_of _ (by decide +kernel)) ggX1_add_X1_isFilled
theorem dX1_add_0 : decode cX1_add 0 = .ok (.aload_n 0, 1) := by decide +kernel
theorem dX1_add_1 : decode cX1_add 1 = .ok (.invokevirtual 25, 3) := by decide +kernel
theorem dX1_add_4 : decode cX1_add 4 = .ok (.ifCond .ne 23, 3) := by decide +kernel
theorem dX1_add_7 : decode cX1_add 7 = .ok (.aload_n 0, 1) := by decide +kernel
theorem dX1_add_8 : decode cX1_add 8 = .ok (.getfield 15, 3) := by decide +kernel
theorem dX1_add_11 : decode cX1_add 11 = .ok (.aload_n 0, 1) := by decide +kernel
theorem dX1_add_12 : decode cX1_add 12 = .ok (.getfield 21, 3) := by decide +kernel
theorem dX1_add_15 : decode cX1_add 15 = .ok (.aload_n 1, 1) := by decide +kernel
theorem dX1_add_16 : decode cX1_add 16 = .ok (.aastore, 1) := by decide +kernel
theorem dX1_add_17 : decode cX1_add 17 = .ok (.aload_n 0, 1) := by decide +kernel
theorem dX1_add_18 : decode cX1_add 18 = .ok (.dup, 1) := by decide +kernel
theorem dX1_add_19 : decode cX1_add 19 = .ok (.getfield 21, 3) := by decide +kernel
theorem dX1_add_22 : decode cX1_add 22 = .ok (.iconst 1, 1) := by decide +kernel
theorem dX1_add_23 : decode cX1_add 23 = .ok (.iadd, 1) := by decide +kernel
theorem dX1_add_24 : decode cX1_add 24 = .ok (.putfield 21, 3) := by decide +kernel
theorem dX1_add_27 : decode cX1_add 27 = .ok (.return_, 1) := by decide +kernel
theorem dX1_at_0 : decode cX1_at 0 = .ok (.iload_n 1, 1) := by decide +kernel
theorem dX1_at_1 : decode cX1_at 1 = .ok (.ifCond .lt 20, 3) := by decide +kernel
theorem dX1_at_4 : decode cX1_at 4 = .ok (.iload_n 1, 1) := by decide +kernel
theorem dX1_at_5 : decode cX1_at 5 = .ok (.aload_n 0, 1) := by decide +kernel
theorem dX1_at_6 : decode cX1_at 6 = .ok (.getfield 21, 3) := by decide +kernel
theorem dX1_at_9 : decode cX1_at 9 = .ok (.if_icmp .ge 12, 3) := by decide +kernel
theorem dX1_at_12 : decode cX1_at 12 = .ok (.aload_n 0, 1) := by decide +kernel
theorem dX1_at_13 : decode cX1_at 13 = .ok (.getfield 15, 3) := by decide +kernel
theorem dX1_at_16 : decode cX1_at 16 = .ok (.iload_n 1, 1) := by decide +kernel
theorem dX1_at_17 : decode cX1_at 17 = .ok (.aaload, 1) := by decide +kernel
theorem dX1_at_18 : decode cX1_at 18 = .ok (.goto 4, 3) := by decide +kernel
theorem dX1_at_21 : decode cX1_at 21 = .ok (.aconst_null, 1) := by decide +kernel
theorem dX1_at_22 : decode cX1_at 22 = .ok (.areturn, 1) := by decide +kernel
theorem dX1_clear_0 : decode cX1_clear 0 = .ok (.aload_n 0, 1) := by decide +kernel
theorem dX1_clear_1 : decode cX1_clear 1 = .ok (.iconst 0, 1) := by decide +kernel
theorem dX1_clear_2 : decode cX1_clear 2 = .ok (.putfield 21, 3) := by decide +kernel
theorem dX1_clear_5 : decode cX1_clear 5 = .ok (.return_, 1) := by decide +kernel
set_option maxRecDepth 20000 in
theorem ggX2_init_X1_init : GoodIn wsX2_init wsX1_init := goodIn_r _ [25, 26, 2, 3, 27, 12, 13, 14, 28, 29, 30, 31] (by decide +kernel) (by decide +kernel)
set_option maxRecDepth 20000 in
theorem gX2_init_X1_init : GoodIn wsX2_init (wsX1_init) := ggX2_init_X1_init
theorem dX2_init_0 : decode cX2_init 0 = .ok (.aload_n 0, 1) := by decide +kernel
theorem dX2_init_1 : decode cX2_init 1 = .ok (.invokespecial 1, 3) := by decide +kernel
theorem dX2_init_4 : decode cX2_init 4 = .ok (.aload_n 0, 1) := by decide +kernel
theorem dX2_init_5 : decode cX2_init 5 = .ok (.new 7, 3) := by decide +kernel
theorem dX2_init_8 : decode cX2_init 8 = .ok (.dup, 1) := by decide +kernel
theorem dX2_init_9 : decode cX2_init 9 = .ok (.bipush 60, 2) := by decide +kernel
theorem dX2_init_11 : decode cX2_init 11 = .ok (.invokespecial 11, 3) := by decide +kernel
theorem dX2_init_14 : decode cX2_init 14 = .ok (.putfield 14, 3) := by decide +kernel
theorem dX2_init_17 : decode cX2_init 17 = .ok (.aload_n 0, 1) := by decide +kernel
theorem dX2_init_18 : decode cX2_init 18 = .ok (.new 7, 3) := by decide +kernel
theorem dX2_init_21 : decode cX2_init 21 = .ok (.dup, 1) := by decide +kernel
theorem dX2_init_22 : decode cX2_init 22 = .ok (.bipush 60, 2) := by decide +kernel
theorem dX2_init_24 : decode cX2_init 24 = .ok (.invokespecial 11, 3) := by decide +kernel
theorem dX2_init_27 : decode cX2_init 27 = .ok (.putfield 18, 3) := by decide +kernel
theorem dX2_init_30 : decode cX2_init 30 = .ok (.aload_n 0, 1) := by decide +kernel
theorem dX2_init_31 : decode cX2_init 31 = .ok (.new 7, 3) := by decide +kernel
theorem dX2_init_34 : decode cX2_init 34 = .ok (.dup, 1) := by decide +kernel
theorem dX2_init_35 : decode cX2_init 35 = .ok (.bipush 40, 2) := by decide +kernel
theorem dX2_init_37 : decode cX2_init 37 = .ok (.invokespecial 11, 3) := by decide +kernel
theorem dX2_init_40 : decode cX2_init 40 = .ok (.putfield 21, 3) := by decide +kernel
theorem dX2_init_43 : decode cX2_init 43 = .ok (.aload_n 0, 1) := by decide +kernel
theorem dX2_init_44 : decode cX2_init 44 = .ok (.bipush 60, 2) := by decide +kernel
theorem dX2_init_46 : decode cX2_init 46 = .ok (.putfield 24, 3) := by decide +kernel
theorem dX2_init_49 : decode cX2_init 49 = .ok (.iload_n 1, 1) := by decide +kernel
theorem dX2_init_50 : decode cX2_init 50 = .ok (.iconst 2, 1) := by decide +kernel
theorem dX2_init_51 : decode cX2_init 51 = .ok (.invokestatic 28, 3) := by decide +kernel
theorem dX2_init_54 : decode cX2_init 54 = .ok (.bipush 40, 2) := by decide +kernel
theorem dX2_init_56 : decode cX2_init 56 = .ok (.invokestatic 34, 3) := by decide +kernel
theorem dX2_init_59 : decode cX2_init 59 = .ok (.istore_n 3, 1) := by decide +kernel
theorem dX2_init_60 : decode cX2_init 60 = .ok (.iload_n 3, 1) := by decide +kernel
theorem dX2_init_61 : decode cX2_init 61 = .ok (.iconst 1, 1) := by decide +kernel
theorem dX2_init_62 : decode cX2_init 62 = .ok (.isub, 1) := by decide +kernel
theorem dX2_init_63 : decode cX2_init 63 = .ok (.iconst 2, 1) := by decide +kernel
theorem dX2_init_64 : decode cX2_init 64 = .ok (.idiv, 1) := by decide +kernel
theorem dX2_init_65 : decode cX2_init 65 = .ok (.bipush 6, 2) := by decide +kernel
theorem dX2_init_67 : decode cX2_init 67 = .ok (.invokestatic 34, 3) := by decide +kernel
theorem dX2_init_70 : decode cX2_init 70 = .ok (.istore 4, 2) := by decide +kernel
theorem dX2_init_72 : decode cX2_init 72 = .ok (.aload_n 0, 1) := by decide +kernel
theorem dX2_init_73 : decode cX2_init 73 = .ok (.iload_n 3, 1) := by decide +kernel
theorem dX2_init_74 : decode cX2_init 74 = .ok (.anewarray 37, 3) := by decide +kernel
theorem dX2_init_77 : decode cX2_init 77 = .ok (.putfield 39, 3) := by decide +kernel
theorem dX2_init_80 : decode cX2_init 80 = .ok (.aload_n 0, 1) := by decide +kernel
theorem dX2_init_81 : decode cX2_init 81 = .ok (.iload 4, 2) := by decide +kernel
theorem dX2_init_83 : decode cX2_init 83 = .ok (.iconst 1, 1) := by decide +kernel
theorem dX2_init_84 : decode cX2_init 84 = .ok (.iadd, 1) := by decide +kernel
theorem dX2_init_85 : decode cX2_init 85 = .ok (.newarray .boolean, 2) := by decide +kernel
theorem dX2_init_87 : decode cX2_init 87 = .ok (.putfield 43, 3) := by decide +kernel
theorem dX2_init_90 : decode cX2_init 90 = .ok (.aload_n 0, 1) := by decide +kernel
theorem dX2_init_91 : decode cX2_init 91 = .ok (.iload_n 2, 1) := by decide +kernel
theorem dX2_init_92 : decode cX2_init 92 = .ok (.iconst 0, 1) := by decide +kernel
theorem dX2_init_93 : decode cX2_init 93 = .ok (.invokestatic 28, 3) := by decide +kernel
theorem dX2_init_96 : decode cX2_init 96 = .ok (.bipush 9, 2) := by decide +kernel
theorem dX2_init_98 : decode cX2_init 98 = .ok (.invokestatic 34, 3) := by decide +kernel
theorem dX2_init_101 : decode cX2_init 101 = .ok (.putfield 47, 3) := by decide +kernel
theorem dX2_init_104 : decode cX2_init 104 = .ok (.return_, 1) := by decide +kernel
set_option maxRecDepth 20000 in
theorem ggX2_item_X2_requireLength : GoodIn wsX2_item wsX2_requireLength := goodIn_ca (goodIn_r _ [12, 13, 14] (by decide +kernel) (by decide +kernel)) (goodIn_sub (fun _ h => List.mem_cons_of_mem _ (List.mem_append_right _ h)) (by decide +kernel))
set_option maxRecDepth 20000 in
theorem gX2_item_X2_requireLength : GoodIn wsX2_item (wsV RX2 50 RX2 yX2_requireLength wsX2_requireLength) := goodIn_app (goodIn_of _ (by decide +kernel)) ggX2_item_X2_requireLength
set_option maxRecDepth 20000 in
theorem ggX2_item_X1_isFilled : GoodIn wsX2_item wsX1_isFilled := goodIn_r _ [19, 20, 21, 64, 65] (by decide +kernel) (by decide +kernel)
set_option maxRecDepth 20000 in
theorem gX2_item_X1_isFilled : GoodIn wsX2_item (wsV RX2 53 RX1 yX1_isFilled wsX1_isFilled) := goodIn_app (goodIn_of _ (by decide +kernel)) ggX2_item_X1_isFilled
set_option maxRecDepth 20000 in
theorem ggX2_item_X1_size : GoodIn wsX2_item wsX1_size := goodIn_r _ [25, 20, 64, 65] (by decide +kernel) (by decide +kernel)
set_option maxRecDepth 20000 in
theorem gX2_item_X1_size : GoodIn wsX2_item (wsV RX2 64 RX1 yX1_size wsX1_size) := goodIn_app (goodIn_of _ (by decide +kernel)) ggX2_item_X1_size
set_option maxRecDepth 20000 in
theorem ggX2_item_X0_init : GoodIn wsX2_item wsX0_init := goodIn_r _ [28, 29, 30, 31, 32, 33, 34, 35, 36, 52, 53, 54, 55, 56, 57, 58, 59, 60, 61, 62, 63] (by decide +kernel) (by decide +kernel)
set_option maxRecDepth 20000 in
theorem gX2_item_X0_init : GoodIn wsX2_item (wsX0_init) := ggX2_item_X0_init
set_option maxRecDepth 20000 in
theorem ggX2_item_X1_add : GoodIn wsX2_item wsX1_add := goodIn_r _ [40, 21, 20, 41, 16, 17, 18, 19, 64, 65] (by decide +kernel) (by decide +kernel)
set_option maxRecDepth 20000 in
theorem gX2_item_X1_add : GoodIn wsX2_item (wsV RX2 71 RX1 yX1_add wsX1_add) := goodIn_app (goodIn_of _ (by decide +kernel)) ggX2_item_X1_add
theorem dX2_item_0 : decode cX2_item 0 = .ok (.aload_n 0, 1) := by decide +kernel
theorem dX2_item_1 : decode cX2_item 1 = .ok (.iload_n 1, 1) := by decide +kernel
theorem dX2_item_2 : decode cX2_item 2 = .ok (.invokevirtual 50, 3) := by decide +kernel
theorem dX2_item_5 : decode cX2_item 5 = .ok (.aload_n 0, 1) := by decide +kernel
theorem dX2_item_6 : decode cX2_item 6 = .ok (.getfield 14, 3) := by decide +kernel
theorem dX2_item_9 : decode cX2_item 9 = .ok (.invokevirtual 53, 3) := by decide +kernel
theorem dX2_item_12 : decode cX2_item 12 = .ok (.ifCond .eq 13, 3) := by decide +kernel
theorem dX2_item_15 : decode cX2_item 15 = .ok (.new 57, 3) := by decide +kernel
theorem dX2_item_18 : decode cX2_item 18 = .ok (.dup, 1) := by decide +kernel
theorem dX2_item_19 : decode cX2_item 19 = .ok (.ldc 59, 2) := by decide +kernel
theorem dX2_item_21 : decode cX2_item 21 = .ok (.invokespecial 61, 3) := by decide +kernel
theorem dX2_item_24 : decode cX2_item 24 = .ok (.athrow, 1) := by decide +kernel
theorem dX2_item_25 : decode cX2_item 25 = .ok (.new 37, 3) := by decide +kernel
theorem dX2_item_28 : decode cX2_item 28 = .ok (.dup, 1) := by decide +kernel
theorem dX2_item_29 : decode cX2_item 29 = .ok (.aload_n 0, 1) := by decide +kernel
theorem dX2_item_30 : decode cX2_item 30 = .ok (.getfield 14, 3) := by decide +kernel
theorem dX2_item_33 : decode cX2_item 33 = .ok (.invokevirtual 64, 3) := by decide +kernel
theorem dX2_item_36 : decode cX2_item 36 = .ok (.iconst 1, 1) := by decide +kernel
theorem dX2_item_37 : decode cX2_item 37 = .ok (.iadd, 1) := by decide +kernel
theorem dX2_item_38 : decode cX2_item 38 = .ok (.iload_n 1, 1) := by decide +kernel
theorem dX2_item_39 : decode cX2_item 39 = .ok (.invokespecial 68, 3) := by decide +kernel
theorem dX2_item_42 : decode cX2_item 42 = .ok (.astore_n 2, 1) := by decide +kernel
theorem dX2_item_43 : decode cX2_item 43 = .ok (.aload_n 0, 1) := by decide +kernel
theorem dX2_item_44 : decode cX2_item 44 = .ok (.getfield 14, 3) := by decide +kernel
theorem dX2_item_47 : decode cX2_item 47 = .ok (.aload_n 2, 1) := by decide +kernel
theorem dX2_item_48 : decode cX2_item 48 = .ok (.invokevirtual 71, 3) := by decide +kernel
theorem dX2_item_51 : decode cX2_item 51 = .ok (.aload_n 2, 1) := by decide +kernel
theorem dX2_item_52 : decode cX2_item 52 = .ok (.getfield 75, 3) := by decide +kernel
theorem dX2_item_55 : decode cX2_item 55 = .ok (.ireturn, 1) := by decide +kernel
set_option maxRecDepth 20000 in
theorem ggX2_induct_X2_itemNumbered : GoodIn wsX2_induct wsX2_itemNumbered := goodIn_ca (goodIn_r _ [11, 1, 2, 12, 13, 14, 15, 16, 17, 18, 19, 75, 76, 77, 78, 79, 80, 81, 82, 83, 84, 85, 86] (by decide +kernel) (by decide +kernel)) (goodIn_sub (fun _ h => List.mem_cons_of_mem _ (List.mem_append_left _ (List.mem_append_right _ h))) (by decide +kernel))
set_option maxRecDepth 20000 in
theorem gX2_induct_X2_itemNumbered : GoodIn wsX2_induct (wsV RX2 78 RX2 yX2_itemNumbered wsX2_itemNumbered) := goodIn_app (goodIn_of _ (by decide +kernel)) ggX2_induct_X2_itemNumbered
set_option maxRecDepth 20000 in
theorem ggX2_induct_X2_requireCode : GoodIn wsX2_induct wsX2_requireCode := goodIn_ca (goodIn_r _ [23, 1, 2, 24, 25, 26, 10, 27, 28, 75, 76, 77, 78, 79, 80, 81, 82, 83, 84] (by decide +kernel) (by decide +kernel)) (goodIn_sub (fun _ h => List.mem_cons_of_mem _ (List.mem_append_left _ (List.mem_append_right _ h))) (by decide +kernel))
set_option maxRecDepth 20000 in
theorem gX2_induct_X2_requireCode : GoodIn wsX2_induct (wsV RX2 87 RX2 yX2_requireCode wsX2_requireCode) := goodIn_app (goodIn_of _ (by decide +kernel)) ggX2_induct_X2_requireCode
set_option maxRecDepth 20000 in
theorem ggX2_induct_X2_requireNotJammed : GoodIn wsX2_induct wsX2_requireNotJammed := goodIn_ca (goodIn_r _ [32, 3, 4, 33, 75, 76, 77, 78, 79, 80, 81, 82, 83, 84] (by decide +kernel) (by decide +kernel)) (goodIn_sub (fun _ h => List.mem_cons_of_mem _ (List.mem_append_right _ h)) (by decide +kernel))
set_option maxRecDepth 20000 in
theorem gX2_induct_X2_requireNotJammed : GoodIn wsX2_induct (wsV RX2 90 RX2 yX2_requireNotJammed wsX2_requireNotJammed) := goodIn_app (goodIn_of _ (by decide +kernel)) ggX2_induct_X2_requireNotJammed
set_option maxRecDepth 20000 in
theorem ggX2_induct_X2_requireFit : GoodIn wsX2_induct wsX2_requireFit := goodIn_ca (goodIn_r _ [37, 3, 4, 38, 39, 40, 63, 64, 65, 66, 67, 68, 69, 70, 71, 72, 73, 74, 75, 76, 77, 78, 79, 80, 81, 82, 83, 84] (by decide +kernel) (by decide +kernel)) (goodIn_sub (fun _ h => List.mem_cons_of_mem _ (List.mem_append_right _ h)) (by decide +kernel))
set_option maxRecDepth 20000 in
theorem gX2_induct_X2_requireFit : GoodIn wsX2_induct (wsV RX2 93 RX2 yX2_requireFit wsX2_requireFit) := goodIn_app (goodIn_of _ (by decide +kernel)) ggX2_induct_X2_requireFit
set_option maxRecDepth 20000 in
theorem ggX2_induct_X2_itemAt : GoodIn wsX2_induct wsX2_itemAt := goodIn_r _ [44, 45, 46, 47, 48, 10, 49, 50, 51, 52, 53, 54, 55, 56, 57, 58, 75, 76, 77, 78, 79, 80, 81, 82, 83, 84] (by decide +kernel) (by decide +kernel)
set_option maxRecDepth 20000 in
theorem gX2_induct_X2_itemAt : GoodIn wsX2_induct (wsV RX2 96 RX2 yX2_itemAt wsX2_itemAt) := goodIn_app (goodIn_of _ (by decide +kernel)) ggX2_induct_X2_itemAt
set_option maxRecDepth 20000 in
theorem ggX2_induct_X2_trayAt : GoodIn wsX2_induct wsX2_trayAt := goodIn_r _ [49, 50, 51, 52, 53, 10, 54, 45, 75, 76, 77, 78, 79, 80, 81, 82, 83, 84] (by decide +kernel) (by decide +kernel)
set_option maxRecDepth 20000 in
theorem gX2_induct_X2_trayAt : GoodIn wsX2_induct (wsV RX2 107 RX2 yX2_trayAt wsX2_trayAt) := goodIn_app (goodIn_of _ (by decide +kernel)) ggX2_induct_X2_trayAt
set_option maxRecDepth 20000 in
theorem ggX2_induct_X2_putOnTray : GoodIn wsX2_induct wsX2_putOnTray := goodIn_r _ [62, 45, 6, 38, 55, 56, 57, 10, 58, 75, 76, 77, 78, 79, 80, 81, 82, 83, 84, 63, 64, 65, 66, 67, 68, 69, 70, 71, 72, 73, 74] (by decide +kernel) (by decide +kernel)
set_option maxRecDepth 20000 in
theorem gX2_induct_X2_putOnTray : GoodIn wsX2_induct (wsV RX2 111 RX2 yX2_putOnTray wsX2_putOnTray) := goodIn_app (goodIn_of _ (by decide +kernel)) ggX2_induct_X2_putOnTray
theorem dX2_induct_0 : decode cX2_induct 0 = .ok (.aload_n 0, 1) := by decide +kernel
theorem dX2_induct_1 : decode cX2_induct 1 = .ok (.iload_n 1, 1) := by decide +kernel
theorem dX2_induct_2 : decode cX2_induct 2 = .ok (.invokevirtual 78, 3) := by decide +kernel
theorem dX2_induct_5 : decode cX2_induct 5 = .ok (.astore 4, 2) := by decide +kernel
theorem dX2_induct_7 : decode cX2_induct 7 = .ok (.iload_n 2, 1) := by decide +kernel
theorem dX2_induct_8 : decode cX2_induct 8 = .ok (.ifCond .lt 8, 3) := by decide +kernel
theorem dX2_induct_11 : decode cX2_induct 11 = .ok (.iload_n 2, 1) := by decide +kernel
theorem dX2_induct_12 : decode cX2_induct 12 = .ok (.iconst 2, 1) := by decide +kernel
theorem dX2_induct_13 : decode cX2_induct 13 = .ok (.if_icmp .lt 13, 3) := by decide +kernel
theorem dX2_induct_16 : decode cX2_induct 16 = .ok (.new 82, 3) := by decide +kernel
theorem dX2_induct_19 : decode cX2_induct 19 = .ok (.dup, 1) := by decide +kernel
theorem dX2_induct_20 : decode cX2_induct 20 = .ok (.ldc 84, 2) := by decide +kernel
theorem dX2_induct_22 : decode cX2_induct 22 = .ok (.invokespecial 86, 3) := by decide +kernel
theorem dX2_induct_25 : decode cX2_induct 25 = .ok (.athrow, 1) := by decide +kernel
theorem dX2_induct_26 : decode cX2_induct 26 = .ok (.aload_n 0, 1) := by decide +kernel
theorem dX2_induct_27 : decode cX2_induct 27 = .ok (.iload_n 3, 1) := by decide +kernel
theorem dX2_induct_28 : decode cX2_induct 28 = .ok (.invokevirtual 87, 3) := by decide +kernel
theorem dX2_induct_31 : decode cX2_induct 31 = .ok (.aload_n 0, 1) := by decide +kernel
theorem dX2_induct_32 : decode cX2_induct 32 = .ok (.invokevirtual 90, 3) := by decide +kernel
theorem dX2_induct_35 : decode cX2_induct 35 = .ok (.aload_n 0, 1) := by decide +kernel
theorem dX2_induct_36 : decode cX2_induct 36 = .ok (.aload 4, 2) := by decide +kernel
theorem dX2_induct_38 : decode cX2_induct 38 = .ok (.invokevirtual 93, 3) := by decide +kernel
theorem dX2_induct_41 : decode cX2_induct 41 = .ok (.aload_n 0, 1) := by decide +kernel
theorem dX2_induct_42 : decode cX2_induct 42 = .ok (.iload_n 2, 1) := by decide +kernel
theorem dX2_induct_43 : decode cX2_induct 43 = .ok (.invokevirtual 96, 3) := by decide +kernel
theorem dX2_induct_46 : decode cX2_induct 46 = .ok (.ifnull 13, 3) := by decide +kernel
theorem dX2_induct_49 : decode cX2_induct 49 = .ok (.new 99, 3) := by decide +kernel
theorem dX2_induct_52 : decode cX2_induct 52 = .ok (.dup, 1) := by decide +kernel
theorem dX2_induct_53 : decode cX2_induct 53 = .ok (.ldc 101, 2) := by decide +kernel
theorem dX2_induct_55 : decode cX2_induct 55 = .ok (.invokespecial 103, 3) := by decide +kernel
theorem dX2_induct_58 : decode cX2_induct 58 = .ok (.athrow, 1) := by decide +kernel
theorem dX2_induct_59 : decode cX2_induct 59 = .ok (.aload 4, 2) := by decide +kernel
theorem dX2_induct_61 : decode cX2_induct 61 = .ok (.iload_n 3, 1) := by decide +kernel
theorem dX2_induct_62 : decode cX2_induct 62 = .ok (.putfield 104, 3) := by decide +kernel
theorem dX2_induct_65 : decode cX2_induct 65 = .ok (.aload_n 0, 1) := by decide +kernel
theorem dX2_induct_66 : decode cX2_induct 66 = .ok (.aload 4, 2) := by decide +kernel
theorem dX2_induct_68 : decode cX2_induct 68 = .ok (.aload_n 0, 1) := by decide +kernel
theorem dX2_induct_69 : decode cX2_induct 69 = .ok (.iload_n 2, 1) := by decide +kernel
theorem dX2_induct_70 : decode cX2_induct 70 = .ok (.invokevirtual 107, 3) := by decide +kernel
theorem dX2_induct_73 : decode cX2_induct 73 = .ok (.invokevirtual 111, 3) := by decide +kernel
theorem dX2_induct_76 : decode cX2_induct 76 = .ok (.aload 4, 2) := by decide +kernel
theorem dX2_induct_78 : decode cX2_induct 78 = .ok (.getfield 115, 3) := by decide +kernel
theorem dX2_induct_81 : decode cX2_induct 81 = .ok (.ireturn, 1) := by decide +kernel
set_option maxRecDepth 20000 in
theorem ggX2_length_X2_requireLength : GoodIn wsX2_length wsX2_requireLength := goodIn_ca (goodIn_r _ [8, 9, 10] (by decide +kernel) (by decide +kernel)) (goodIn_sub (fun _ h => List.mem_cons_of_mem _ (List.mem_append_right _ h)) (by decide +kernel))
set_option maxRecDepth 20000 in
theorem gX2_length_X2_requireLength : GoodIn wsX2_length (wsV RX2 50 RX2 yX2_requireLength wsX2_requireLength) := goodIn_app (goodIn_of _ (by decide +kernel)) ggX2_length_X2_requireLength
theorem dX2_length_0 : decode cX2_length 0 = .ok (.aload_n 0, 1) := by decide +kernel
theorem dX2_length_1 : decode cX2_length 1 = .ok (.iload_n 1, 1) := by decide +kernel
theorem dX2_length_2 : decode cX2_length 2 = .ok (.invokevirtual 50, 3) := by decide +kernel
theorem dX2_length_5 : decode cX2_length 5 = .ok (.aload_n 0, 1) := by decide +kernel
theorem dX2_length_6 : decode cX2_length 6 = .ok (.iload_n 1, 1) := by decide +kernel
theorem dX2_length_7 : decode cX2_length 7 = .ok (.putfield 24, 3) := by decide +kernel
theorem dX2_length_10 : decode cX2_length 10 = .ok (.iconst 0, 1) := by decide +kernel
theorem dX2_length_11 : decode cX2_length 11 = .ok (.istore_n 2, 1) := by decide +kernel
theorem dX2_length_12 : decode cX2_length 12 = .ok (.aload_n 0, 1) := by decide +kernel
theorem dX2_length_13 : decode cX2_length 13 = .ok (.getfield 39, 3) := by decide +kernel
theorem dX2_length_16 : decode cX2_length 16 = .ok (.astore_n 3, 1) := by decide +kernel
theorem dX2_length_17 : decode cX2_length 17 = .ok (.aload_n 3, 1) := by decide +kernel
theorem dX2_length_18 : decode cX2_length 18 = .ok (.arraylength, 1) := by decide +kernel
theorem dX2_length_19 : decode cX2_length 19 = .ok (.istore 4, 2) := by decide +kernel
theorem dX2_length_21 : decode cX2_length 21 = .ok (.iconst 0, 1) := by decide +kernel
theorem dX2_length_22 : decode cX2_length 22 = .ok (.istore 5, 2) := by decide +kernel
theorem dX2_length_24 : decode cX2_length 24 = .ok (.iload 5, 2) := by decide +kernel
theorem dX2_length_26 : decode cX2_length 26 = .ok (.iload 4, 2) := by decide +kernel
theorem dX2_length_28 : decode cX2_length 28 = .ok (.if_icmp .ge 35, 3) := by decide +kernel
theorem dX2_length_31 : decode cX2_length 31 = .ok (.aload_n 3, 1) := by decide +kernel
theorem dX2_length_32 : decode cX2_length 32 = .ok (.iload 5, 2) := by decide +kernel
theorem dX2_length_34 : decode cX2_length 34 = .ok (.aaload, 1) := by decide +kernel
theorem dX2_length_35 : decode cX2_length 35 = .ok (.astore 6, 2) := by decide +kernel
theorem dX2_length_37 : decode cX2_length 37 = .ok (.aload 6, 2) := by decide +kernel
theorem dX2_length_39 : decode cX2_length 39 = .ok (.ifnull 18, 3) := by decide +kernel
theorem dX2_length_42 : decode cX2_length 42 = .ok (.aload 6, 2) := by decide +kernel
theorem dX2_length_44 : decode cX2_length 44 = .ok (.getfield 118, 3) := by decide +kernel
theorem dX2_length_47 : decode cX2_length 47 = .ok (.aload_n 0, 1) := by decide +kernel
theorem dX2_length_48 : decode cX2_length 48 = .ok (.getfield 24, 3) := by decide +kernel
theorem dX2_length_51 : decode cX2_length 51 = .ok (.if_icmp .le 6, 3) := by decide +kernel
theorem dX2_length_54 : decode cX2_length 54 = .ok (.iinc 2 1, 3) := by decide +kernel
