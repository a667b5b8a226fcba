set_option maxRecDepth 20000 in
theorem wsL_law_in0 : ∀ w ∈ wsL_law0, w ∈ lw_tbl := fun w h => (goodIn_p wsL_law0 [85, 88, 97, 122, 731, 215, 304, 308, 311, 820, 823, 827, 831, 816, 351, 355, 172, 835, 839, 380, 843, 847, 387, 851, 394, 397, 402, 179, 855, 859, 410, 414, 419, 187, 423, 863, 867, 871, 431, 437, 875, 473, 477, 483, 486, 490, 879, 883, 887, 890, 497, 500, 505, 894, 898, 902, 514, 518, 522, 527, 534, 537, 541, 545, 551, 906, 910, 914, 918, 922, 559, 926, 566, 930, 574, 934, 581, 938, 588, 176, 595, 942, 947, 951, 603, 955, 167, 183, 959, 963, 610, 614, 618, 622, 627, 634, 638, 642, 646, 650, 654, 968, 972, 976, 981, 985, 989, 661, 666, 993, 673, 677, 681, 686, 997, 1001, 693, 697, 701, 1005, 709, 714, 718, 1010, 191, 1014, 725, 199, 1018, 1022, 195, 203, 206, 1026] (by decide +kernel) (by decide +kernel) w h).1
theorem wsL_law_x0 : ∀ w ∈ (vx_atS RX4 46 "java/lang/IllegalArgumentException" ["java/lang/RuntimeException", "java/lang/Exception"]).filter goodWord, w ∈ lw_tbl := by decide +kernel
theorem wsL_law_x1 : ∀ w ∈ (vx_atS RX4 55 "java/lang/IllegalStateException" ["java/lang/RuntimeException", "java/lang/Exception"]).filter goodWord, w ∈ lw_tbl := by decide +kernel
theorem wsL_law_x2 : ∀ w ∈ (vx_atS RX4 71 "java/lang/IndexOutOfBoundsException" ["java/lang/RuntimeException", "java/lang/Exception"]).filter goodWord, w ∈ lw_tbl := by decide +kernel
theorem wsL_law_in : ∀ w ∈ wsL_law, w ∈ lw_tbl := fun w h => (List.mem_append.mp h).elim (fun h => (List.mem_append.mp h).elim (fun h => (List.mem_append.mp h).elim (fun h => wsL_law_in0 w h) (fun h => wsL_law_x0 w h)) (fun h => wsL_law_x1 w h)) (fun h => wsL_law_x2 w h)
theorem inlX0 : ∀ w ∈ wsX00, w ∈ wsL_law := fun _ h => List.mem_append_left _ (List.mem_append_left _ (List.mem_append_left _ (List.mem_append_left _ (List.mem_append_right _ h))))
theorem inX0 : ∀ w ∈ wsX00, w ∈ lw_tbl := fun w h => wsL_law_in w (inlX0 w h)
theorem inlX1 : ∀ w ∈ wsX10, w ∈ wsL_law := fun _ h => List.mem_append_left _ (List.mem_append_left _ (List.mem_append_left _ (List.mem_append_left _ (List.mem_append_left _ (List.mem_append_left _ (List.mem_append_left _ (List.mem_append_right _ h)))))))
theorem inX1 : ∀ w ∈ wsX10, w ∈ lw_tbl := fun w h => wsL_law_in w (inlX1 w h)
theorem inlX2 : ∀ w ∈ wsX20, w ∈ wsL_law := fun _ h => List.mem_append_left _ (List.mem_append_left _ (List.mem_append_left _ (List.mem_append_left _ (List.mem_append_left _ (List.mem_append_left _ (List.mem_append_right _ h))))))
theorem inX2 : ∀ w ∈ wsX20, w ∈ lw_tbl := fun w h => wsL_law_in w (inlX2 w h)
theorem inlX3 : ∀ w ∈ wsX30, w ∈ wsL_law := fun _ h => List.mem_append_left _ (List.mem_append_left _ (List.mem_append_left _ (List.mem_append_left _ (List.mem_append_left _ (List.mem_append_right _ h)))))
theorem inX3 : ∀ w ∈ wsX30, w ∈ lw_tbl := fun w h => wsL_law_in w (inlX3 w h)
theorem inlX4 : ∀ w ∈ wsX40, w ∈ wsL_law := fun _ h => List.mem_append_left _ (List.mem_append_left _ (List.mem_append_left _ (List.mem_append_left _ (List.mem_append_left _ (List.mem_append_left _ (List.mem_append_left _ (List.mem_append_left _ (List.mem_append_left _ (List.mem_append_right _ h)))))))))
theorem inX4 : ∀ w ∈ wsX40, w ∈ lw_tbl := fun w h => wsL_law_in w (inlX4 w h)
theorem inlX5 : ∀ w ∈ wsX50, w ∈ wsL_law := fun _ h => List.mem_append_left _ (List.mem_append_left _ (List.mem_append_left _ (List.mem_append_left _ (List.mem_append_left _ (List.mem_append_left _ (List.mem_append_left _ (List.mem_append_left _ (List.mem_append_right _ h))))))))
theorem inX5 : ∀ w ∈ wsX50, w ∈ lw_tbl := fun w h => wsL_law_in w (inlX5 w h)
theorem inJ9 : ∀ w ∈ wsJ90, w ∈ lw_tbl := by decide +kernel
theorem inJ0 : ∀ w ∈ wsJ00, w ∈ lw_tbl := by decide +kernel
theorem dL_tape_0 : decode cL_tape 0 = .ok (.aload_n 3, 1) := by decide +kernel
theorem dL_tape_1 : decode cL_tape 1 = .ok (.iconst 0, 1) := by decide +kernel
theorem dL_tape_2 : decode cL_tape 2 = .ok (.aload_n 0, 1) := by decide +kernel
theorem dL_tape_3 : decode cL_tape 3 = .ok (.iload_n 1, 1) := by decide +kernel
theorem dL_tape_4 : decode cL_tape 4 = .ok (.iload_n 2, 1) := by decide +kernel
theorem dL_tape_5 : decode cL_tape 5 = .ok (.invokevirtual 7, 3) := by decide +kernel
theorem dL_tape_8 : decode cL_tape 8 = .ok (.i2l, 1) := by decide +kernel
theorem dL_tape_9 : decode cL_tape 9 = .ok (.lastore, 1) := by decide +kernel
theorem dL_tape_10 : decode cL_tape 10 = .ok (.goto 11, 3) := by decide +kernel
theorem dL_tape_13 : decode cL_tape 13 = .ok (.astore 4, 2) := by decide +kernel
theorem dL_tape_15 : decode cL_tape 15 = .ok (.iconst 1, 1) := by decide +kernel
theorem dL_tape_16 : decode cL_tape 16 = .ok (.ireturn, 1) := by decide +kernel
theorem dL_tape_17 : decode cL_tape 17 = .ok (.astore 4, 2) := by decide +kernel
theorem dL_tape_19 : decode cL_tape 19 = .ok (.iconst 2, 1) := by decide +kernel
theorem dL_tape_20 : decode cL_tape 20 = .ok (.ireturn, 1) := by decide +kernel
theorem dL_tape_21 : decode cL_tape 21 = .ok (.iconst 0, 1) := by decide +kernel
theorem dL_tape_22 : decode cL_tape 22 = .ok (.ireturn, 1) := by decide +kernel
set_option maxRecDepth 20000 in
theorem ggL_carry_X4_carry : GoodIn wsL_carry wsX4_carry := goodIn_ca (goodIn_ca (goodIn_r _ [7, 8, 9, 10, 11, 12, 13, 14, 6, 15, 16, 17, 18, 19, 20, 21, 22, 23, 24, 25, 26, 27, 28, 29, 30, 31, 32, 33, 34, 35, 36, 37, 38, 39] (by decide +kernel) (by decide +kernel)) (goodIn_sub (fun _ h => List.mem_cons_of_mem _ (List.mem_append_left _ (List.mem_append_right _ h))) (by decide +kernel))) (goodIn_sub (fun _ h => List.mem_cons_of_mem _ (List.mem_append_right _ h)) (by decide +kernel))
set_option maxRecDepth 20000 in
theorem gL_carry_X4_carry : GoodIn wsL_carry (wsV RL 17 RX4 yX4_carry wsX4_carry) := goodIn_app (goodIn_of _ (by decide +kernel)) ggL_carry_X4_carry
theorem dL_carry_0 : decode cL_carry 0 = .ok (.aload_n 3, 1) := by decide +kernel
theorem dL_carry_1 : decode cL_carry 1 = .ok (.iconst 0, 1) := by decide +kernel
theorem dL_carry_2 : decode cL_carry 2 = .ok (.aload_n 0, 1) := by decide +kernel
theorem dL_carry_3 : decode cL_carry 3 = .ok (.iload_n 1, 1) := by decide +kernel
theorem dL_carry_4 : decode cL_carry 4 = .ok (.iload_n 2, 1) := by decide +kernel
theorem dL_carry_5 : decode cL_carry 5 = .ok (.invokevirtual 17, 3) := by decide +kernel
theorem dL_carry_8 : decode cL_carry 8 = .ok (.i2l, 1) := by decide +kernel
theorem dL_carry_9 : decode cL_carry 9 = .ok (.lastore, 1) := by decide +kernel
theorem dL_carry_10 : decode cL_carry 10 = .ok (.goto 11, 3) := by decide +kernel
theorem dL_carry_13 : decode cL_carry 13 = .ok (.astore 4, 2) := by decide +kernel
theorem dL_carry_15 : decode cL_carry 15 = .ok (.iconst 1, 1) := by decide +kernel
theorem dL_carry_16 : decode cL_carry 16 = .ok (.ireturn, 1) := by decide +kernel
theorem dL_carry_17 : decode cL_carry 17 = .ok (.astore 4, 2) := by decide +kernel
theorem dL_carry_19 : decode cL_carry 19 = .ok (.iconst 2, 1) := by decide +kernel
theorem dL_carry_20 : decode cL_carry 20 = .ok (.ireturn, 1) := by decide +kernel
theorem dL_carry_21 : decode cL_carry 21 = .ok (.iconst 0, 1) := by decide +kernel
theorem dL_carry_22 : decode cL_carry 22 = .ok (.ireturn, 1) := by decide +kernel
set_option maxRecDepth 20000 in
theorem ggL_placeOf_X4_placeOf : GoodIn wsL_placeOf wsX4_placeOf := goodIn_ca (goodIn_r _ [6, 7, 8, 9, 5, 10, 11, 12, 13, 14, 15, 16, 17, 18, 19, 20, 21, 22, 23, 24, 25, 26, 27, 28, 29, 30, 31, 32] (by decide +kernel) (by decide +kernel)) (goodIn_sub (fun _ h => List.mem_cons_of_mem _ (List.mem_append_right _ h)) (by decide +kernel))
set_option maxRecDepth 20000 in
theorem gL_placeOf_X4_placeOf : GoodIn wsL_placeOf (wsV RL 22 RX4 yX4_placeOf wsX4_placeOf) := goodIn_app (goodIn_of _ (by decide +kernel)) ggL_placeOf_X4_placeOf
theorem dL_placeOf_0 : decode cL_placeOf 0 = .ok (.aload_n 2, 1) := by decide +kernel
theorem dL_placeOf_1 : decode cL_placeOf 1 = .ok (.iconst 0, 1) := by decide +kernel
theorem dL_placeOf_2 : decode cL_placeOf 2 = .ok (.aload_n 0, 1) := by decide +kernel
theorem dL_placeOf_3 : decode cL_placeOf 3 = .ok (.iload_n 1, 1) := by decide +kernel
theorem dL_placeOf_4 : decode cL_placeOf 4 = .ok (.invokevirtual 22, 3) := by decide +kernel
theorem dL_placeOf_7 : decode cL_placeOf 7 = .ok (.i2l, 1) := by decide +kernel
theorem dL_placeOf_8 : decode cL_placeOf 8 = .ok (.lastore, 1) := by decide +kernel
theorem dL_placeOf_9 : decode cL_placeOf 9 = .ok (.goto 6, 3) := by decide +kernel
theorem dL_placeOf_12 : decode cL_placeOf 12 = .ok (.astore_n 3, 1) := by decide +kernel
theorem dL_placeOf_13 : decode cL_placeOf 13 = .ok (.iconst 1, 1) := by decide +kernel
theorem dL_placeOf_14 : decode cL_placeOf 14 = .ok (.ireturn, 1) := by decide +kernel
theorem dL_placeOf_15 : decode cL_placeOf 15 = .ok (.iconst 0, 1) := by decide +kernel
theorem dL_placeOf_16 : decode cL_placeOf 16 = .ok (.ireturn, 1) := by decide +kernel
set_option maxRecDepth 20000 in
theorem ggL_files_X4_files : GoodIn wsL_files wsX4_files := goodIn_ca (goodIn_r _ [6, 7, 8, 9, 5, 10, 11, 12, 13, 14, 15, 16, 17, 18, 19, 20, 21, 22, 23, 24, 25, 26, 27] (by decide +kernel) (by decide +kernel)) (goodIn_sub (fun _ h => List.mem_cons_of_mem _ (List.mem_append_right _ h)) (by decide +kernel))
set_option maxRecDepth 20000 in
theorem gL_files_X4_files : GoodIn wsL_files (wsV RL 26 RX4 yX4_files wsX4_files) := goodIn_app (goodIn_of _ (by decide +kernel)) ggL_files_X4_files
theorem dL_files_0 : decode cL_files 0 = .ok (.aload_n 2, 1) := by decide +kernel
theorem dL_files_1 : decode cL_files 1 = .ok (.iconst 0, 1) := by decide +kernel
theorem dL_files_2 : decode cL_files 2 = .ok (.aload_n 0, 1) := by decide +kernel
theorem dL_files_3 : decode cL_files 3 = .ok (.iload_n 1, 1) := by decide +kernel
theorem dL_files_4 : decode cL_files 4 = .ok (.invokevirtual 26, 3) := by decide +kernel
theorem dL_files_7 : decode cL_files 7 = .ok (.i2l, 1) := by decide +kernel
theorem dL_files_8 : decode cL_files 8 = .ok (.lastore, 1) := by decide +kernel
theorem dL_files_9 : decode cL_files 9 = .ok (.goto 6, 3) := by decide +kernel
theorem dL_files_12 : decode cL_files 12 = .ok (.astore_n 3, 1) := by decide +kernel
theorem dL_files_13 : decode cL_files 13 = .ok (.iconst 1, 1) := by decide +kernel
theorem dL_files_14 : decode cL_files 14 = .ok (.ireturn, 1) := by decide +kernel
theorem dL_files_15 : decode cL_files 15 = .ok (.iconst 0, 1) := by decide +kernel
theorem dL_files_16 : decode cL_files 16 = .ok (.ireturn, 1) := by decide +kernel
set_option maxRecDepth 20000 in
theorem ggL_start_X4_start : GoodIn wsL_start wsX4_start := goodIn_ca (goodIn_r _ [6, 7, 8, 9, 5, 10, 11, 12, 13, 14, 15, 16, 17, 18, 19, 20, 21, 22, 23, 24, 25, 26, 27, 28, 29, 30, 31, 32, 33, 34, 35, 36, 37] (by decide +kernel) (by decide +kernel)) (goodIn_sub (fun _ h => List.mem_cons_of_mem _ (List.mem_append_right _ h)) (by decide +kernel))
set_option maxRecDepth 20000 in
theorem gL_start_X4_start : GoodIn wsL_start (wsV RL 29 RX4 yX4_start wsX4_start) := goodIn_app (goodIn_of _ (by decide +kernel)) ggL_start_X4_start
theorem dL_start_0 : decode cL_start 0 = .ok (.aload_n 3, 1) := by decide +kernel
theorem dL_start_1 : decode cL_start 1 = .ok (.iconst 0, 1) := by decide +kernel
theorem dL_start_2 : decode cL_start 2 = .ok (.aload_n 0, 1) := by decide +kernel
theorem dL_start_3 : decode cL_start 3 = .ok (.iload_n 1, 1) := by decide +kernel
theorem dL_start_4 : decode cL_start 4 = .ok (.iload_n 2, 1) := by decide +kernel
theorem dL_start_5 : decode cL_start 5 = .ok (.invokevirtual 29, 3) := by decide +kernel
theorem dL_start_8 : decode cL_start 8 = .ok (.i2l, 1) := by decide +kernel
theorem dL_start_9 : decode cL_start 9 = .ok (.lastore, 1) := by decide +kernel
theorem dL_start_10 : decode cL_start 10 = .ok (.goto 7, 3) := by decide +kernel
theorem dL_start_13 : decode cL_start 13 = .ok (.astore 4, 2) := by decide +kernel
theorem dL_start_15 : decode cL_start 15 = .ok (.iconst 1, 1) := by decide +kernel
theorem dL_start_16 : decode cL_start 16 = .ok (.ireturn, 1) := by decide +kernel
theorem dL_start_17 : decode cL_start 17 = .ok (.iconst 0, 1) := by decide +kernel
theorem dL_start_18 : decode cL_start 18 = .ok (.ireturn, 1) := by decide +kernel
set_option maxRecDepth 20000 in
theorem ggL_along_X4_along : GoodIn wsL_along wsX4_along := goodIn_ca (goodIn_r _ [6, 7, 8, 9, 10, 11, 5, 12, 13, 14, 15, 16, 17, 18, 19, 20, 21, 22, 23, 24, 25, 26, 27, 28, 29, 30, 31, 32, 33, 34, 35, 36, 37, 38, 39, 40, 41, 42, 43, 44] (by decide +kernel) (by decide +kernel)) (goodIn_sub (fun _ h => List.mem_cons_of_mem _ (List.mem_append_right _ h)) (by decide +kernel))
set_option maxRecDepth 20000 in
theorem gL_along_X4_along : GoodIn wsL_along (wsV RL 32 RX4 yX4_along wsX4_along) := goodIn_app (goodIn_of _ (by decide +kernel)) ggL_along_X4_along
theorem dL_along_0 : decode cL_along 0 = .ok (.aload_n 3, 1) := by decide +kernel
theorem dL_along_1 : decode cL_along 1 = .ok (.iconst 0, 1) := by decide +kernel
theorem dL_along_2 : decode cL_along 2 = .ok (.aload_n 0, 1) := by decide +kernel
theorem dL_along_3 : decode cL_along 3 = .ok (.iload_n 1, 1) := by decide +kernel
theorem dL_along_4 : decode cL_along 4 = .ok (.iload_n 2, 1) := by decide +kernel
theorem dL_along_5 : decode cL_along 5 = .ok (.invokevirtual 32, 3) := by decide +kernel
theorem dL_along_8 : decode cL_along 8 = .ok (.i2l, 1) := by decide +kernel
theorem dL_along_9 : decode cL_along 9 = .ok (.lastore, 1) := by decide +kernel
theorem dL_along_10 : decode cL_along 10 = .ok (.goto 7, 3) := by decide +kernel
theorem dL_along_13 : decode cL_along 13 = .ok (.astore 4, 2) := by decide +kernel
theorem dL_along_15 : decode cL_along 15 = .ok (.iconst 1, 1) := by decide +kernel
theorem dL_along_16 : decode cL_along 16 = .ok (.ireturn, 1) := by decide +kernel
theorem dL_along_17 : decode cL_along 17 = .ok (.iconst 0, 1) := by decide +kernel
theorem dL_along_18 : decode cL_along 18 = .ok (.ireturn, 1) := by decide +kernel
set_option maxRecDepth 20000 in
theorem ggL_drive_X4_drive : GoodIn wsL_drive wsX4_drive := goodIn_ca (goodIn_ca (goodIn_r _ [7, 8, 9, 10, 11, 12, 13, 14, 15, 16, 17, 18, 19, 20, 21, 22, 23, 24, 25, 26, 27, 28, 29, 30, 31, 32, 33, 34, 35, 36, 37, 38, 39, 40, 41] (by decide +kernel) (by decide +kernel)) (goodIn_sub (fun _ h => List.mem_cons_of_mem _ (List.mem_append_left _ (List.mem_append_right _ h))) (by decide +kernel))) (goodIn_sub (fun _ h => List.mem_cons_of_mem _ (List.mem_append_right _ h)) (by decide +kernel))
set_option maxRecDepth 20000 in
theorem gL_drive_X4_drive : GoodIn wsL_drive (wsV RL 35 RX4 yX4_drive wsX4_drive) := goodIn_app (goodIn_of _ (by decide +kernel)) ggL_drive_X4_drive
theorem dL_drive_0 : decode cL_drive 0 = .ok (.aload_n 2, 1) := by decide +kernel
theorem dL_drive_1 : decode cL_drive 1 = .ok (.iconst 0, 1) := by decide +kernel
theorem dL_drive_2 : decode cL_drive 2 = .ok (.aload_n 0, 1) := by decide +kernel
theorem dL_drive_3 : decode cL_drive 3 = .ok (.iload_n 1, 1) := by decide +kernel
theorem dL_drive_4 : decode cL_drive 4 = .ok (.invokevirtual 35, 3) := by decide +kernel
theorem dL_drive_7 : decode cL_drive 7 = .ok (.i2l, 1) := by decide +kernel
theorem dL_drive_8 : decode cL_drive 8 = .ok (.lastore, 1) := by decide +kernel
theorem dL_drive_9 : decode cL_drive 9 = .ok (.goto 9, 3) := by decide +kernel
theorem dL_drive_12 : decode cL_drive 12 = .ok (.astore_n 3, 1) := by decide +kernel
theorem dL_drive_13 : decode cL_drive 13 = .ok (.iconst 1, 1) := by decide +kernel
theorem dL_drive_14 : decode cL_drive 14 = .ok (.ireturn, 1) := by decide +kernel
theorem dL_drive_15 : decode cL_drive 15 = .ok (.astore_n 3, 1) := by decide +kernel
theorem dL_drive_16 : decode cL_drive 16 = .ok (.iconst 2, 1) := by decide +kernel
theorem dL_drive_17 : decode cL_drive 17 = .ok (.ireturn, 1) := by decide +kernel
theorem dL_drive_18 : decode cL_drive 18 = .ok (.iconst 0, 1) := by decide +kernel
theorem dL_drive_19 : decode cL_drive 19 = .ok (.ireturn, 1) := by decide +kernel
set_option maxRecDepth 20000 in
theorem ggL_mount_X4_mount : GoodIn wsL_mount wsX4_mount := goodIn_ca (goodIn_ca (goodIn_r _ [7, 8, 9, 10, 11, 12, 6, 13, 14, 15, 16, 17, 18, 19, 20, 21, 22, 23, 24, 25, 26, 27, 28, 29, 30, 31, 32, 33, 34, 35, 36, 37, 38, 39, 40, 41, 42, 43, 44, 45, 46, 47, 48, 49, 50, 51, 52, 53, 54, 55, 56, 57, 58, 59, 60] (by decide +kernel) (by decide +kernel)) (goodIn_sub (fun _ h => List.mem_cons_of_mem _ (List.mem_append_left _ (List.mem_append_right _ h))) (by decide +kernel))) (goodIn_sub (fun _ h => List.mem_cons_of_mem _ (List.mem_append_right _ h)) (by decide +kernel))
set_option maxRecDepth 20000 in
theorem gL_mount_X4_mount : GoodIn wsL_mount (wsV RL 38 RX4 yX4_mount wsX4_mount) := goodIn_app (goodIn_of _ (by decide +kernel)) ggL_mount_X4_mount
theorem dL_mount_0 : decode cL_mount 0 = .ok (.aload_n 3, 1) := by decide +kernel
theorem dL_mount_1 : decode cL_mount 1 = .ok (.iconst 0, 1) := by decide +kernel
theorem dL_mount_2 : decode cL_mount 2 = .ok (.aload_n 0, 1) := by decide +kernel
theorem dL_mount_3 : decode cL_mount 3 = .ok (.iload_n 1, 1) := by decide +kernel
theorem dL_mount_4 : decode cL_mount 4 = .ok (.iload_n 2, 1) := by decide +kernel
theorem dL_mount_5 : decode cL_mount 5 = .ok (.invokevirtual 38, 3) := by decide +kernel
theorem dL_mount_8 : decode cL_mount 8 = .ok (.i2l, 1) := by decide +kernel
theorem dL_mount_9 : decode cL_mount 9 = .ok (.lastore, 1) := by decide +kernel
theorem dL_mount_10 : decode cL_mount 10 = .ok (.goto 11, 3) := by decide +kernel
theorem dL_mount_13 : decode cL_mount 13 = .ok (.astore 4, 2) := by decide +kernel
theorem dL_mount_15 : decode cL_mount 15 = .ok (.iconst 1, 1) := by decide +kernel
theorem dL_mount_16 : decode cL_mount 16 = .ok (.ireturn, 1) := by decide +kernel
theorem dL_mount_17 : decode cL_mount 17 = .ok (.astore 4, 2) := by decide +kernel
theorem dL_mount_19 : decode cL_mount 19 = .ok (.iconst 2, 1) := by decide +kernel
theorem dL_mount_20 : decode cL_mount 20 = .ok (.ireturn, 1) := by decide +kernel
theorem dL_mount_21 : decode cL_mount 21 = .ok (.iconst 0, 1) := by decide +kernel
theorem dL_mount_22 : decode cL_mount 22 = .ok (.ireturn, 1) := by decide +kernel
set_option maxRecDepth 20000 in
theorem ggL_unmount_X4_unmount : GoodIn wsL_unmount wsX4_unmount := goodIn_ca (goodIn_ca (goodIn_r _ [7, 8, 9, 10, 6, 11, 12, 13, 14, 15, 16, 17, 18, 19, 20, 21, 22, 23, 24, 25, 26, 27, 28, 29, 30, 31, 32, 33, 34, 35, 36, 37, 38, 39, 40, 41, 42, 43, 44, 45, 46, 47, 48, 49, 50, 51, 52, 53, 54, 55, 56, 57, 58, 59, 60, 61, 62, 63, 64, 65, 66, 67, 68, 69, 70, 71] (by decide +kernel) (by decide +kernel)) (goodIn_sub (fun _ h => List.mem_cons_of_mem _ (List.mem_append_left _ (List.mem_append_right _ h))) (by decide +kernel))) (goodIn_sub (fun _ h => List.mem_cons_of_mem _ (List.mem_append_right _ h)) (by decide +kernel))
set_option maxRecDepth 20000 in
theorem gL_unmount_X4_unmount : GoodIn wsL_unmount (wsV RL 41 RX4 yX4_unmount wsX4_unmount) := goodIn_app (goodIn_of _ (by decide +kernel)) ggL_unmount_X4_unmount
theorem dL_unmount_0 : decode cL_unmount 0 = .ok (.aload_n 2, 1) := by decide +kernel
theorem dL_unmount_1 : decode cL_unmount 1 = .ok (.iconst 0, 1) := by decide +kernel
theorem dL_unmount_2 : decode cL_unmount 2 = .ok (.aload_n 0, 1) := by decide +kernel
theorem dL_unmount_3 : decode cL_unmount 3 = .ok (.iload_n 1, 1) := by decide +kernel
theorem dL_unmount_4 : decode cL_unmount 4 = .ok (.invokevirtual 41, 3) := by decide +kernel
theorem dL_unmount_7 : decode cL_unmount 7 = .ok (.i2l, 1) := by decide +kernel
theorem dL_unmount_8 : decode cL_unmount 8 = .ok (.lastore, 1) := by decide +kernel
theorem dL_unmount_9 : decode cL_unmount 9 = .ok (.goto 9, 3) := by decide +kernel
theorem dL_unmount_12 : decode cL_unmount 12 = .ok (.astore_n 3, 1) := by decide +kernel
theorem dL_unmount_13 : decode cL_unmount 13 = .ok (.iconst 1, 1) := by decide +kernel
theorem dL_unmount_14 : decode cL_unmount 14 = .ok (.ireturn, 1) := by decide +kernel
theorem dL_unmount_15 : decode cL_unmount 15 = .ok (.astore_n 3, 1) := by decide +kernel
theorem dL_unmount_16 : decode cL_unmount 16 = .ok (.iconst 2, 1) := by decide +kernel
theorem dL_unmount_17 : decode cL_unmount 17 = .ok (.ireturn, 1) := by decide +kernel
theorem dL_unmount_18 : decode cL_unmount 18 = .ok (.iconst 0, 1) := by decide +kernel
theorem dL_unmount_19 : decode cL_unmount 19 = .ok (.ireturn, 1) := by decide +kernel
set_option maxRecDepth 20000 in
theorem ggL_write_X4_write : GoodIn wsL_write wsX4_write := goodIn_ca (goodIn_ca (goodIn_ca (goodIn_r _ [8, 9, 10, 11, 12, 13, 14, 15, 7, 16, 17, 18, 19, 20, 21, 22, 23, 24, 25, 26, 27, 28, 29, 30, 31, 32, 33, 34, 35, 36, 37, 38, 39, 40, 41, 42, 43, 44, 45, 46, 47, 48, 49, 50, 51, 52, 53, 54, 55, 56, 57, 58, 59, 60, 61, 62, 63, 64, 65, 66, 67, 68, 69, 70, 71, 72, 73, 74, 75, 76, 77, 78, 79, 80, 81, 82, 83, 84, 85, 86, 87, 88, 89, 90, 91, 92, 93, 94, 95, 96, 97, 98, 99, 100, 101, 102, 103, 104, 105, 106, 107, 108, 109, 110] (by decide +kernel) (by decide +kernel)) (goodIn_sub (fun _ h => List.mem_cons_of_mem _ (List.mem_append_left _ (List.mem_append_left _ (List.mem_append_right _ h)))) (by decide +kernel))) (goodIn_sub (fun _ h => List.mem_cons_of_mem _ (List.mem_append_left _ (List.mem_append_right _ h))) (by decide +kernel))) (goodIn_sub (fun _ h => List.mem_cons_of_mem _ (List.mem_append_right _ h)) (by decide +kernel))
set_option maxRecDepth 20000 in
theorem gL_write_X4_write : GoodIn wsL_write (wsV RL 44 RX4 yX4_write wsX4_write) := goodIn_app (goodIn_of _ (by decide +kernel)) ggL_write_X4_write
theorem dL_write_0 : decode cL_write 0 = .ok (.aload_n 3, 1) := by decide +kernel
theorem dL_write_1 : decode cL_write 1 = .ok (.iconst 0, 1) := by decide +kernel
theorem dL_write_2 : decode cL_write 2 = .ok (.aload_n 0, 1) := by decide +kernel
theorem dL_write_3 : decode cL_write 3 = .ok (.iload_n 1, 1) := by decide +kernel
theorem dL_write_4 : decode cL_write 4 = .ok (.iload_n 2, 1) := by decide +kernel
theorem dL_write_5 : decode cL_write 5 = .ok (.invokevirtual 44, 3) := by decide +kernel
theorem dL_write_8 : decode cL_write 8 = .ok (.i2l, 1) := by decide +kernel
theorem dL_write_9 : decode cL_write 9 = .ok (.lastore, 1) := by decide +kernel
theorem dL_write_10 : decode cL_write 10 = .ok (.goto 15, 3) := by decide +kernel
theorem dL_write_13 : decode cL_write 13 = .ok (.astore 4, 2) := by decide +kernel
theorem dL_write_15 : decode cL_write 15 = .ok (.iconst 1, 1) := by decide +kernel
theorem dL_write_16 : decode cL_write 16 = .ok (.ireturn, 1) := by decide +kernel
theorem dL_write_17 : decode cL_write 17 = .ok (.astore 4, 2) := by decide +kernel
theorem dL_write_19 : decode cL_write 19 = .ok (.iconst 2, 1) := by decide +kernel
theorem dL_write_20 : decode cL_write 20 = .ok (.ireturn, 1) := by decide +kernel
theorem dL_write_21 : decode cL_write 21 = .ok (.astore 4, 2) := by decide +kernel
theorem dL_write_23 : decode cL_write 23 = .ok (.iconst 3, 1) := by decide +kernel
theorem dL_write_24 : decode cL_write 24 = .ok (.ireturn, 1) := by decide +kernel
theorem dL_write_25 : decode cL_write 25 = .ok (.iconst 0, 1) := by decide +kernel
theorem dL_write_26 : decode cL_write 26 = .ok (.ireturn, 1) := by decide +kernel
set_option maxRecDepth 20000 in
theorem ggL_read_X4_read : GoodIn wsL_read wsX4_read := goodIn_ca (goodIn_ca (goodIn_r _ [7, 8, 9, 10, 6, 11, 12, 13, 14, 15, 16, 17, 18, 19, 20, 21, 22, 23, 24, 25, 26, 27, 28, 29, 30, 31, 32, 33, 34, 35, 36, 37, 38, 39, 40, 41, 42, 43, 44, 45, 46, 47, 48, 49, 50, 51, 52, 53, 54, 55, 56, 57, 58, 59, 60, 61, 62, 63, 64, 65, 66, 67, 68, 69, 70, 71, 72, 73, 74, 75, 76, 77, 78, 79, 80, 81, 82, 83, 84, 85, 86, 87, 88, 89, 90, 91, 92, 93, 94, 95, 96] (by decide +kernel) (by decide +kernel)) (goodIn_sub (fun _ h => List.mem_cons_of_mem _ (List.mem_append_left _ (List.mem_append_right _ h))) (by decide +kernel))) (goodIn_sub (fun _ h => List.mem_cons_of_mem _ (List.mem_append_right _ h)) (by decide +kernel))
set_option maxRecDepth 20000 in
theorem gL_read_X4_read : GoodIn wsL_read (wsV RL 47 RX4 yX4_read wsX4_read) := goodIn_app (goodIn_of _ (by decide +kernel)) ggL_read_X4_read
theorem dL_read_0 : decode cL_read 0 = .ok (.aload_n 3, 1) := by decide +kernel
theorem dL_read_1 : decode cL_read 1 = .ok (.iconst 0, 1) := by decide +kernel
theorem dL_read_2 : decode cL_read 2 = .ok (.aload_n 0, 1) := by decide +kernel
theorem dL_read_3 : decode cL_read 3 = .ok (.iload_n 1, 1) := by decide +kernel
theorem dL_read_4 : decode cL_read 4 = .ok (.iload_n 2, 1) := by decide +kernel
theorem dL_read_5 : decode cL_read 5 = .ok (.invokevirtual 47, 3) := by decide +kernel
theorem dL_read_8 : decode cL_read 8 = .ok (.i2l, 1) := by decide +kernel
theorem dL_read_9 : decode cL_read 9 = .ok (.lastore, 1) := by decide +kernel
theorem dL_read_10 : decode cL_read 10 = .ok (.goto 11, 3) := by decide +kernel
theorem dL_read_13 : decode cL_read 13 = .ok (.astore 4, 2) := by decide +kernel
theorem dL_read_15 : decode cL_read 15 = .ok (.iconst 1, 1) := by decide +kernel
theorem dL_read_16 : decode cL_read 16 = .ok (.ireturn, 1) := by decide +kernel
theorem dL_read_17 : decode cL_read 17 = .ok (.astore 4, 2) := by decide +kernel
theorem dL_read_19 : decode cL_read 19 = .ok (.iconst 2, 1) := by decide +kernel
theorem dL_read_20 : decode cL_read 20 = .ok (.ireturn, 1) := by decide +kernel
theorem dL_read_21 : decode cL_read 21 = .ok (.iconst 0, 1) := by decide +kernel
theorem dL_read_22 : decode cL_read 22 = .ok (.ireturn, 1) := by decide +kernel
set_option maxRecDepth 20000 in
theorem ggL_clean_X4_clean : GoodIn wsL_clean wsX4_clean := goodIn_ca (goodIn_ca (goodIn_r _ [7, 8, 9, 10, 11, 12, 6, 13, 14, 15, 16, 17, 18, 19, 20, 21, 22, 23, 24, 25, 26, 27, 28, 29, 30, 31, 32, 33, 34] (by decide +kernel) (by decide +kernel)) (goodIn_sub (fun _ h => List.mem_cons_of_mem _ (List.mem_append_left _ (List.mem_append_right _ h))) (by decide +kernel))) (goodIn_sub (fun _ h => List.mem_cons_of_mem _ (List.mem_append_right _ h)) (by decide +kernel))
set_option maxRecDepth 20000 in
theorem gL_clean_X4_clean : GoodIn wsL_clean (wsV RL 50 RX4 yX4_clean wsX4_clean) := goodIn_app (goodIn_of _ (by decide +kernel)) ggL_clean_X4_clean
theorem dL_clean_0 : decode cL_clean 0 = .ok (.aload_n 2, 1) := by decide +kernel
theorem dL_clean_1 : decode cL_clean 1 = .ok (.iconst 0, 1) := by decide +kernel
theorem dL_clean_2 : decode cL_clean 2 = .ok (.aload_n 0, 1) := by decide +kernel
theorem dL_clean_3 : decode cL_clean 3 = .ok (.iload_n 1, 1) := by decide +kernel
theorem dL_clean_4 : decode cL_clean 4 = .ok (.invokevirtual 50, 3) := by decide +kernel
theorem dL_clean_7 : decode cL_clean 7 = .ok (.i2l, 1) := by decide +kernel
theorem dL_clean_8 : decode cL_clean 8 = .ok (.lastore, 1) := by decide +kernel
theorem dL_clean_9 : decode cL_clean 9 = .ok (.goto 9, 3) := by decide +kernel
theorem dL_clean_12 : decode cL_clean 12 = .ok (.astore_n 3, 1) := by decide +kernel
theorem dL_clean_13 : decode cL_clean 13 = .ok (.iconst 1, 1) := by decide +kernel
theorem dL_clean_14 : decode cL_clean 14 = .ok (.ireturn, 1) := by decide +kernel
theorem dL_clean_15 : decode cL_clean 15 = .ok (.astore_n 3, 1) := by decide +kernel
theorem dL_clean_16 : decode cL_clean 16 = .ok (.iconst 2, 1) := by decide +kernel
theorem dL_clean_17 : decode cL_clean 17 = .ok (.ireturn, 1) := by decide +kernel
theorem dL_clean_18 : decode cL_clean 18 = .ok (.iconst 0, 1) := by decide +kernel
theorem dL_clean_19 : decode cL_clean 19 = .ok (.ireturn, 1) := by decide +kernel
set_option maxRecDepth 20000 in
theorem ggL_clock_X4_clock : GoodIn wsL_clock wsX4_clock := goodIn_ca (goodIn_r _ [6, 7, 8, 9, 5, 10, 11, 12, 13, 14, 15, 16, 17, 18, 19, 20, 21, 22, 23, 24, 25, 26] (by decide +kernel) (by decide +kernel)) (goodIn_sub (fun _ h => List.mem_cons_of_mem _ (List.mem_append_right _ h)) (by decide +kernel))
set_option maxRecDepth 20000 in
theorem gL_clock_X4_clock : GoodIn wsL_clock (wsV RL 53 RX4 yX4_clock wsX4_clock) := goodIn_app (goodIn_of _ (by decide +kernel)) ggL_clock_X4_clock
theorem dL_clock_0 : decode cL_clock 0 = .ok (.aload_n 2, 1) := by decide +kernel
theorem dL_clock_1 : decode cL_clock 1 = .ok (.iconst 0, 1) := by decide +kernel
theorem dL_clock_2 : decode cL_clock 2 = .ok (.aload_n 0, 1) := by decide +kernel
theorem dL_clock_3 : decode cL_clock 3 = .ok (.iload_n 1, 1) := by decide +kernel
theorem dL_clock_4 : decode cL_clock 4 = .ok (.invokevirtual 53, 3) := by decide +kernel
theorem dL_clock_7 : decode cL_clock 7 = .ok (.i2l, 1) := by decide +kernel
theorem dL_clock_8 : decode cL_clock 8 = .ok (.lastore, 1) := by decide +kernel
theorem dL_clock_9 : decode cL_clock 9 = .ok (.goto 6, 3) := by decide +kernel
theorem dL_clock_12 : decode cL_clock 12 = .ok (.astore_n 3, 1) := by decide +kernel
theorem dL_clock_13 : decode cL_clock 13 = .ok (.iconst 1, 1) := by decide +kernel
theorem dL_clock_14 : decode cL_clock 14 = .ok (.ireturn, 1) := by decide +kernel
theorem dL_clock_15 : decode cL_clock 15 = .ok (.iconst 0, 1) := by decide +kernel
theorem dL_clock_16 : decode cL_clock 16 = .ok (.ireturn, 1) := by decide +kernel
set_option maxRecDepth 20000 in
theorem ggL_stands_X4_stands : GoodIn wsL_stands wsX4_stands := goodIn_ca (goodIn_r _ [6, 7, 8, 9, 5, 10, 11, 12, 13, 14, 15, 16, 17, 18, 19, 20, 21, 22, 23, 24, 25, 26] (by decide +kernel) (by decide +kernel)) (goodIn_sub (fun _ h => List.mem_cons_of_mem _ (List.mem_append_right _ h)) (by decide +kernel))
set_option maxRecDepth 20000 in
theorem gL_stands_X4_stands : GoodIn wsL_stands (wsV RL 56 RX4 yX4_stands wsX4_stands) := goodIn_app (goodIn_of _ (by decide +kernel)) ggL_stands_X4_stands
theorem dL_stands_0 : decode cL_stands 0 = .ok (.aload_n 2, 1) := by decide +kernel
theorem dL_stands_1 : decode cL_stands 1 = .ok (.iconst 0, 1) := by decide +kernel
theorem dL_stands_2 : decode cL_stands 2 = .ok (.aload_n 0, 1) := by decide +kernel
theorem dL_stands_3 : decode cL_stands 3 = .ok (.iload_n 1, 1) := by decide +kernel
theorem dL_stands_4 : decode cL_stands 4 = .ok (.invokevirtual 56, 3) := by decide +kernel
theorem dL_stands_7 : decode cL_stands 7 = .ok (.i2l, 1) := by decide +kernel
theorem dL_stands_8 : decode cL_stands 8 = .ok (.lastore, 1) := by decide +kernel
theorem dL_stands_9 : decode cL_stands 9 = .ok (.goto 6, 3) := by decide +kernel
theorem dL_stands_12 : decode cL_stands 12 = .ok (.astore_n 3, 1) := by decide +kernel
theorem dL_stands_13 : decode cL_stands 13 = .ok (.iconst 1, 1) := by decide +kernel
theorem dL_stands_14 : decode cL_stands 14 = .ok (.ireturn, 1) := by decide +kernel
theorem dL_stands_15 : decode cL_stands 15 = .ok (.iconst 0, 1) := by decide +kernel
theorem dL_stands_16 : decode cL_stands 16 = .ok (.ireturn, 1) := by decide +kernel
set_option maxRecDepth 20000 in
theorem ggL_job_X4_job : GoodIn wsL_job wsX4_job := goodIn_ca (goodIn_ca (goodIn_ca (goodIn_r _ [8, 9, 10, 11, 12, 13, 14, 15, 16, 17, 7, 18, 19, 20, 21, 22, 23, 24, 25, 26, 27, 28, 29, 30, 31, 32, 33, 34, 35, 36, 37, 38, 39, 40, 41, 42, 43, 44, 45, 46, 47, 48, 49, 50, 51, 52, 53, 54, 55, 56, 57, 58] (by decide +kernel) (by decide +kernel)) (goodIn_sub (fun _ h => List.mem_cons_of_mem _ (List.mem_append_left _ (List.mem_append_left _ (List.mem_append_right _ h)))) (by decide +kernel))) (goodIn_sub (fun _ h => List.mem_cons_of_mem _ (List.mem_append_left _ (List.mem_append_right _ h))) (by decide +kernel))) (goodIn_sub (fun _ h => List.mem_cons_of_mem _ (List.mem_append_right _ h)) (by decide +kernel))
set_option maxRecDepth 20000 in
theorem gL_job_X4_job : GoodIn wsL_job (wsV RL 59 RX4 yX4_job wsX4_job) := goodIn_app (goodIn_of _ (by decide +kernel)) ggL_job_X4_job
theorem dL_job_0 : decode cL_job 0 = .ok (.aload 4, 2) := by decide +kernel
theorem dL_job_2 : decode cL_job 2 = .ok (.iconst 0, 1) := by decide +kernel
theorem dL_job_3 : decode cL_job 3 = .ok (.aload_n 0, 1) := by decide +kernel
theorem dL_job_4 : decode cL_job 4 = .ok (.iload_n 1, 1) := by decide +kernel
theorem dL_job_5 : decode cL_job 5 = .ok (.iload_n 2, 1) := by decide +kernel
theorem dL_job_6 : decode cL_job 6 = .ok (.iload_n 3, 1) := by decide +kernel
theorem dL_job_7 : decode cL_job 7 = .ok (.invokevirtual 59, 3) := by decide +kernel
theorem dL_job_10 : decode cL_job 10 = .ok (.i2l, 1) := by decide +kernel
theorem dL_job_11 : decode cL_job 11 = .ok (.lastore, 1) := by decide +kernel
theorem dL_job_12 : decode cL_job 12 = .ok (.goto 15, 3) := by decide +kernel
theorem dL_job_15 : decode cL_job 15 = .ok (.astore 5, 2) := by decide +kernel
theorem dL_job_17 : decode cL_job 17 = .ok (.iconst 1, 1) := by decide +kernel
theorem dL_job_18 : decode cL_job 18 = .ok (.ireturn, 1) := by decide +kernel
theorem dL_job_19 : decode cL_job 19 = .ok (.astore 5, 2) := by decide +kernel
theorem dL_job_21 : decode cL_job 21 = .ok (.iconst 2, 1) := by decide +kernel
theorem dL_job_22 : decode cL_job 22 = .ok (.ireturn, 1) := by decide +kernel
theorem dL_job_23 : decode cL_job 23 = .ok (.astore 5, 2) := by decide +kernel
theorem dL_job_25 : decode cL_job 25 = .ok (.iconst 3, 1) := by decide +kernel
theorem dL_job_26 : decode cL_job 26 = .ok (.ireturn, 1) := by decide +kernel
theorem dL_job_27 : decode cL_job 27 = .ok (.iconst 0, 1) := by decide +kernel
theorem dL_job_28 : decode cL_job 28 = .ok (.ireturn, 1) := by decide +kernel
set_option maxRecDepth 20000 in
theorem ggL_waiting_X4_waiting : GoodIn wsL_waiting wsX4_waiting := goodIn_ca (goodIn_r _ [6, 7, 8, 9, 10, 5, 11, 12, 13, 14, 15, 16, 17, 18, 19, 20, 21, 22, 23, 24, 25, 26, 27, 28, 29, 30, 31, 32, 33, 34, 35, 36, 37, 38, 39, 40, 41] (by decide +kernel) (by decide +kernel)) (goodIn_sub (fun _ h => List.mem_cons_of_mem _ (List.mem_append_right _ h)) (by decide +kernel))
set_option maxRecDepth 20000 in
theorem gL_waiting_X4_waiting : GoodIn wsL_waiting (wsV RL 63 RX4 yX4_waiting wsX4_waiting) := goodIn_app (goodIn_of _ (by decide +kernel)) ggL_waiting_X4_waiting
theorem dL_waiting_0 : decode cL_waiting 0 = .ok (.aload_n 2, 1) := by decide +kernel
theorem dL_waiting_1 : decode cL_waiting 1 = .ok (.iconst 0, 1) := by decide +kernel
theorem dL_waiting_2 : decode cL_waiting 2 = .ok (.aload_n 0, 1) := by decide +kernel
theorem dL_waiting_3 : decode cL_waiting 3 = .ok (.iload_n 1, 1) := by decide +kernel
theorem dL_waiting_4 : decode cL_waiting 4 = .ok (.invokevirtual 63, 3) := by decide +kernel
theorem dL_waiting_7 : decode cL_waiting 7 = .ok (.i2l, 1) := by decide +kernel
theorem dL_waiting_8 : decode cL_waiting 8 = .ok (.lastore, 1) := by decide +kernel
theorem dL_waiting_9 : decode cL_waiting 9 = .ok (.goto 6, 3) := by decide +kernel
theorem dL_waiting_12 : decode cL_waiting 12 = .ok (.astore_n 3, 1) := by decide +kernel
theorem dL_waiting_13 : decode cL_waiting 13 = .ok (.iconst 1, 1) := by decide +kernel
theorem dL_waiting_14 : decode cL_waiting 14 = .ok (.ireturn, 1) := by decide +kernel
theorem dL_waiting_15 : decode cL_waiting 15 = .ok (.iconst 0, 1) := by decide +kernel
theorem dL_waiting_16 : decode cL_waiting 16 = .ok (.ireturn, 1) := by decide +kernel
set_option maxRecDepth 20000 in
theorem ggL_bestTime_X4_bestTime : GoodIn wsL_bestTime wsX4_bestTime := goodIn_ca (goodIn_ca (goodIn_r _ [7, 8, 9, 10, 11, 6, 12, 13, 14, 15, 16, 17, 18, 19, 20, 21, 22, 23, 24, 25, 26, 27, 28, 29, 30, 31, 32, 33, 34, 35, 36, 37, 38, 39, 40, 41, 42, 43, 44, 45, 46, 47, 48, 49, 50, 51, 52, 53, 54, 55, 56, 57, 58, 59, 60, 61, 62, 63, 64, 65, 66, 67, 68, 69, 70, 71, 72, 73, 74, 75, 76, 77, 78, 79, 80, 81, 82, 83, 84, 85, 86, 87, 88, 89, 90, 91, 92, 93, 94, 95, 96, 97, 98, 99, 100, 101, 102, 103, 104, 105, 106, 107, 108, 109, 110, 111, 112, 113, 114, 115, 116, 117, 118, 119, 120, 121, 122, 123, 124, 125, 126, 127, 128, 129, 130, 131, 132, 133, 134, 135, 136, 137] (by decide +kernel) (by decide +kernel)) (goodIn_sub (fun _ h => List.mem_cons_of_mem _ (List.mem_append_left _ (List.mem_append_right _ h))) (by decide +kernel))) (goodIn_sub (fun _ h => List.mem_cons_of_mem _ (List.mem_append_right _ h)) (by decide +kernel))
set_option maxRecDepth 20000 in
theorem gL_bestTime_X4_bestTime : GoodIn wsL_bestTime (wsV RL 66 RX4 yX4_bestTime wsX4_bestTime) := goodIn_app (goodIn_of _ (by decide +kernel)) ggL_bestTime_X4_bestTime
theorem dL_bestTime_0 : decode cL_bestTime 0 = .ok (.aload_n 2, 1) := by decide +kernel
theorem dL_bestTime_1 : decode cL_bestTime 1 = .ok (.iconst 0, 1) := by decide +kernel
theorem dL_bestTime_2 : decode cL_bestTime 2 = .ok (.aload_n 0, 1) := by decide +kernel
theorem dL_bestTime_3 : decode cL_bestTime 3 = .ok (.iload_n 1, 1) := by decide +kernel
theorem dL_bestTime_4 : decode cL_bestTime 4 = .ok (.invokevirtual 66, 3) := by decide +kernel
theorem dL_bestTime_7 : decode cL_bestTime 7 = .ok (.i2l, 1) := by decide +kernel
theorem dL_bestTime_8 : decode cL_bestTime 8 = .ok (.lastore, 1) := by decide +kernel
theorem dL_bestTime_9 : decode cL_bestTime 9 = .ok (.goto 9, 3) := by decide +kernel
theorem dL_bestTime_12 : decode cL_bestTime 12 = .ok (.astore_n 3, 1) := by decide +kernel
theorem dL_bestTime_13 : decode cL_bestTime 13 = .ok (.iconst 1, 1) := by decide +kernel
theorem dL_bestTime_14 : decode cL_bestTime 14 = .ok (.ireturn, 1) := by decide +kernel
theorem dL_bestTime_15 : decode cL_bestTime 15 = .ok (.astore_n 3, 1) := by decide +kernel
theorem dL_bestTime_16 : decode cL_bestTime 16 = .ok (.iconst 2, 1) := by decide +kernel
theorem dL_bestTime_17 : decode cL_bestTime 17 = .ok (.ireturn, 1) := by decide +kernel
theorem dL_bestTime_18 : decode cL_bestTime 18 = .ok (.iconst 0, 1) := by decide +kernel
theorem dL_bestTime_19 : decode cL_bestTime 19 = .ok (.ireturn, 1) := by decide +kernel
set_option maxRecDepth 20000 in
theorem ggL_bestJob_X4_bestJob : GoodIn wsL_bestJob wsX4_bestJob := goodIn_ca (goodIn_ca (goodIn_r _ [7, 8, 9, 10, 11, 12, 13, 6, 14, 15, 16, 17, 18, 19, 20, 21, 22, 23, 24, 25, 26, 27, 28, 29, 30, 31, 32, 33, 34, 35, 36, 37, 38, 39, 40, 41, 42, 43, 44, 45, 46, 47, 48, 49, 50, 51, 52, 53, 54, 55, 56, 57, 58, 59, 60, 61, 62, 63, 64, 65, 66, 67, 68, 69, 70, 71, 72, 73, 74, 75, 76, 77, 78, 79, 80, 81, 82, 83, 84, 85, 86, 87, 88, 89, 90, 91, 92, 93, 94, 95, 96, 97, 98, 99, 100, 101, 102, 103, 104, 105, 106, 107, 108, 109, 110, 111, 112, 113, 114, 115, 116, 117, 118, 119, 120, 121, 122, 123, 124, 125, 126, 127, 128, 129, 130, 131, 132, 133, 134, 135, 136, 137] (by decide +kernel) (by decide +kernel)) (goodIn_sub (fun _ h => List.mem_cons_of_mem _ (List.mem_append_left _ (List.mem_append_right _ h))) (by decide +kernel))) (goodIn_sub (fun _ h => List.mem_cons_of_mem _ (List.mem_append_right _ h)) (by decide +kernel))
set_option maxRecDepth 20000 in
theorem gL_bestJob_X4_bestJob : GoodIn wsL_bestJob (wsV RL 69 RX4 yX4_bestJob wsX4_bestJob) := goodIn_app (goodIn_of _ (by decide +kernel)) ggL_bestJob_X4_bestJob
theorem dL_bestJob_0 : decode cL_bestJob 0 = .ok (.aload_n 3, 1) := by decide +kernel
theorem dL_bestJob_1 : decode cL_bestJob 1 = .ok (.iconst 0, 1) := by decide +kernel
theorem dL_bestJob_2 : decode cL_bestJob 2 = .ok (.aload_n 0, 1) := by decide +kernel
theorem dL_bestJob_3 : decode cL_bestJob 3 = .ok (.iload_n 1, 1) := by decide +kernel
theorem dL_bestJob_4 : decode cL_bestJob 4 = .ok (.iload_n 2, 1) := by decide +kernel
theorem dL_bestJob_5 : decode cL_bestJob 5 = .ok (.invokevirtual 69, 3) := by decide +kernel
theorem dL_bestJob_8 : decode cL_bestJob 8 = .ok (.i2l, 1) := by decide +kernel
theorem dL_bestJob_9 : decode cL_bestJob 9 = .ok (.lastore, 1) := by decide +kernel
theorem dL_bestJob_10 : decode cL_bestJob 10 = .ok (.goto 11, 3) := by decide +kernel
theorem dL_bestJob_13 : decode cL_bestJob 13 = .ok (.astore 4, 2) := by decide +kernel
theorem dL_bestJob_15 : decode cL_bestJob 15 = .ok (.iconst 1, 1) := by decide +kernel
theorem dL_bestJob_16 : decode cL_bestJob 16 = .ok (.ireturn, 1) := by decide +kernel
theorem dL_bestJob_17 : decode cL_bestJob 17 = .ok (.astore 4, 2) := by decide +kernel
theorem dL_bestJob_19 : decode cL_bestJob 19 = .ok (.iconst 2, 1) := by decide +kernel
theorem dL_bestJob_20 : decode cL_bestJob 20 = .ok (.ireturn, 1) := by decide +kernel
theorem dL_bestJob_21 : decode cL_bestJob 21 = .ok (.iconst 0, 1) := by decide +kernel
theorem dL_bestJob_22 : decode cL_bestJob 22 = .ok (.ireturn, 1) := by decide +kernel
set_option maxRecDepth 20000 in
theorem ggL_insertedTime_X4_insertedTime : GoodIn wsL_insertedTime wsX4_insertedTime := goodIn_ca (goodIn_ca (goodIn_r _ [7, 8, 9, 10, 11, 6, 12, 13, 14, 15, 16, 17, 18, 19, 20, 21, 22, 23, 24, 25, 26, 27, 28, 29, 30, 31, 32, 33, 34, 35, 36, 37, 38, 39, 40, 41, 42, 43, 44, 45, 46, 47, 48, 49, 50, 51, 52, 53, 54, 55, 56, 57, 58, 59, 60, 61, 62, 63, 64, 65, 66, 67, 68, 69, 70, 71, 72, 73, 74, 75, 76, 77, 78, 79, 80, 81, 82, 83, 84, 85, 86, 87, 88, 89, 90, 91, 92, 93, 94, 95, 96, 97, 98, 99, 100, 101, 102, 103, 104, 105, 106, 107, 108, 109, 110, 111, 112, 113, 114, 115, 116, 117, 118, 119, 120, 121, 122, 123, 124, 125, 126, 127, 128, 129, 130, 131, 132, 133] (by decide +kernel) (by decide +kernel)) (goodIn_sub (fun _ h => List.mem_cons_of_mem _ (List.mem_append_left _ (List.mem_append_right _ h))) (by decide +kernel))) (goodIn_sub (fun _ h => List.mem_cons_of_mem _ (List.mem_append_right _ h)) (by decide +kernel))
set_option maxRecDepth 20000 in
theorem gL_insertedTime_X4_insertedTime : GoodIn wsL_insertedTime (wsV RL 72 RX4 yX4_insertedTime wsX4_insertedTime) := goodIn_app (goodIn_of _ (by decide +kernel)) ggL_insertedTime_X4_insertedTime
theorem dL_insertedTime_0 : decode cL_insertedTime 0 = .ok (.aload_n 2, 1) := by decide +kernel
theorem dL_insertedTime_1 : decode cL_insertedTime 1 = .ok (.iconst 0, 1) := by decide +kernel
theorem dL_insertedTime_2 : decode cL_insertedTime 2 = .ok (.aload_n 0, 1) := by decide +kernel
theorem dL_insertedTime_3 : decode cL_insertedTime 3 = .ok (.iload_n 1, 1) := by decide +kernel
theorem dL_insertedTime_4 : decode cL_insertedTime 4 = .ok (.invokevirtual 72, 3) := by decide +kernel
theorem dL_insertedTime_7 : decode cL_insertedTime 7 = .ok (.i2l, 1) := by decide +kernel
theorem dL_insertedTime_8 : decode cL_insertedTime 8 = .ok (.lastore, 1) := by decide +kernel
theorem dL_insertedTime_9 : decode cL_insertedTime 9 = .ok (.goto 9, 3) := by decide +kernel
theorem dL_insertedTime_12 : decode cL_insertedTime 12 = .ok (.astore_n 3, 1) := by decide +kernel
theorem dL_insertedTime_13 : decode cL_insertedTime 13 = .ok (.iconst 1, 1) := by decide +kernel
theorem dL_insertedTime_14 : decode cL_insertedTime 14 = .ok (.ireturn, 1) := by decide +kernel
theorem dL_insertedTime_15 : decode cL_insertedTime 15 = .ok (.astore_n 3, 1) := by decide +kernel
theorem dL_insertedTime_16 : decode cL_insertedTime 16 = .ok (.iconst 2, 1) := by decide +kernel
theorem dL_insertedTime_17 : decode cL_insertedTime 17 = .ok (.ireturn, 1) := by decide +kernel
theorem dL_insertedTime_18 : decode cL_insertedTime 18 = .ok (.iconst 0, 1) := by decide +kernel
theorem dL_insertedTime_19 : decode cL_insertedTime 19 = .ok (.ireturn, 1) := by decide +kernel
set_option maxRecDepth 20000 in
theorem ggL_triedTime_X4_triedTime : GoodIn wsL_triedTime wsX4_triedTime := goodIn_ca (goodIn_ca (goodIn_r _ [7, 8, 9, 10, 11, 6, 12, 13, 14, 15, 16, 17, 18, 19, 20, 21, 22, 23, 24, 25, 26, 27, 28, 29, 30, 31, 32, 33, 34, 35, 36, 37, 38, 39, 40, 41, 42, 43, 44, 45, 46, 47, 48, 49, 50, 51, 52, 53, 54, 55, 56, 57, 58, 59, 60, 61, 62, 63, 64, 65, 66, 67, 68, 69, 70, 71, 72, 73, 74, 75, 76, 77, 78, 79, 80, 81, 82, 83, 84, 85, 86, 87, 88, 89, 90, 91, 92, 93, 94, 95, 96, 97, 98, 99, 100, 101, 102, 103, 104, 105, 106, 107, 108, 109, 110, 111, 112, 113, 114, 115, 116, 117, 118, 119, 120, 121, 122, 123, 124, 125, 126, 127, 128, 129, 130, 131, 132, 133, 134] (by decide +kernel) (by decide +kernel)) (goodIn_sub (fun _ h => List.mem_cons_of_mem _ (List.mem_append_left _ (List.mem_append_right _ h))) (by decide +kernel))) (goodIn_sub (fun _ h => List.mem_cons_of_mem _ (List.mem_append_right _ h)) (by decide +kernel))
set_option maxRecDepth 20000 in
theorem gL_triedTime_X4_triedTime : GoodIn wsL_triedTime (wsV RL 75 RX4 yX4_triedTime wsX4_triedTime) := goodIn_app (goodIn_of _ (by decide +kernel)) ggL_triedTime_X4_triedTime
theorem dL_triedTime_0 : decode cL_triedTime 0 = .ok (.aload_n 2, 1) := by decide +kernel
theorem dL_triedTime_1 : decode cL_triedTime 1 = .ok (.iconst 0, 1) := by decide +kernel
theorem dL_triedTime_2 : decode cL_triedTime 2 = .ok (.aload_n 0, 1) := by decide +kernel
theorem dL_triedTime_3 : decode cL_triedTime 3 = .ok (.iload_n 1, 1) := by decide +kernel
theorem dL_triedTime_4 : decode cL_triedTime 4 = .ok (.invokevirtual 75, 3) := by decide +kernel
theorem dL_triedTime_7 : decode cL_triedTime 7 = .ok (.i2l, 1) := by decide +kernel
theorem dL_triedTime_8 : decode cL_triedTime 8 = .ok (.lastore, 1) := by decide +kernel
theorem dL_triedTime_9 : decode cL_triedTime 9 = .ok (.goto 9, 3) := by decide +kernel
theorem dL_triedTime_12 : decode cL_triedTime 12 = .ok (.astore_n 3, 1) := by decide +kernel
theorem dL_triedTime_13 : decode cL_triedTime 13 = .ok (.iconst 1, 1) := by decide +kernel
theorem dL_triedTime_14 : decode cL_triedTime 14 = .ok (.ireturn, 1) := by decide +kernel
theorem dL_triedTime_15 : decode cL_triedTime 15 = .ok (.astore_n 3, 1) := by decide +kernel
theorem dL_triedTime_16 : decode cL_triedTime 16 = .ok (.iconst 2, 1) := by decide +kernel
theorem dL_triedTime_17 : decode cL_triedTime 17 = .ok (.ireturn, 1) := by decide +kernel
theorem dL_triedTime_18 : decode cL_triedTime 18 = .ok (.iconst 0, 1) := by decide +kernel
theorem dL_triedTime_19 : decode cL_triedTime 19 = .ok (.ireturn, 1) := by decide +kernel
set_option maxRecDepth 20000 in
theorem ggL_work_X4_work : GoodIn wsL_work wsX4_work := goodIn_ca (goodIn_ca (goodIn_r _ [7, 8, 9, 10, 11, 12, 6, 13, 14, 15, 16, 17, 18, 19, 20, 21, 22, 23, 24, 25, 26, 27, 28, 29, 30, 31, 32, 33, 34, 35, 36, 37, 38, 39, 40, 41, 42, 43, 44, 45, 46, 47, 48, 49, 50, 51, 52, 53, 54, 55, 56, 57, 58, 59, 60, 61, 62, 63, 64, 65, 66, 67, 68, 69, 70, 71, 72, 73, 74, 75, 76, 77, 78, 79, 80, 81, 82, 83, 84, 85, 86, 87, 88, 89, 90, 91, 92, 93, 94, 95, 96, 97, 98, 99, 100, 101, 102, 103, 104, 105, 106, 107, 108, 109, 110, 111, 112, 113, 114, 115, 116, 117, 118, 119, 120, 121, 122, 123, 124, 125, 126, 127, 128, 129, 130, 131, 132, 133, 134, 135, 136, 137, 138, 139, 140, 141, 142, 143, 144, 145, 146, 147, 148, 149, 150, 151, 152, 153, 154, 155, 156, 157, 158, 159, 160, 161, 162] (by decide +kernel) (by decide +kernel)) (goodIn_sub (fun _ h => List.mem_cons_of_mem _ (List.mem_append_left _ (List.mem_append_right _ h))) (by decide +kernel))) (goodIn_sub (fun _ h => List.mem_cons_of_mem _ (List.mem_append_right _ h)) (by decide +kernel))
set_option maxRecDepth 20000 in
theorem gL_work_X4_work : GoodIn wsL_work (wsV RL 78 RX4 yX4_work wsX4_work) := goodIn_app (goodIn_of _ (by decide +kernel)) ggL_work_X4_work
theorem dL_work_0 : decode cL_work 0 = .ok (.aload_n 2, 1) := by decide +kernel
theorem dL_work_1 : decode cL_work 1 = .ok (.iconst 0, 1) := by decide +kernel
theorem dL_work_2 : decode cL_work 2 = .ok (.aload_n 0, 1) := by decide +kernel
theorem dL_work_3 : decode cL_work 3 = .ok (.iload_n 1, 1) := by decide +kernel
theorem dL_work_4 : decode cL_work 4 = .ok (.invokevirtual 78, 3) := by decide +kernel
theorem dL_work_7 : decode cL_work 7 = .ok (.i2l, 1) := by decide +kernel
theorem dL_work_8 : decode cL_work 8 = .ok (.lastore, 1) := by decide +kernel
theorem dL_work_9 : decode cL_work 9 = .ok (.goto 9, 3) := by decide +kernel
theorem dL_work_12 : decode cL_work 12 = .ok (.astore_n 3, 1) := by decide +kernel
theorem dL_work_13 : decode cL_work 13 = .ok (.iconst 1, 1) := by decide +kernel
theorem dL_work_14 : decode cL_work 14 = .ok (.ireturn, 1) := by decide +kernel
theorem dL_work_15 : decode cL_work 15 = .ok (.astore_n 3, 1) := by decide +kernel
theorem dL_work_16 : decode cL_work 16 = .ok (.iconst 2, 1) := by decide +kernel
theorem dL_work_17 : decode cL_work 17 = .ok (.ireturn, 1) := by decide +kernel
theorem dL_work_18 : decode cL_work 18 = .ok (.iconst 0, 1) := by decide +kernel
theorem dL_work_19 : decode cL_work 19 = .ok (.ireturn, 1) := by decide +kernel
set_option maxRecDepth 20000 in
theorem ggL_lose_X4_lose : GoodIn wsL_lose wsX4_lose := goodIn_ca (goodIn_ca (goodIn_r _ [7, 8, 9, 10, 11, 12, 6, 13, 14, 15, 16, 17, 18, 19, 20, 21, 22, 23, 24, 25, 26, 27, 28, 29, 30, 31, 32, 33, 34, 35, 36, 37, 38, 39] (by decide +kernel) (by decide +kernel)) (goodIn_sub (fun _ h => List.mem_cons_of_mem _ (List.mem_append_left _ (List.mem_append_right _ h))) (by decide +kernel))) (goodIn_sub (fun _ h => List.mem_cons_of_mem _ (List.mem_append_right _ h)) (by decide +kernel))
set_option maxRecDepth 20000 in
theorem gL_lose_X4_lose : GoodIn wsL_lose (wsV RL 81 RX4 yX4_lose wsX4_lose) := goodIn_app (goodIn_of _ (by decide +kernel)) ggL_lose_X4_lose
theorem dL_lose_0 : decode cL_lose 0 = .ok (.aload_n 2, 1) := by decide +kernel
theorem dL_lose_1 : decode cL_lose 1 = .ok (.iconst 0, 1) := by decide +kernel
theorem dL_lose_2 : decode cL_lose 2 = .ok (.aload_n 0, 1) := by decide +kernel
theorem dL_lose_3 : decode cL_lose 3 = .ok (.iload_n 1, 1) := by decide +kernel
theorem dL_lose_4 : decode cL_lose 4 = .ok (.invokevirtual 81, 3) := by decide +kernel
theorem dL_lose_7 : decode cL_lose 7 = .ok (.i2l, 1) := by decide +kernel
theorem dL_lose_8 : decode cL_lose 8 = .ok (.lastore, 1) := by decide +kernel
theorem dL_lose_9 : decode cL_lose 9 = .ok (.goto 9, 3) := by decide +kernel
theorem dL_lose_12 : decode cL_lose 12 = .ok (.astore_n 3, 1) := by decide +kernel
theorem dL_lose_13 : decode cL_lose 13 = .ok (.iconst 1, 1) := by decide +kernel
theorem dL_lose_14 : decode cL_lose 14 = .ok (.ireturn, 1) := by decide +kernel
theorem dL_lose_15 : decode cL_lose 15 = .ok (.astore_n 3, 1) := by decide +kernel
theorem dL_lose_16 : decode cL_lose 16 = .ok (.iconst 2, 1) := by decide +kernel
theorem dL_lose_17 : decode cL_lose 17 = .ok (.ireturn, 1) := by decide +kernel
theorem dL_lose_18 : decode cL_lose 18 = .ok (.iconst 0, 1) := by decide +kernel
theorem dL_lose_19 : decode cL_lose 19 = .ok (.ireturn, 1) := by decide +kernel
set_option maxRecDepth 20000 in
theorem ggL_law_X4_init : GoodIn wsL_law wsX4_init := goodIn_r _ [9, 10, 11, 12, 13, 14, 15, 16, 17, 18, 19, 20, 21, 22, 23, 24, 25, 26, 27, 28, 29, 30, 31, 32, 33, 34, 35, 36, 37, 38, 39, 40, 41, 42, 43, 44, 662, 663, 664, 665, 666, 667, 694, 695, 696, 697, 698, 699, 700, 701, 702, 703, 704] (by decide +kernel) (by decide +kernel)
set_option maxRecDepth 20000 in
theorem gL_law_X4_init : GoodIn wsL_law (wsX4_init) := ggL_law_X4_init
set_option maxRecDepth 20000 in
theorem ggL_law_X5_init : GoodIn wsL_law wsX5_init := goodIn_r _ [47, 48, 11, 12, 32, 49, 50, 51, 52, 53, 54, 55, 56, 57, 58, 59, 60, 61, 62, 63, 64, 65, 66, 67, 68, 69, 70, 668, 669, 670, 671, 672, 673, 674, 675, 676, 677, 678, 679, 680, 681, 682, 683, 684, 685, 686, 687, 688, 689, 690, 691, 692, 693] (by decide +kernel) (by decide +kernel)
set_option maxRecDepth 20000 in
theorem gL_law_X5_init : GoodIn wsL_law (wsX5_init) := ggL_law_X5_init
set_option maxRecDepth 20000 in
theorem ggL_law_L_tape : GoodIn wsL_law wsL_tape := goodIn_ca (goodIn_ca (goodIn_r _ [74, 75, 76, 77, 78, 79, 2, 80, 81, 82, 83, 84, 15, 14, 13, 85, 86, 87, 88, 89, 90, 91, 92, 93, 94, 95, 96, 97, 11, 12, 98, 99, 100, 32, 101, 102, 103, 104, 105, 662, 663, 664, 665, 666, 667, 705, 706, 707, 708, 709, 710, 711, 712] (by decide +kernel) (by decide +kernel)) (goodIn_sub (fun _ h => List.mem_append_left _ (List.mem_append_left _ (List.mem_append_right _ h))) (by decide +kernel))) (goodIn_sub (fun _ h => List.mem_append_left _ (List.mem_append_right _ h)) (by decide +kernel))
set_option maxRecDepth 20000 in
theorem gL_law_L_tape : GoodIn wsL_law (va_wsS RL 88 yL_tape wsL_tape) := goodIn_app (goodIn_of _ (by decide +kernel)) ggL_law_L_tape
set_option maxRecDepth 20000 in
theorem ggL_law_X5_tape : GoodIn wsL_law wsX5_tape := goodIn_r _ [109, 110, 49, 50, 51, 52, 111, 112, 5, 113, 114, 115, 116, 117, 118, 119, 120, 121, 122, 668, 669, 670, 671, 672, 673, 674, 675, 676, 677, 678, 679, 680, 681, 682, 683, 684, 685, 686, 687, 688, 689, 690, 691, 692, 693] (by decide +kernel) (by decide +kernel)
set_option maxRecDepth 20000 in
theorem gL_law_X5_tape : GoodIn wsL_law (wsV RL 93 RX5 yX5_tape wsX5_tape) := goodIn_app (goodIn_of _ (by decide +kernel)) ggL_law_X5_tape
set_option maxRecDepth 20000 in
theorem ggL_law_X5_thrown : GoodIn wsL_law wsX5_thrown := goodIn_r _ [126, 118, 668, 669, 670, 671, 672, 673, 674, 675, 676, 677, 678, 679, 680, 681, 682, 683, 684, 685, 686, 687, 688, 689, 690, 691, 692, 693] (by decide +kernel) (by decide +kernel)
set_option maxRecDepth 20000 in
theorem gL_law_X5_thrown : GoodIn wsL_law (wsV RL 94 RX5 yX5_thrown wsX5_thrown) := goodIn_app (goodIn_of _ (by decide +kernel)) ggL_law_X5_thrown
set_option maxRecDepth 20000 in
theorem ggL_law_L_carry : GoodIn wsL_law wsL_carry := goodIn_ca (goodIn_ca (goodIn_r _ [129, 130, 76, 131, 132, 133, 2, 134, 135, 136, 83, 84, 137, 138, 139, 140, 14, 141, 86, 142, 143, 98, 91, 92, 93, 94, 705, 706, 707, 708, 709, 710, 711, 712, 662, 663, 664, 665, 666, 667] (by decide +kernel) (by decide +kernel)) (goodIn_sub (fun _ h => List.mem_append_right _ h) (by decide +kernel))) (goodIn_sub (fun _ h => List.mem_append_left _ (List.mem_append_right _ h)) (by decide +kernel))
set_option maxRecDepth 20000 in
theorem gL_law_L_carry : GoodIn wsL_law (va_wsS RL 98 yL_carry wsL_carry) := goodIn_app (goodIn_of _ (by decide +kernel)) ggL_law_L_carry
set_option maxRecDepth 20000 in
theorem ggL_law_X5_carry : GoodIn wsL_law wsX5_carry := goodIn_r _ [147, 52, 51, 148, 149, 150, 5, 151, 110, 111, 112, 113, 119, 120, 121, 122, 114, 115, 116, 117, 118, 668, 669, 670, 671, 672, 673, 674, 675, 676, 677, 678, 679, 680, 681, 682, 683, 684, 685, 686, 687, 688, 689, 690, 691, 692, 693] (by decide +kernel) (by decide +kernel)
set_option maxRecDepth 20000 in
theorem gL_law_X5_carry : GoodIn wsL_law (wsV RL 100 RX5 yX5_carry wsX5_carry) := goodIn_app (goodIn_of _ (by decide +kernel)) ggL_law_X5_carry
set_option maxRecDepth 20000 in
theorem ggL_law_L_placeOf : GoodIn wsL_law wsL_placeOf := goodIn_ca (goodIn_r _ [154, 130, 155, 156, 157, 2, 158, 137, 138, 139, 140, 135, 136, 14, 141, 86, 142, 143, 98, 705, 706, 707, 708, 709, 710, 711, 712, 662, 663, 664, 665, 666, 667] (by decide +kernel) (by decide +kernel)) (goodIn_sub (fun _ h => List.mem_append_right _ h) (by decide +kernel))
set_option maxRecDepth 20000 in
theorem gL_law_L_placeOf : GoodIn wsL_law (va_wsS RL 101 yL_placeOf wsL_placeOf) := goodIn_app (goodIn_of _ (by decide +kernel)) ggL_law_L_placeOf
set_option maxRecDepth 20000 in
theorem ggL_law_X5_placeOf : GoodIn wsL_law wsX5_placeOf := goodIn_r _ [162, 52, 51, 148, 149, 150, 5, 151, 110, 111, 112, 113, 163, 164, 165, 166, 118, 668, 669, 670, 671, 672, 673, 674, 675, 676, 677, 678, 679, 680, 681, 682, 683, 684, 685, 686, 687, 688, 689, 690, 691, 692, 693] (by decide +kernel) (by decide +kernel)
set_option maxRecDepth 20000 in
theorem gL_law_X5_placeOf : GoodIn wsL_law (wsV RL 104 RX5 yX5_placeOf wsX5_placeOf) := goodIn_app (goodIn_of _ (by decide +kernel)) ggL_law_X5_placeOf
set_option maxRecDepth 20000 in
theorem ggL_law_L_files : GoodIn wsL_law wsL_files := goodIn_ca (goodIn_r _ [169, 130, 170, 171, 172, 2, 173, 137, 138, 139, 140, 135, 136, 14, 705, 706, 707, 708, 709, 710, 711, 712, 662, 663, 664, 665, 666, 667] (by decide +kernel) (by decide +kernel)) (goodIn_sub (fun _ h => List.mem_append_right _ h) (by decide +kernel))
set_option maxRecDepth 20000 in
theorem gL_law_L_files : GoodIn wsL_law (va_wsS RL 105 yL_files wsL_files) := goodIn_app (goodIn_of _ (by decide +kernel)) ggL_law_L_files
set_option maxRecDepth 20000 in
theorem ggL_law_X5_files : GoodIn wsL_law wsX5_files := goodIn_r _ [177, 55, 148, 149, 150, 5, 151, 110, 111, 112, 113, 163, 164, 165, 166, 118, 668, 669, 670, 671, 672, 673, 674, 675, 676, 677, 678, 679, 680, 681, 682, 683, 684, 685, 686, 687, 688, 689, 690, 691, 692, 693] (by decide +kernel) (by decide +kernel)
set_option maxRecDepth 20000 in
theorem gL_law_X5_files : GoodIn wsL_law (wsV RL 107 RX5 yX5_files wsX5_files) := goodIn_app (goodIn_of _ (by decide +kernel)) ggL_law_X5_files
set_option maxRecDepth 20000 in
theorem ggL_law_L_start : GoodIn wsL_law wsL_start := goodIn_ca (goodIn_r _ [180, 130, 181, 182, 183, 2, 184, 137, 138, 139, 140, 135, 136, 14, 185, 186, 187, 188, 86, 189, 190, 101, 191, 192, 662, 663, 664, 665, 666, 667, 705, 706, 707, 708, 709, 710, 711, 712] (by decide +kernel) (by decide +kernel)) (goodIn_sub (fun _ h => List.mem_append_right _ h) (by decide +kernel))
set_option maxRecDepth 20000 in
theorem gL_law_L_start : GoodIn wsL_law (va_wsS RL 108 yL_start wsL_start) := goodIn_app (goodIn_of _ (by decide +kernel)) ggL_law_L_start
set_option maxRecDepth 20000 in
theorem ggL_law_X5_start : GoodIn wsL_law wsX5_start := goodIn_r _ [196, 56, 197, 198, 199, 5, 200, 55, 148, 149, 150, 151, 110, 111, 112, 113, 163, 164, 165, 166, 118, 668, 669, 670, 671, 672, 673, 674, 675, 676, 677, 678, 679, 680, 681, 682, 683, 684, 685, 686, 687, 688, 689, 690, 691, 692, 693] (by decide +kernel) (by decide +kernel)
set_option maxRecDepth 20000 in
theorem gL_law_X5_start : GoodIn wsL_law (wsV RL 110 RX5 yX5_start wsX5_start) := goodIn_app (goodIn_of _ (by decide +kernel)) ggL_law_X5_start
set_option maxRecDepth 20000 in
theorem ggL_law_L_along : GoodIn wsL_law wsL_along := goodIn_ca (goodIn_r _ [203, 130, 204, 205, 206, 2, 207, 135, 136, 137, 138, 139, 140, 14, 208, 86, 209, 210, 103, 104, 211, 212, 213, 214, 215, 216, 217, 218, 219, 220, 221, 662, 663, 664, 665, 666, 667, 705, 706, 707, 708, 709, 710, 711, 712] (by decide +kernel) (by decide +kernel)) (goodIn_sub (fun _ h => List.mem_append_right _ h) (by decide +kernel))
set_option maxRecDepth 20000 in
theorem gL_law_L_along : GoodIn wsL_law (va_wsS RL 111 yL_along wsL_along) := goodIn_app (goodIn_of _ (by decide +kernel)) ggL_law_L_along
set_option maxRecDepth 20000 in
theorem ggL_law_X5_along : GoodIn wsL_law wsX5_along := goodIn_r _ [225, 49, 50, 148, 149, 150, 5, 151, 110, 111, 112, 113, 163, 164, 165, 166, 118, 226, 227, 228, 229, 230, 231, 232, 233, 668, 669, 670, 671, 672, 673, 674, 675, 676, 677, 678, 679, 680, 681, 682, 683, 684, 685, 686, 687, 688, 689, 690, 691, 692, 693] (by decide +kernel) (by decide +kernel)
set_option maxRecDepth 20000 in
theorem gL_law_X5_along : GoodIn wsL_law (wsV RL 113 RX5 yX5_along wsX5_along) := goodIn_app (goodIn_of _ (by decide +kernel)) ggL_law_X5_along
set_option maxRecDepth 20000 in
theorem ggL_law_L_drive : GoodIn wsL_law wsL_drive := goodIn_ca (goodIn_ca (goodIn_r _ [236, 75, 76, 237, 238, 239, 2, 240, 81, 82, 83, 84, 18, 17, 16, 241, 242, 243, 244, 245, 11, 12, 246, 247, 248, 249, 250, 251, 252, 662, 663, 664, 665, 666, 667, 713, 714, 715, 716, 717, 718, 719] (by decide +kernel) (by decide +kernel)) (goodIn_sub (fun _ h => List.mem_append_left _ (List.mem_append_left _ (List.mem_append_right _ h))) (by decide +kernel))) (goodIn_sub (fun _ h => List.mem_append_left _ (List.mem_append_right _ h)) (by decide +kernel))
set_option maxRecDepth 20000 in
theorem gL_law_L_drive : GoodIn wsL_law (va_wsS RL 114 yL_drive wsL_drive) := goodIn_app (goodIn_of _ (by decide +kernel)) ggL_law_L_drive
set_option maxRecDepth 20000 in
theorem ggL_law_X5_drive : GoodIn wsL_law wsX5_drive := goodIn_r _ [256, 257, 58, 61, 111, 112, 5, 113, 114, 115, 116, 117, 118, 668, 669, 670, 671, 672, 673, 674, 675, 676, 677, 678, 679, 680, 681, 682, 683, 684, 685, 686, 687, 688, 689, 690, 691, 692, 693] (by decide +kernel) (by decide +kernel)
set_option maxRecDepth 20000 in
theorem gL_law_X5_drive : GoodIn wsL_law (wsV RL 116 RX5 yX5_drive wsX5_drive) := goodIn_app (goodIn_of _ (by decide +kernel)) ggL_law_X5_drive
set_option maxRecDepth 20000 in
theorem ggL_law_L_mount : GoodIn wsL_law wsL_mount := goodIn_ca (goodIn_ca (goodIn_r _ [260, 130, 76, 261, 262, 263, 2, 264, 83, 84, 265, 266, 267, 268, 135, 136, 17, 137, 138, 139, 140, 14, 141, 86, 142, 143, 98, 269, 242, 270, 271, 250, 272, 273, 216, 274, 275, 276, 277, 248, 713, 714, 715, 716, 717, 718, 719, 705, 706, 707, 708, 709, 710, 711, 712, 662, 663, 664, 665, 666, 667] (by decide +kernel) (by decide +kernel)) (goodIn_sub (fun _ h => List.mem_append_left _ (List.mem_append_right _ h)) (by decide +kernel))) (goodIn_sub (fun _ h => List.mem_append_right _ h) (by decide +kernel))
set_option maxRecDepth 20000 in
theorem gL_law_L_mount : GoodIn wsL_law (va_wsS RL 117 yL_mount wsL_mount) := goodIn_app (goodIn_of _ (by decide +kernel)) ggL_law_L_mount
set_option maxRecDepth 20000 in
theorem ggL_law_X5_mount : GoodIn wsL_law wsX5_mount := goodIn_r _ [281, 61, 52, 54, 62, 59, 282, 283, 284, 5, 285, 257, 111, 112, 113, 148, 149, 150, 151, 110, 114, 115, 116, 117, 118, 286, 287, 288, 289, 51, 290, 291, 292, 668, 669, 670, 671, 672, 673, 674, 675, 676, 677, 678, 679, 680, 681, 682, 683, 684, 685, 686, 687, 688, 689, 690, 691, 692, 693] (by decide +kernel) (by decide +kernel)
set_option maxRecDepth 20000 in
theorem gL_law_X5_mount : GoodIn wsL_law (wsV RL 119 RX5 yX5_mount wsX5_mount) := goodIn_app (goodIn_of _ (by decide +kernel)) ggL_law_X5_mount
set_option maxRecDepth 20000 in
theorem ggL_law_L_unmount : GoodIn wsL_law wsL_unmount := goodIn_ca (goodIn_ca (goodIn_r _ [295, 130, 76, 296, 297, 298, 2, 299, 265, 266, 267, 268, 135, 136, 17, 300, 301, 302, 83, 84, 303, 242, 304, 305, 272, 273, 216, 274, 251, 252, 211, 86, 212, 213, 104, 214, 215, 217, 218, 219, 220, 221, 103, 269, 270, 271, 250, 275, 276, 277, 248, 713, 714, 715, 716, 717, 718, 719, 705, 706, 707, 708, 709, 710, 711, 712, 662, 663, 664, 665, 666, 667] (by decide +kernel) (by decide +kernel)) (goodIn_sub (fun _ h => List.mem_append_right _ h) (by decide +kernel))) (goodIn_sub (fun _ h => List.mem_append_left _ (List.mem_append_right _ h)) (by decide +kernel))
set_option maxRecDepth 20000 in
theorem gL_law_L_unmount : GoodIn wsL_law (va_wsS RL 120 yL_unmount wsL_unmount) := goodIn_app (goodIn_of _ (by decide +kernel)) ggL_law_L_unmount
set_option maxRecDepth 20000 in
theorem ggL_law_X5_unmount : GoodIn wsL_law wsX5_unmount := goodIn_r _ [309, 62, 61, 59, 52, 282, 283, 284, 5, 285, 257, 111, 112, 113, 310, 311, 312, 313, 114, 115, 116, 117, 118, 314, 315, 316, 317, 49, 50, 58, 226, 227, 228, 229, 230, 231, 232, 233, 290, 291, 292, 286, 287, 288, 289, 51, 668, 669, 670, 671, 672, 673, 674, 675, 676, 677, 678, 679, 680, 681, 682, 683, 684, 685, 686, 687, 688, 689, 690, 691, 692, 693] (by decide +kernel) (by decide +kernel)
set_option maxRecDepth 20000 in
theorem gL_law_X5_unmount : GoodIn wsL_law (wsV RL 122 RX5 yX5_unmount wsX5_unmount) := goodIn_app (goodIn_of _ (by decide +kernel)) ggL_law_X5_unmount
set_option maxRecDepth 20000 in
theorem ggL_law_L_write : GoodIn wsL_law wsL_write := goodIn_ca (goodIn_ca (goodIn_ca (goodIn_r _ [320, 130, 75, 76, 321, 322, 323, 2, 324, 81, 82, 83, 84, 265, 266, 267, 268, 135, 136, 17, 300, 301, 302, 325, 326, 327, 328, 242, 329, 330, 249, 331, 86, 332, 333, 100, 334, 188, 189, 190, 101, 191, 192, 335, 208, 209, 210, 103, 104, 336, 337, 338, 339, 340, 341, 342, 343, 247, 344, 345, 346, 347, 348, 303, 304, 305, 272, 273, 216, 274, 251, 252, 211, 212, 213, 214, 215, 217, 218, 219, 220, 221, 349, 350, 351, 352, 275, 276, 277, 248, 662, 663, 664, 665, 666, 667, 713, 714, 715, 716, 717, 718, 719, 705, 706, 707, 708, 709, 710, 711, 712] (by decide +kernel) (by decide +kernel)) (goodIn_sub (fun _ h => List.mem_append_left _ (List.mem_append_left _ (List.mem_append_right _ h))) (by decide +kernel))) (goodIn_sub (fun _ h => List.mem_append_left _ (List.mem_append_right _ h)) (by decide +kernel))) (goodIn_sub (fun _ h => List.mem_append_right _ h) (by decide +kernel))
set_option maxRecDepth 20000 in
theorem gL_law_L_write : GoodIn wsL_law (va_wsS RL 123 yL_write wsL_write) := goodIn_app (goodIn_of _ (by decide +kernel)) ggL_law_L_write
set_option maxRecDepth 20000 in
theorem ggL_law_X5_write : GoodIn wsL_law wsX5_write := goodIn_r _ [356, 61, 55, 49, 50, 56, 57, 310, 311, 312, 5, 313, 282, 283, 284, 285, 257, 111, 112, 113, 357, 358, 359, 360, 60, 361, 362, 363, 364, 365, 366, 367, 368, 118, 369, 370, 371, 372, 62, 59, 314, 315, 316, 317, 58, 226, 227, 228, 229, 230, 231, 232, 233, 290, 291, 292, 668, 669, 670, 671, 672, 673, 674, 675, 676, 677, 678, 679, 680, 681, 682, 683, 684, 685, 686, 687, 688, 689, 690, 691, 692, 693] (by decide +kernel) (by decide +kernel)
set_option maxRecDepth 20000 in
theorem gL_law_X5_write : GoodIn wsL_law (wsV RL 125 RX5 yX5_write wsX5_write) := goodIn_app (goodIn_of _ (by decide +kernel)) ggL_law_X5_write
set_option maxRecDepth 20000 in
theorem ggL_law_L_read : GoodIn wsL_law wsL_read := goodIn_ca (goodIn_ca (goodIn_r _ [375, 130, 76, 376, 377, 378, 2, 379, 265, 266, 267, 268, 135, 136, 17, 300, 301, 302, 83, 84, 185, 186, 187, 325, 326, 327, 328, 242, 329, 330, 249, 341, 342, 343, 247, 344, 345, 346, 347, 188, 86, 189, 190, 101, 191, 192, 348, 303, 304, 305, 272, 273, 216, 274, 251, 252, 211, 212, 213, 104, 214, 215, 217, 218, 219, 220, 221, 103, 349, 350, 351, 352, 275, 276, 277, 248, 662, 663, 664, 665, 666, 667, 713, 714, 715, 716, 717, 718, 719, 705, 706, 707, 708, 709, 710, 711, 712] (by decide +kernel) (by decide +kernel)) (goodIn_sub (fun _ h => List.mem_append_right _ h) (by decide +kernel))) (goodIn_sub (fun _ h => List.mem_append_left _ (List.mem_append_right _ h)) (by decide +kernel))
set_option maxRecDepth 20000 in
theorem gL_law_L_read : GoodIn wsL_law (va_wsS RL 126 yL_read wsL_read) := goodIn_app (goodIn_of _ (by decide +kernel)) ggL_law_L_read
set_option maxRecDepth 20000 in
theorem ggL_law_X5_read : GoodIn wsL_law wsX5_read := goodIn_r _ [383, 61, 56, 57, 310, 311, 312, 5, 313, 282, 283, 284, 285, 257, 111, 112, 113, 197, 198, 199, 200, 55, 148, 149, 150, 151, 110, 357, 358, 359, 360, 60, 114, 115, 116, 117, 118, 369, 370, 371, 372, 62, 59, 314, 315, 316, 317, 49, 50, 58, 226, 227, 228, 229, 230, 231, 232, 233, 290, 291, 292, 668, 669, 670, 671, 672, 673, 674, 675, 676, 677, 678, 679, 680, 681, 682, 683, 684, 685, 686, 687, 688, 689, 690, 691, 692, 693] (by decide +kernel) (by decide +kernel)
set_option maxRecDepth 20000 in
theorem gL_law_X5_read : GoodIn wsL_law (wsV RL 128 RX5 yX5_read wsX5_read) := goodIn_app (goodIn_of _ (by decide +kernel)) ggL_law_X5_read
set_option maxRecDepth 20000 in
theorem ggL_law_L_clean : GoodIn wsL_law wsL_clean := goodIn_ca (goodIn_ca (goodIn_r _ [386, 130, 76, 387, 388, 389, 2, 390, 83, 84, 265, 266, 267, 268, 135, 136, 17, 275, 242, 276, 277, 248, 713, 714, 715, 716, 717, 718, 719, 662, 663, 664, 665, 666, 667] (by decide +kernel) (by decide +kernel)) (goodIn_sub (fun _ h => List.mem_append_left _ (List.mem_append_right _ h)) (by decide +kernel))) (goodIn_sub (fun _ h => List.mem_append_right _ h) (by decide +kernel))
set_option maxRecDepth 20000 in
theorem gL_law_L_clean : GoodIn wsL_law (va_wsS RL 129 yL_clean wsL_clean) := goodIn_app (goodIn_of _ (by decide +kernel)) ggL_law_L_clean
set_option maxRecDepth 20000 in
theorem ggL_law_X5_clean : GoodIn wsL_law wsX5_clean := goodIn_r _ [394, 60, 59, 282, 283, 284, 5, 285, 257, 111, 112, 113, 310, 311, 312, 313, 61, 114, 115, 116, 117, 118, 668, 669, 670, 671, 672, 673, 674, 675, 676, 677, 678, 679, 680, 681, 682, 683, 684, 685, 686, 687, 688, 689, 690, 691, 692, 693] (by decide +kernel) (by decide +kernel)
set_option maxRecDepth 20000 in
theorem gL_law_X5_clean : GoodIn wsL_law (wsV RL 131 RX5 yX5_clean wsX5_clean) := goodIn_app (goodIn_of _ (by decide +kernel)) ggL_law_X5_clean
set_option maxRecDepth 20000 in
theorem ggL_law_L_clock : GoodIn wsL_law wsL_clock := goodIn_ca (goodIn_r _ [397, 130, 398, 399, 400, 2, 401, 265, 266, 267, 268, 135, 136, 17, 713, 714, 715, 716, 717, 718, 719, 662, 663, 664, 665, 666, 667] (by decide +kernel) (by decide +kernel)) (goodIn_sub (fun _ h => List.mem_append_right _ h) (by decide +kernel))
set_option maxRecDepth 20000 in
theorem gL_law_L_clock : GoodIn wsL_law (va_wsS RL 132 yL_clock wsL_clock) := goodIn_app (goodIn_of _ (by decide +kernel)) ggL_law_L_clock
set_option maxRecDepth 20000 in
theorem ggL_law_X5_clock : GoodIn wsL_law wsX5_clock := goodIn_r _ [405, 59, 282, 283, 284, 5, 285, 257, 111, 112, 113, 163, 164, 165, 166, 118, 668, 669, 670, 671, 672, 673, 674, 675, 676, 677, 678, 679, 680, 681, 682, 683, 684, 685, 686, 687, 688, 689, 690, 691, 692, 693] (by decide +kernel) (by decide +kernel)
set_option maxRecDepth 20000 in
theorem gL_law_X5_clock : GoodIn wsL_law (wsV RL 134 RX5 yX5_clock wsX5_clock) := goodIn_app (goodIn_of _ (by decide +kernel)) ggL_law_X5_clock
set_option maxRecDepth 20000 in
theorem ggL_law_L_stands : GoodIn wsL_law wsL_stands := goodIn_ca (goodIn_r _ [408, 130, 409, 410, 411, 2, 412, 265, 266, 267, 268, 135, 136, 17, 713, 714, 715, 716, 717, 718, 719, 662, 663, 664, 665, 666, 667] (by decide +kernel) (by decide +kernel)) (goodIn_sub (fun _ h => List.mem_append_right _ h) (by decide +kernel))
set_option maxRecDepth 20000 in
theorem gL_law_L_stands : GoodIn wsL_law (va_wsS RL 135 yL_stands wsL_stands) := goodIn_app (goodIn_of _ (by decide +kernel)) ggL_law_L_stands
set_option maxRecDepth 20000 in
theorem ggL_law_X5_stands : GoodIn wsL_law wsX5_stands := goodIn_r _ [416, 61, 62, 282, 283, 284, 5, 285, 257, 111, 112, 113, 163, 164, 165, 166, 118, 668, 669, 670, 671, 672, 673, 674, 675, 676, 677, 678, 679, 680, 681, 682, 683, 684, 685, 686, 687, 688, 689, 690, 691, 692, 693] (by decide +kernel) (by decide +kernel)
set_option maxRecDepth 20000 in
theorem gL_law_X5_stands : GoodIn wsL_law (wsV RL 137 RX5 yX5_stands wsX5_stands) := goodIn_app (goodIn_of _ (by decide +kernel)) ggL_law_X5_stands
set_option maxRecDepth 20000 in
theorem ggL_law_L_job : GoodIn wsL_law wsL_job := goodIn_ca (goodIn_ca (goodIn_ca (goodIn_r _ [419, 130, 75, 76, 420, 421, 422, 2, 423, 81, 82, 83, 84, 424, 22, 137, 138, 139, 140, 135, 136, 14, 185, 186, 187, 425, 21, 426, 427, 30, 33, 191, 192, 428, 429, 430, 34, 35, 339, 340, 662, 663, 664, 665, 666, 667, 694, 695, 696, 697, 698, 705, 706, 707, 708, 709, 710, 711, 712] (by decide +kernel) (by decide +kernel)) (goodIn_sub (fun _ h => List.mem_append_left _ (List.mem_append_left _ (List.mem_append_right _ h))) (by decide +kernel))) (goodIn_sub (fun _ h => List.mem_append_left _ (List.mem_append_right _ h)) (by decide +kernel))) (goodIn_sub (fun _ h => List.mem_append_right _ h) (by decide +kernel))
set_option maxRecDepth 20000 in
theorem gL_law_L_job : GoodIn wsL_law (va_wsS RL 138 yL_job wsL_job) := goodIn_app (goodIn_of _ (by decide +kernel)) ggL_law_L_job
set_option maxRecDepth 20000 in
theorem ggL_law_X5_job : GoodIn wsL_law wsX5_job := goodIn_r _ [434, 435, 436, 63, 64, 65, 197, 198, 199, 5, 200, 55, 148, 149, 150, 151, 110, 111, 112, 113, 437, 438, 439, 440, 441, 442, 443, 444, 66, 365, 366, 367, 368, 118, 668, 669, 670, 671, 672, 673, 674, 675, 676, 677, 678, 679, 680, 681, 682, 683, 684, 685, 686, 687, 688, 689, 690, 691, 692, 693] (by decide +kernel) (by decide +kernel)
set_option maxRecDepth 20000 in
theorem gL_law_X5_job : GoodIn wsL_law (wsV RL 141 RX5 yX5_job wsX5_job) := goodIn_app (goodIn_of _ (by decide +kernel)) ggL_law_X5_job
set_option maxRecDepth 20000 in
theorem ggL_law_L_waiting : GoodIn wsL_law wsL_waiting := goodIn_ca (goodIn_r _ [447, 130, 448, 449, 450, 2, 451, 22, 137, 138, 139, 140, 135, 136, 14, 425, 21, 426, 427, 30, 33, 191, 192, 662, 663, 664, 665, 666, 667, 705, 706, 707, 708, 709, 710, 711, 712, 694, 695, 696, 697, 698] (by decide +kernel) (by decide +kernel)) (goodIn_sub (fun _ h => List.mem_append_right _ h) (by decide +kernel))
set_option maxRecDepth 20000 in
theorem gL_law_L_waiting : GoodIn wsL_law (va_wsS RL 142 yL_waiting wsL_waiting) := goodIn_app (goodIn_of _ (by decide +kernel)) ggL_law_L_waiting
set_option maxRecDepth 20000 in
theorem ggL_law_X5_waiting : GoodIn wsL_law wsX5_waiting := goodIn_r _ [455, 148, 149, 150, 5, 151, 110, 111, 112, 113, 163, 164, 165, 166, 118, 437, 438, 439, 440, 436, 441, 442, 443, 444, 66, 63, 668, 669, 670, 671, 672, 673, 674, 675, 676, 677, 678, 679, 680, 681, 682, 683, 684, 685, 686, 687, 688, 689, 690, 691, 692, 693] (by decide +kernel) (by decide +kernel)
set_option maxRecDepth 20000 in
theorem gL_law_X5_waiting : GoodIn wsL_law (wsV RL 144 RX5 yX5_waiting wsX5_waiting) := goodIn_app (goodIn_of _ (by decide +kernel)) ggL_law_X5_waiting
set_option maxRecDepth 20000 in
theorem ggL_law_X4_next : GoodIn wsL_law wsX4_next := goodIn_r _ [459, 14, 22, 141, 86, 142, 143, 98, 425, 21, 426, 427, 30, 33, 191, 2, 192, 460, 461, 462, 463, 35, 464, 215, 216, 217, 662, 663, 664, 665, 666, 667, 705, 706, 707, 708, 709, 710, 711, 712, 694, 695, 696, 697, 698] (by decide +kernel) (by decide +kernel)
set_option maxRecDepth 20000 in
theorem gL_law_X4_next : GoodIn wsL_law (wsV RL 145 RX4 yX4_next wsX4_next) := goodIn_app (goodIn_of _ (by decide +kernel)) ggL_law_X4_next
set_option maxRecDepth 20000 in
theorem ggL_law_X5_next : GoodIn wsL_law wsX5_next := goodIn_r _ [468, 118, 110, 52, 54, 437, 438, 439, 5, 440, 436, 441, 442, 443, 444, 66, 63, 469, 470, 471, 472, 473, 65, 668, 669, 670, 671, 672, 673, 674, 675, 676, 677, 678, 679, 680, 681, 682, 683, 684, 685, 686, 687, 688, 689, 690, 691, 692, 693] (by decide +kernel) (by decide +kernel)
set_option maxRecDepth 20000 in
theorem gL_law_X5_next : GoodIn wsL_law (wsV RL 148 RX5 yX5_next wsX5_next) := goodIn_app (goodIn_of _ (by decide +kernel)) ggL_law_X5_next
set_option maxRecDepth 20000 in
theorem ggL_law_L_bestTime : GoodIn wsL_law wsL_bestTime := goodIn_ca (goodIn_ca (goodIn_r _ [476, 130, 76, 477, 478, 479, 2, 480, 26, 265, 266, 267, 268, 135, 136, 17, 481, 482, 483, 484, 22, 300, 301, 302, 83, 84, 485, 25, 486, 487, 40, 39, 41, 488, 21, 489, 490, 30, 33, 464, 215, 216, 217, 191, 192, 339, 340, 491, 492, 493, 34, 345, 242, 346, 347, 188, 86, 189, 190, 101, 348, 303, 304, 305, 272, 273, 274, 251, 252, 211, 212, 213, 104, 214, 218, 219, 220, 221, 103, 349, 350, 351, 494, 495, 496, 42, 43, 497, 498, 499, 500, 501, 502, 503, 504, 505, 506, 507, 508, 509, 510, 511, 512, 513, 514, 515, 662, 663, 664, 665, 666, 667, 699, 700, 701, 702, 703, 704, 713, 714, 715, 716, 717, 718, 719, 705, 706, 707, 708, 709, 710, 711, 712, 694, 695, 696, 697, 698] (by decide +kernel) (by decide +kernel)) (goodIn_sub (fun _ h => List.mem_append_right _ h) (by decide +kernel))) (goodIn_sub (fun _ h => List.mem_append_left _ (List.mem_append_right _ h)) (by decide +kernel))
set_option maxRecDepth 20000 in
theorem gL_law_L_bestTime : GoodIn wsL_law (va_wsS RL 149 yL_bestTime wsL_bestTime) := goodIn_app (goodIn_of _ (by decide +kernel)) ggL_law_L_bestTime
set_option maxRecDepth 20000 in
theorem ggL_law_X5_bestTime : GoodIn wsL_law wsX5_bestTime := goodIn_r _ [519, 282, 283, 284, 5, 285, 257, 111, 112, 113, 310, 311, 312, 313, 61, 114, 115, 116, 117, 118, 520, 521, 522, 523, 524, 525, 69, 68, 526, 527, 528, 529, 436, 67, 441, 442, 443, 444, 66, 63, 530, 531, 532, 533, 62, 534, 535, 536, 537, 56, 64, 538, 539, 540, 541, 57, 314, 315, 316, 317, 49, 50, 58, 226, 227, 228, 229, 230, 231, 232, 233, 290, 291, 292, 668, 669, 670, 671, 672, 673, 674, 675, 676, 677, 678, 679, 680, 681, 682, 683, 684, 685, 686, 687, 688, 689, 690, 691, 692, 693] (by decide +kernel) (by decide +kernel)
set_option maxRecDepth 20000 in
theorem gL_law_X5_bestTime : GoodIn wsL_law (wsV RL 151 RX5 yX5_bestTime wsX5_bestTime) := goodIn_app (goodIn_of _ (by decide +kernel)) ggL_law_X5_bestTime
set_option maxRecDepth 20000 in
theorem ggL_law_L_bestJob : GoodIn wsL_law wsL_bestJob := goodIn_ca (goodIn_ca (goodIn_r _ [544, 130, 76, 545, 546, 547, 2, 548, 135, 136, 26, 265, 266, 267, 268, 17, 481, 482, 483, 484, 22, 300, 301, 302, 83, 84, 485, 25, 486, 487, 40, 39, 41, 488, 21, 489, 490, 30, 33, 464, 215, 216, 217, 191, 192, 339, 340, 491, 492, 493, 34, 345, 242, 346, 347, 188, 86, 189, 190, 101, 348, 303, 304, 305, 272, 273, 274, 251, 252, 211, 212, 213, 104, 214, 218, 219, 220, 221, 103, 349, 350, 351, 494, 495, 496, 42, 43, 497, 498, 499, 500, 501, 502, 503, 504, 505, 506, 507, 508, 509, 510, 511, 512, 549, 550, 551, 662, 663, 664, 665, 666, 667, 699, 700, 701, 702, 703, 704, 713, 714, 715, 716, 717, 718, 719, 705, 706, 707, 708, 709, 710, 711, 712, 694, 695, 696, 697, 698] (by decide +kernel) (by decide +kernel)) (goodIn_sub (fun _ h => List.mem_append_right _ h) (by decide +kernel))) (goodIn_sub (fun _ h => List.mem_append_left _ (List.mem_append_right _ h)) (by decide +kernel))
set_option maxRecDepth 20000 in
theorem gL_law_L_bestJob : GoodIn wsL_law (va_wsS RL 152 yL_bestJob wsL_bestJob) := goodIn_app (goodIn_of _ (by decide +kernel)) ggL_law_L_bestJob
set_option maxRecDepth 20000 in
theorem ggL_law_X5_bestJob : GoodIn wsL_law wsX5_bestJob := goodIn_r _ [555, 524, 67, 68, 282, 283, 284, 5, 285, 257, 111, 112, 113, 310, 311, 312, 313, 61, 114, 115, 116, 117, 118, 520, 521, 522, 523, 525, 69, 526, 527, 528, 529, 436, 441, 442, 443, 444, 66, 63, 530, 531, 532, 533, 62, 534, 535, 536, 537, 56, 64, 538, 539, 540, 541, 57, 314, 315, 316, 317, 49, 50, 58, 226, 227, 228, 229, 230, 231, 232, 233, 290, 291, 292, 163, 164, 165, 166, 668, 669, 670, 671, 672, 673, 674, 675, 676, 677, 678, 679, 680, 681, 682, 683, 684, 685, 686, 687, 688, 689, 690, 691, 692, 693] (by decide +kernel) (by decide +kernel)
set_option maxRecDepth 20000 in
theorem gL_law_X5_bestJob : GoodIn wsL_law (wsV RL 154 RX5 yX5_bestJob wsX5_bestJob) := goodIn_app (goodIn_of _ (by decide +kernel)) ggL_law_X5_bestJob
set_option maxRecDepth 20000 in
theorem ggL_law_L_insertedTime : GoodIn wsL_law wsL_insertedTime := goodIn_ca (goodIn_ca (goodIn_r _ [558, 130, 76, 559, 560, 561, 2, 562, 26, 265, 266, 267, 268, 135, 136, 17, 481, 482, 483, 484, 22, 300, 301, 302, 83, 84, 485, 25, 486, 487, 40, 39, 41, 488, 21, 489, 490, 30, 33, 464, 215, 216, 217, 191, 192, 339, 340, 491, 492, 493, 34, 345, 242, 346, 347, 188, 86, 189, 190, 101, 348, 303, 304, 305, 272, 273, 274, 251, 252, 211, 212, 213, 104, 214, 218, 219, 220, 221, 103, 349, 350, 351, 563, 564, 565, 44, 566, 567, 568, 569, 570, 513, 514, 515, 509, 510, 511, 512, 571, 572, 573, 574, 662, 663, 664, 665, 666, 667, 713, 714, 715, 716, 717, 718, 719, 705, 706, 707, 708, 709, 710, 711, 712, 699, 700, 701, 702, 703, 704, 694, 695, 696, 697, 698] (by decide +kernel) (by decide +kernel)) (goodIn_sub (fun _ h => List.mem_append_right _ h) (by decide +kernel))) (goodIn_sub (fun _ h => List.mem_append_left _ (List.mem_append_right _ h)) (by decide +kernel))
set_option maxRecDepth 20000 in
theorem gL_law_L_insertedTime : GoodIn wsL_law (va_wsS RL 155 yL_insertedTime wsL_insertedTime) := goodIn_app (goodIn_of _ (by decide +kernel)) ggL_law_L_insertedTime
set_option maxRecDepth 20000 in
theorem ggL_law_X5_insertedTime : GoodIn wsL_law wsX5_insertedTime := goodIn_r _ [578, 524, 70, 282, 283, 284, 5, 285, 257, 111, 112, 113, 310, 311, 312, 313, 61, 114, 115, 116, 117, 118, 526, 527, 528, 529, 436, 67, 441, 442, 443, 444, 66, 63, 579, 580, 581, 582, 530, 531, 532, 533, 62, 534, 535, 536, 537, 56, 64, 538, 539, 540, 541, 57, 314, 315, 316, 317, 49, 50, 58, 226, 227, 228, 229, 230, 231, 232, 233, 290, 291, 292, 668, 669, 670, 671, 672, 673, 674, 675, 676, 677, 678, 679, 680, 681, 682, 683, 684, 685, 686, 687, 688, 689, 690, 691, 692, 693] (by decide +kernel) (by decide +kernel)
set_option maxRecDepth 20000 in
theorem gL_law_X5_insertedTime : GoodIn wsL_law (wsV RL 157 RX5 yX5_insertedTime wsX5_insertedTime) := goodIn_app (goodIn_of _ (by decide +kernel)) ggL_law_X5_insertedTime
set_option maxRecDepth 20000 in
theorem ggL_law_L_triedTime : GoodIn wsL_law wsL_triedTime := goodIn_ca (goodIn_ca (goodIn_r _ [585, 130, 76, 586, 587, 588, 2, 589, 26, 265, 266, 267, 268, 135, 136, 17, 481, 482, 483, 484, 22, 300, 301, 302, 83, 84, 485, 25, 486, 487, 40, 39, 41, 488, 21, 489, 490, 30, 33, 464, 215, 216, 217, 191, 192, 339, 340, 491, 492, 493, 34, 345, 242, 346, 347, 188, 86, 189, 190, 101, 348, 303, 304, 305, 272, 273, 274, 251, 252, 211, 212, 213, 104, 214, 218, 219, 220, 221, 103, 349, 350, 351, 590, 591, 592, 44, 593, 570, 513, 514, 515, 509, 510, 511, 512, 594, 595, 596, 597, 571, 572, 573, 574, 662, 663, 664, 665, 666, 667, 713, 714, 715, 716, 717, 718, 719, 705, 706, 707, 708, 709, 710, 711, 712, 699, 700, 701, 702, 703, 704, 694, 695, 696, 697, 698] (by decide +kernel) (by decide +kernel)) (goodIn_sub (fun _ h => List.mem_append_right _ h) (by decide +kernel))) (goodIn_sub (fun _ h => List.mem_append_left _ (List.mem_append_right _ h)) (by decide +kernel))
set_option maxRecDepth 20000 in
theorem gL_law_L_triedTime : GoodIn wsL_law (va_wsS RL 158 yL_triedTime wsL_triedTime) := goodIn_app (goodIn_of _ (by decide +kernel)) ggL_law_L_triedTime
set_option maxRecDepth 20000 in
theorem ggL_law_X5_triedTime : GoodIn wsL_law wsX5_triedTime := goodIn_r _ [601, 602, 517, 518, 5, 519, 282, 283, 284, 285, 257, 111, 112, 113, 310, 311, 312, 313, 61, 114, 115, 116, 117, 118, 520, 521, 522, 523, 524, 525, 69, 68, 526, 527, 528, 529, 436, 67, 441, 442, 443, 444, 66, 63, 530, 531, 532, 533, 62, 534, 535, 536, 537, 56, 64, 538, 539, 540, 541, 57, 314, 315, 316, 317, 49, 50, 58, 226, 227, 228, 229, 230, 231, 232, 233, 290, 291, 292, 668, 669, 670, 671, 672, 673, 674, 675, 676, 677, 678, 679, 680, 681, 682, 683, 684, 685, 686, 687, 688, 689, 690, 691, 692, 693] (by decide +kernel) (by decide +kernel)
set_option maxRecDepth 20000 in
theorem gL_law_X5_triedTime : GoodIn wsL_law (wsV RL 160 RX5 yX5_triedTime wsX5_triedTime) := goodIn_app (goodIn_of _ (by decide +kernel)) ggL_law_X5_triedTime
set_option maxRecDepth 20000 in
theorem ggL_law_L_work : GoodIn wsL_law wsL_work := goodIn_ca (goodIn_ca (goodIn_r _ [605, 130, 76, 606, 607, 608, 2, 609, 26, 22, 265, 266, 267, 268, 135, 136, 17, 300, 301, 302, 83, 84, 325, 326, 327, 328, 242, 329, 330, 249, 481, 482, 483, 484, 485, 25, 486, 487, 40, 39, 41, 488, 21, 489, 490, 30, 33, 464, 215, 216, 217, 191, 192, 339, 340, 491, 492, 493, 34, 345, 346, 347, 188, 86, 189, 190, 101, 348, 303, 304, 305, 272, 273, 274, 251, 252, 211, 212, 213, 104, 214, 218, 219, 220, 221, 103, 349, 350, 351, 494, 495, 496, 42, 43, 497, 498, 499, 500, 501, 502, 503, 504, 505, 506, 507, 508, 509, 510, 511, 512, 549, 550, 551, 341, 342, 343, 247, 344, 352, 275, 276, 277, 248, 610, 611, 612, 31, 613, 614, 615, 35, 662, 663, 664, 665, 666, 667, 699, 700, 701, 702, 703, 704, 713, 714, 715, 716, 717, 718, 719, 705, 706, 707, 708, 709, 710, 711, 712, 694, 695, 696, 697, 698] (by decide +kernel) (by decide +kernel)) (goodIn_sub (fun _ h => List.mem_append_right _ h) (by decide +kernel))) (goodIn_sub (fun _ h => List.mem_append_left _ (List.mem_append_right _ h)) (by decide +kernel))
set_option maxRecDepth 20000 in
theorem gL_law_L_work : GoodIn wsL_law (va_wsS RL 161 yL_work wsL_work) := goodIn_app (goodIn_of _ (by decide +kernel)) ggL_law_L_work
set_option maxRecDepth 20000 in
theorem ggL_law_X5_work : GoodIn wsL_law wsX5_work := goodIn_r _ [619, 524, 68, 67, 66, 59, 65, 310, 311, 312, 5, 313, 61, 282, 283, 284, 285, 257, 111, 112, 113, 357, 358, 359, 360, 60, 114, 115, 116, 117, 118, 520, 521, 522, 523, 525, 69, 526, 527, 528, 529, 436, 441, 442, 443, 444, 63, 530, 531, 532, 533, 62, 534, 535, 536, 537, 56, 64, 538, 539, 540, 541, 57, 314, 315, 316, 317, 49, 50, 58, 226, 227, 228, 229, 230, 231, 232, 233, 290, 291, 292, 369, 370, 371, 372, 668, 669, 670, 671, 672, 673, 674, 675, 676, 677, 678, 679, 680, 681, 682, 683, 684, 685, 686, 687, 688, 689, 690, 691, 692, 693] (by decide +kernel) (by decide +kernel)
set_option maxRecDepth 20000 in
theorem gL_law_X5_work : GoodIn wsL_law (wsV RL 163 RX5 yX5_work wsX5_work) := goodIn_app (goodIn_of _ (by decide +kernel)) ggL_law_X5_work
set_option maxRecDepth 20000 in
theorem ggL_law_X4_done : GoodIn wsL_law wsX4_done := goodIn_r _ [623, 22, 662, 663, 664, 665, 666, 667, 694, 695, 696, 697, 698] (by decide +kernel) (by decide +kernel)
set_option maxRecDepth 20000 in
theorem gL_law_X4_done : GoodIn wsL_law (wsV RL 164 RX4 yX4_done wsX4_done) := goodIn_app (goodIn_of _ (by decide +kernel)) ggL_law_X4_done
set_option maxRecDepth 20000 in
theorem ggL_law_X5_done : GoodIn wsL_law wsX5_done := goodIn_r _ [627, 118, 436, 66, 668, 669, 670, 671, 672, 673, 674, 675, 676, 677, 678, 679, 680, 681, 682, 683, 684, 685, 686, 687, 688, 689, 690, 691, 692, 693] (by decide +kernel) (by decide +kernel)
set_option maxRecDepth 20000 in
theorem gL_law_X5_done : GoodIn wsL_law (wsV RL 167 RX5 yX5_done wsX5_done) := goodIn_app (goodIn_of _ (by decide +kernel)) ggL_law_X5_done
set_option maxRecDepth 20000 in
theorem ggL_law_L_lose : GoodIn wsL_law wsL_lose := goodIn_ca (goodIn_ca (goodIn_r _ [630, 130, 76, 631, 632, 633, 2, 634, 83, 84, 137, 138, 139, 140, 135, 136, 14, 141, 86, 142, 143, 98, 635, 636, 637, 638, 705, 706, 707, 708, 709, 710, 711, 712, 662, 663, 664, 665, 666, 667] (by decide +kernel) (by decide +kernel)) (goodIn_sub (fun _ h => List.mem_append_left _ (List.mem_append_right _ h)) (by decide +kernel))) (goodIn_sub (fun _ h => List.mem_append_right _ h) (by decide +kernel))
set_option maxRecDepth 20000 in
theorem gL_law_L_lose : GoodIn wsL_law (va_wsS RL 168 yL_lose wsL_lose) := goodIn_app (goodIn_of _ (by decide +kernel)) ggL_law_L_lose
set_option maxRecDepth 20000 in
theorem ggL_law_X5_lose : GoodIn wsL_law wsX5_lose := goodIn_r _ [642, 52, 54, 148, 149, 150, 5, 151, 110, 111, 112, 113, 114, 115, 116, 117, 118, 643, 644, 645, 646, 668, 669, 670, 671, 672, 673, 674, 675, 676, 677, 678, 679, 680, 681, 682, 683, 684, 685, 686, 687, 688, 689, 690, 691, 692, 693] (by decide +kernel) (by decide +kernel)
set_option maxRecDepth 20000 in
theorem gL_law_X5_lose : GoodIn wsL_law (wsV RL 170 RX5 yX5_lose wsX5_lose) := goodIn_app (goodIn_of _ (by decide +kernel)) ggL_law_X5_lose
set_option maxRecDepth 20000 in
theorem ggL_law_X4_inventory : GoodIn wsL_law wsX4_inventory := goodIn_r _ [650, 14, 635, 636, 637, 2, 638, 651, 652, 653, 654, 655, 656, 216, 657, 141, 86, 142, 143, 98, 662, 663, 664, 665, 666, 667, 705, 706, 707, 708, 709, 710, 711, 712] (by decide +kernel) (by decide +kernel)
set_option maxRecDepth 20000 in
theorem gL_law_X4_inventory : GoodIn wsL_law (wsV RL 171 RX4 yX4_inventory wsX4_inventory) := goodIn_app (goodIn_of _ (by decide +kernel)) ggL_law_X4_inventory
set_option maxRecDepth 20000 in
theorem ggL_law_X5_inventory : GoodIn wsL_law wsX5_inventory := goodIn_r _ [661, 118, 110, 52, 51, 54, 643, 644, 645, 5, 646, 668, 669, 670, 671, 672, 673, 674, 675, 676, 677, 678, 679, 680, 681, 682, 683, 684, 685, 686, 687, 688, 689, 690, 691, 692, 693] (by decide +kernel) (by decide +kernel)
set_option maxRecDepth 20000 in
theorem gL_law_X5_inventory : GoodIn wsL_law (wsV RL 174 RX5 yX5_inventory wsX5_inventory) := goodIn_app (goodIn_of _ (by decide +kernel)) ggL_law_X5_inventory
