theorem dL_cell_0 : decode cL_cell 0 = .ok (.iload_n 1, 1) := by decide +kernel
theorem dL_cell_1 : decode cL_cell 1 = .ok (.aload_n 0, 1) := by decide +kernel
theorem dL_cell_2 : decode cL_cell 2 = .ok (.arraylength, 1) := by decide +kernel
theorem dL_cell_3 : decode cL_cell 3 = .ok (.if_icmp .ge 9, 3) := by decide +kernel
theorem dL_cell_6 : decode cL_cell 6 = .ok (.aload_n 0, 1) := by decide +kernel
theorem dL_cell_7 : decode cL_cell 7 = .ok (.iload_n 1, 1) := by decide +kernel
theorem dL_cell_8 : decode cL_cell 8 = .ok (.iaload, 1) := by decide +kernel
theorem dL_cell_9 : decode cL_cell 9 = .ok (.goto 16, 3) := by decide +kernel
theorem dL_cell_12 : decode cL_cell 12 = .ok (.ldc2_w 7, 3) := by decide +kernel
theorem dL_cell_15 : decode cL_cell 15 = .ok (.iload_n 1, 1) := by decide +kernel
theorem dL_cell_16 : decode cL_cell 16 = .ok (.bipush 10, 2) := by decide +kernel
theorem dL_cell_18 : decode cL_cell 18 = .ok (.iadd, 1) := by decide +kernel
theorem dL_cell_19 : decode cL_cell 19 = .ok (.i2l, 1) := by decide +kernel
theorem dL_cell_20 : decode cL_cell 20 = .ok (.lmul, 1) := by decide +kernel
theorem dL_cell_21 : decode cL_cell 21 = .ok (.bipush 6, 2) := by decide +kernel
theorem dL_cell_23 : decode cL_cell 23 = .ok (.lushr, 1) := by decide +kernel
theorem dL_cell_24 : decode cL_cell 24 = .ok (.l2i, 1) := by decide +kernel
theorem dL_cell_25 : decode cL_cell 25 = .ok (.ireturn, 1) := by decide +kernel
theorem dL_some_0 : decode cL_some 0 = .ok (.iload_n 0, 1) := by decide +kernel
theorem dL_some_1 : decode cL_some 1 = .ok (.iconst 2, 1) := by decide +kernel
theorem dL_some_2 : decode cL_some 2 = .ok (.iushr, 1) := by decide +kernel
theorem dL_some_3 : decode cL_some 3 = .ok (.iload_n 1, 1) := by decide +kernel
theorem dL_some_4 : decode cL_some 4 = .ok (.irem, 1) := by decide +kernel
theorem dL_some_5 : decode cL_some 5 = .ok (.ireturn, 1) := by decide +kernel
theorem dL_start_0 : decode cL_start 0 = .ok (.iconst 0, 1) := by decide +kernel
theorem dL_start_1 : decode cL_start 1 = .ok (.istore_n 3, 1) := by decide +kernel
theorem dL_start_2 : decode cL_start 2 = .ok (.iconst 0, 1) := by decide +kernel
theorem dL_start_3 : decode cL_start 3 = .ok (.istore 4, 2) := by decide +kernel
theorem dL_start_5 : decode cL_start 5 = .ok (.iload 4, 2) := by decide +kernel
theorem dL_start_7 : decode cL_start 7 = .ok (.iload_n 2, 1) := by decide +kernel
theorem dL_start_8 : decode cL_start 8 = .ok (.if_icmp .ge 21, 3) := by decide +kernel
theorem dL_start_11 : decode cL_start 11 = .ok (.iload_n 3, 1) := by decide +kernel
theorem dL_start_12 : decode cL_start 12 = .ok (.aload_n 0, 1) := by decide +kernel
theorem dL_start_13 : decode cL_start 13 = .ok (.bipush 6, 2) := by decide +kernel
theorem dL_start_15 : decode cL_start 15 = .ok (.iload_n 1, 1) := by decide +kernel
theorem dL_start_16 : decode cL_start 16 = .ok (.imul, 1) := by decide +kernel
theorem dL_start_17 : decode cL_start 17 = .ok (.iload 4, 2) := by decide +kernel
theorem dL_start_19 : decode cL_start 19 = .ok (.iadd, 1) := by decide +kernel
theorem dL_start_20 : decode cL_start 20 = .ok (.iaload, 1) := by decide +kernel
theorem dL_start_21 : decode cL_start 21 = .ok (.iadd, 1) := by decide +kernel
theorem dL_start_22 : decode cL_start 22 = .ok (.istore_n 3, 1) := by decide +kernel
theorem dL_start_23 : decode cL_start 23 = .ok (.iinc 4 1, 3) := by decide +kernel
theorem dL_start_26 : decode cL_start 26 = .ok (.goto (-21), 3) := by decide +kernel
theorem dL_start_29 : decode cL_start 29 = .ok (.iload_n 3, 1) := by decide +kernel
theorem dL_start_30 : decode cL_start 30 = .ok (.ireturn, 1) := by decide +kernel
theorem dL_lies_0 : decode cL_lies 0 = .ok (.iconst 0, 1) := by decide +kernel
theorem dL_lies_1 : decode cL_lies 1 = .ok (.istore_n 3, 1) := by decide +kernel
theorem dL_lies_2 : decode cL_lies 2 = .ok (.iconst 0, 1) := by decide +kernel
theorem dL_lies_3 : decode cL_lies 3 = .ok (.istore 4, 2) := by decide +kernel
theorem dL_lies_5 : decode cL_lies 5 = .ok (.iconst 1, 1) := by decide +kernel
theorem dL_lies_6 : decode cL_lies 6 = .ok (.istore 5, 2) := by decide +kernel
theorem dL_lies_8 : decode cL_lies 8 = .ok (.aload_n 0, 1) := by decide +kernel
theorem dL_lies_9 : decode cL_lies 9 = .ok (.iload_n 1, 1) := by decide +kernel
theorem dL_lies_10 : decode cL_lies 10 = .ok (.iaload, 1) := by decide +kernel
theorem dL_lies_11 : decode cL_lies 11 = .ok (.aload_n 0, 1) := by decide +kernel
theorem dL_lies_12 : decode cL_lies 12 = .ok (.iconst 4, 1) := by decide +kernel
theorem dL_lies_13 : decode cL_lies 13 = .ok (.iload_n 1, 1) := by decide +kernel
theorem dL_lies_14 : decode cL_lies 14 = .ok (.iadd, 1) := by decide +kernel
theorem dL_lies_15 : decode cL_lies 15 = .ok (.iaload, 1) := by decide +kernel
theorem dL_lies_16 : decode cL_lies 16 = .ok (.imul, 1) := by decide +kernel
theorem dL_lies_17 : decode cL_lies 17 = .ok (.iconst 1, 1) := by decide +kernel
theorem dL_lies_18 : decode cL_lies 18 = .ok (.isub, 1) := by decide +kernel
theorem dL_lies_19 : decode cL_lies 19 = .ok (.istore 6, 2) := by decide +kernel
theorem dL_lies_21 : decode cL_lies 21 = .ok (.iconst 0, 1) := by decide +kernel
theorem dL_lies_22 : decode cL_lies 22 = .ok (.istore 7, 2) := by decide +kernel
theorem dL_lies_24 : decode cL_lies 24 = .ok (.iload 7, 2) := by decide +kernel
theorem dL_lies_26 : decode cL_lies 26 = .ok (.iload_n 2, 1) := by decide +kernel
theorem dL_lies_27 : decode cL_lies 27 = .ok (.iload 6, 2) := by decide +kernel
theorem dL_lies_29 : decode cL_lies 29 = .ok (.if_icmp .le 8, 3) := by decide +kernel
theorem dL_lies_32 : decode cL_lies 32 = .ok (.iload 6, 2) := by decide +kernel
theorem dL_lies_34 : decode cL_lies 34 = .ok (.goto 4, 3) := by decide +kernel
theorem dL_lies_37 : decode cL_lies 37 = .ok (.iload_n 2, 1) := by decide +kernel
theorem dL_lies_38 : decode cL_lies 38 = .ok (.if_icmp .ge 38, 3) := by decide +kernel
theorem dL_lies_41 : decode cL_lies 41 = .ok (.iload 7, 2) := by decide +kernel
theorem dL_lies_43 : decode cL_lies 43 = .ok (.iconst 1, 1) := by decide +kernel
theorem dL_lies_44 : decode cL_lies 44 = .ok (.iadd, 1) := by decide +kernel
theorem dL_lies_45 : decode cL_lies 45 = .ok (.aload_n 0, 1) := by decide +kernel
theorem dL_lies_46 : decode cL_lies 46 = .ok (.iconst 4, 1) := by decide +kernel
theorem dL_lies_47 : decode cL_lies 47 = .ok (.iload_n 1, 1) := by decide +kernel
theorem dL_lies_48 : decode cL_lies 48 = .ok (.iadd, 1) := by decide +kernel
theorem dL_lies_49 : decode cL_lies 49 = .ok (.iaload, 1) := by decide +kernel
theorem dL_lies_50 : decode cL_lies 50 = .ok (.irem, 1) := by decide +kernel
theorem dL_lies_51 : decode cL_lies 51 = .ok (.ifCond .ne 14, 3) := by decide +kernel
theorem dL_lies_54 : decode cL_lies 54 = .ok (.iinc 4 1, 3) := by decide +kernel
theorem dL_lies_57 : decode cL_lies 57 = .ok (.iload 5, 2) := by decide +kernel
theorem dL_lies_59 : decode cL_lies 59 = .ok (.ineg, 1) := by decide +kernel
theorem dL_lies_60 : decode cL_lies 60 = .ok (.istore 5, 2) := by decide +kernel
theorem dL_lies_62 : decode cL_lies 62 = .ok (.goto 8, 3) := by decide +kernel
theorem dL_lies_65 : decode cL_lies 65 = .ok (.iload_n 3, 1) := by decide +kernel
theorem dL_lies_66 : decode cL_lies 66 = .ok (.iload 5, 2) := by decide +kernel
theorem dL_lies_68 : decode cL_lies 68 = .ok (.iadd, 1) := by decide +kernel
theorem dL_lies_69 : decode cL_lies 69 = .ok (.istore_n 3, 1) := by decide +kernel
theorem dL_lies_70 : decode cL_lies 70 = .ok (.iinc 7 1, 3) := by decide +kernel
theorem dL_lies_73 : decode cL_lies 73 = .ok (.goto (-49), 3) := by decide +kernel
theorem dL_lies_76 : decode cL_lies 76 = .ok (.sipush 1000, 3) := by decide +kernel
theorem dL_lies_79 : decode cL_lies 79 = .ok (.iload 4, 2) := by decide +kernel
theorem dL_lies_81 : decode cL_lies 81 = .ok (.imul, 1) := by decide +kernel
theorem dL_lies_82 : decode cL_lies 82 = .ok (.iload_n 3, 1) := by decide +kernel
theorem dL_lies_83 : decode cL_lies 83 = .ok (.iadd, 1) := by decide +kernel
theorem dL_lies_84 : decode cL_lies 84 = .ok (.ireturn, 1) := by decide +kernel
set_option maxRecDepth 20000 in
theorem ggL_way_L_lies : GoodIn wsL_way wsL_lies := goodIn_r _ [4] (by decide +kernel) (by decide +kernel)
set_option maxRecDepth 20000 in
theorem gL_way_L_lies : GoodIn wsL_way (va_wsS RL 9 yL_lies wsL_lies) := goodIn_app (goodIn_of _ (by decide +kernel)) ggL_way_L_lies
theorem dL_way_0 : decode cL_way 0 = .ok (.aload_n 0, 1) := by decide +kernel
theorem dL_way_1 : decode cL_way 1 = .ok (.aload_n 1, 1) := by decide +kernel
theorem dL_way_2 : decode cL_way 2 = .ok (.bipush 6, 2) := by decide +kernel
theorem dL_way_4 : decode cL_way 4 = .ok (.iload_n 2, 1) := by decide +kernel
theorem dL_way_5 : decode cL_way 5 = .ok (.iadd, 1) := by decide +kernel
theorem dL_way_6 : decode cL_way 6 = .ok (.iaload, 1) := by decide +kernel
theorem dL_way_7 : decode cL_way 7 = .ok (.iload_n 3, 1) := by decide +kernel
theorem dL_way_8 : decode cL_way 8 = .ok (.invokestatic 9, 3) := by decide +kernel
theorem dL_way_11 : decode cL_way 11 = .ok (.istore 5, 2) := by decide +kernel
theorem dL_way_13 : decode cL_way 13 = .ok (.aload_n 0, 1) := by decide +kernel
theorem dL_way_14 : decode cL_way 14 = .ok (.aload_n 1, 1) := by decide +kernel
theorem dL_way_15 : decode cL_way 15 = .ok (.bipush 6, 2) := by decide +kernel
theorem dL_way_17 : decode cL_way 17 = .ok (.iload_n 2, 1) := by decide +kernel
theorem dL_way_18 : decode cL_way 18 = .ok (.iadd, 1) := by decide +kernel
theorem dL_way_19 : decode cL_way 19 = .ok (.iaload, 1) := by decide +kernel
theorem dL_way_20 : decode cL_way 20 = .ok (.iload 4, 2) := by decide +kernel
theorem dL_way_22 : decode cL_way 22 = .ok (.invokestatic 9, 3) := by decide +kernel
theorem dL_way_25 : decode cL_way 25 = .ok (.istore 6, 2) := by decide +kernel
theorem dL_way_27 : decode cL_way 27 = .ok (.iload 5, 2) := by decide +kernel
theorem dL_way_29 : decode cL_way 29 = .ok (.sipush 1000, 3) := by decide +kernel
theorem dL_way_32 : decode cL_way 32 = .ok (.irem, 1) := by decide +kernel
theorem dL_way_33 : decode cL_way 33 = .ok (.iload 6, 2) := by decide +kernel
theorem dL_way_35 : decode cL_way 35 = .ok (.sipush 1000, 3) := by decide +kernel
theorem dL_way_38 : decode cL_way 38 = .ok (.irem, 1) := by decide +kernel
theorem dL_way_39 : decode cL_way 39 = .ok (.isub, 1) := by decide +kernel
theorem dL_way_40 : decode cL_way 40 = .ok (.istore 7, 2) := by decide +kernel
theorem dL_way_42 : decode cL_way 42 = .ok (.iload 5, 2) := by decide +kernel
theorem dL_way_44 : decode cL_way 44 = .ok (.sipush 1000, 3) := by decide +kernel
theorem dL_way_47 : decode cL_way 47 = .ok (.idiv, 1) := by decide +kernel
theorem dL_way_48 : decode cL_way 48 = .ok (.iload 6, 2) := by decide +kernel
theorem dL_way_50 : decode cL_way 50 = .ok (.sipush 1000, 3) := by decide +kernel
theorem dL_way_53 : decode cL_way 53 = .ok (.idiv, 1) := by decide +kernel
theorem dL_way_54 : decode cL_way 54 = .ok (.isub, 1) := by decide +kernel
theorem dL_way_55 : decode cL_way 55 = .ok (.istore 8, 2) := by decide +kernel
theorem dL_way_57 : decode cL_way 57 = .ok (.iload 7, 2) := by decide +kernel
theorem dL_way_59 : decode cL_way 59 = .ok (.ifCond .ge 9, 3) := by decide +kernel
theorem dL_way_62 : decode cL_way 62 = .ok (.iload 7, 2) := by decide +kernel
theorem dL_way_64 : decode cL_way 64 = .ok (.ineg, 1) := by decide +kernel
theorem dL_way_65 : decode cL_way 65 = .ok (.goto 5, 3) := by decide +kernel
theorem dL_way_68 : decode cL_way 68 = .ok (.iload 7, 2) := by decide +kernel
theorem dL_way_70 : decode cL_way 70 = .ok (.istore 7, 2) := by decide +kernel
theorem dL_way_72 : decode cL_way 72 = .ok (.iload 8, 2) := by decide +kernel
theorem dL_way_74 : decode cL_way 74 = .ok (.ifCond .ge 9, 3) := by decide +kernel
theorem dL_way_77 : decode cL_way 77 = .ok (.iload 8, 2) := by decide +kernel
theorem dL_way_79 : decode cL_way 79 = .ok (.ineg, 1) := by decide +kernel
theorem dL_way_80 : decode cL_way 80 = .ok (.goto 5, 3) := by decide +kernel
theorem dL_way_83 : decode cL_way 83 = .ok (.iload 8, 2) := by decide +kernel
theorem dL_way_85 : decode cL_way 85 = .ok (.istore 8, 2) := by decide +kernel
theorem dL_way_87 : decode cL_way 87 = .ok (.aload_n 1, 1) := by decide +kernel
theorem dL_way_88 : decode cL_way 88 = .ok (.iload_n 2, 1) := by decide +kernel
theorem dL_way_89 : decode cL_way 89 = .ok (.iaload, 1) := by decide +kernel
theorem dL_way_90 : decode cL_way 90 = .ok (.ifCond .ne 14, 3) := by decide +kernel
theorem dL_way_93 : decode cL_way 93 = .ok (.iload 7, 2) := by decide +kernel
theorem dL_way_95 : decode cL_way 95 = .ok (.bipush 9, 2) := by decide +kernel
theorem dL_way_97 : decode cL_way 97 = .ok (.iload 8, 2) := by decide +kernel
theorem dL_way_99 : decode cL_way 99 = .ok (.imul, 1) := by decide +kernel
theorem dL_way_100 : decode cL_way 100 = .ok (.iadd, 1) := by decide +kernel
theorem dL_way_101 : decode cL_way 101 = .ok (.goto 10, 3) := by decide +kernel
theorem dL_way_104 : decode cL_way 104 = .ok (.iconst 2, 1) := by decide +kernel
theorem dL_way_105 : decode cL_way 105 = .ok (.iload 7, 2) := by decide +kernel
theorem dL_way_107 : decode cL_way 107 = .ok (.imul, 1) := by decide +kernel
theorem dL_way_108 : decode cL_way 108 = .ok (.iload 8, 2) := by decide +kernel
theorem dL_way_110 : decode cL_way 110 = .ok (.iadd, 1) := by decide +kernel
theorem dL_way_111 : decode cL_way 111 = .ok (.ireturn, 1) := by decide +kernel
theorem dL_robot_0 : decode cL_robot 0 = .ok (.iconst 4, 1) := by decide +kernel
theorem dL_robot_1 : decode cL_robot 1 = .ok (.iload_n 1, 1) := by decide +kernel
theorem dL_robot_2 : decode cL_robot 2 = .ok (.imul, 1) := by decide +kernel
theorem dL_robot_3 : decode cL_robot 3 = .ok (.aload_n 0, 1) := by decide +kernel
theorem dL_robot_4 : decode cL_robot 4 = .ok (.bipush 8, 2) := by decide +kernel
theorem dL_robot_6 : decode cL_robot 6 = .ok (.iload_n 2, 1) := by decide +kernel
theorem dL_robot_7 : decode cL_robot 7 = .ok (.iadd, 1) := by decide +kernel
theorem dL_robot_8 : decode cL_robot 8 = .ok (.iaload, 1) := by decide +kernel
theorem dL_robot_9 : decode cL_robot 9 = .ok (.isub, 1) := by decide +kernel
theorem dL_robot_10 : decode cL_robot 10 = .ok (.istore_n 3, 1) := by decide +kernel
theorem dL_robot_11 : decode cL_robot 11 = .ok (.bipush 20, 2) := by decide +kernel
theorem dL_robot_13 : decode cL_robot 13 = .ok (.iconst 2, 1) := by decide +kernel
theorem dL_robot_14 : decode cL_robot 14 = .ok (.iload_n 3, 1) := by decide +kernel
theorem dL_robot_15 : decode cL_robot 15 = .ok (.ifCond .ge 8, 3) := by decide +kernel
theorem dL_robot_18 : decode cL_robot 18 = .ok (.iload_n 3, 1) := by decide +kernel
theorem dL_robot_19 : decode cL_robot 19 = .ok (.ineg, 1) := by decide +kernel
theorem dL_robot_20 : decode cL_robot 20 = .ok (.goto 4, 3) := by decide +kernel
theorem dL_robot_23 : decode cL_robot 23 = .ok (.iload_n 3, 1) := by decide +kernel
theorem dL_robot_24 : decode cL_robot 24 = .ok (.imul, 1) := by decide +kernel
theorem dL_robot_25 : decode cL_robot 25 = .ok (.iadd, 1) := by decide +kernel
theorem dL_robot_26 : decode cL_robot 26 = .ok (.ireturn, 1) := by decide +kernel
theorem dL_listed_0 : decode cL_listed 0 = .ok (.iconst 0, 1) := by decide +kernel
theorem dL_listed_1 : decode cL_listed 1 = .ok (.istore 5, 2) := by decide +kernel
theorem dL_listed_3 : decode cL_listed 3 = .ok (.iconst 0, 1) := by decide +kernel
theorem dL_listed_4 : decode cL_listed 4 = .ok (.istore 6, 2) := by decide +kernel
theorem dL_listed_6 : decode cL_listed 6 = .ok (.iload 6, 2) := by decide +kernel
theorem dL_listed_8 : decode cL_listed 8 = .ok (.aload_n 0, 1) := by decide +kernel
theorem dL_listed_9 : decode cL_listed 9 = .ok (.iconst 2, 1) := by decide +kernel
theorem dL_listed_10 : decode cL_listed 10 = .ok (.iaload, 1) := by decide +kernel
theorem dL_listed_11 : decode cL_listed 11 = .ok (.if_icmp .ge 34, 3) := by decide +kernel
theorem dL_listed_14 : decode cL_listed 14 = .ok (.aload_n 2, 1) := by decide +kernel
theorem dL_listed_15 : decode cL_listed 15 = .ok (.iload 6, 2) := by decide +kernel
theorem dL_listed_17 : decode cL_listed 17 = .ok (.iaload, 1) := by decide +kernel
theorem dL_listed_18 : decode cL_listed 18 = .ok (.ifCond .ne 21, 3) := by decide +kernel
theorem dL_listed_21 : decode cL_listed 21 = .ok (.aload_n 1, 1) := by decide +kernel
theorem dL_listed_22 : decode cL_listed 22 = .ok (.iload 6, 2) := by decide +kernel
theorem dL_listed_24 : decode cL_listed 24 = .ok (.iaload, 1) := by decide +kernel
theorem dL_listed_25 : decode cL_listed 25 = .ok (.iload_n 3, 1) := by decide +kernel
theorem dL_listed_26 : decode cL_listed 26 = .ok (.if_icmp .ne 13, 3) := by decide +kernel
theorem dL_listed_29 : decode cL_listed 29 = .ok (.aload 4, 2) := by decide +kernel
theorem dL_listed_31 : decode cL_listed 31 = .ok (.iload 5, 2) := by decide +kernel
theorem dL_listed_33 : decode cL_listed 33 = .ok (.iload 6, 2) := by decide +kernel
theorem dL_listed_35 : decode cL_listed 35 = .ok (.iastore, 1) := by decide +kernel
theorem dL_listed_36 : decode cL_listed 36 = .ok (.iinc 5 1, 3) := by decide +kernel
theorem dL_listed_39 : decode cL_listed 39 = .ok (.iinc 6 1, 3) := by decide +kernel
theorem dL_listed_42 : decode cL_listed 42 = .ok (.goto (-36), 3) := by decide +kernel
theorem dL_listed_45 : decode cL_listed 45 = .ok (.iload 5, 2) := by decide +kernel
theorem dL_listed_47 : decode cL_listed 47 = .ok (.ireturn, 1) := by decide +kernel
set_option maxRecDepth 20000 in
theorem ggL_time_L_start : GoodIn wsL_time wsL_start := goodIn_r _ [4] (by decide +kernel) (by decide +kernel)
set_option maxRecDepth 20000 in
theorem gL_time_L_start : GoodIn wsL_time (va_wsS RL 15 yL_start wsL_start) := goodIn_app (goodIn_of _ (by decide +kernel)) ggL_time_L_start
set_option maxRecDepth 20000 in
theorem ggL_time_L_way : GoodIn wsL_time wsL_way := goodIn_r _ [7, 8, 9, 3, 10] (by decide +kernel) (by decide +kernel)
set_option maxRecDepth 20000 in
theorem gL_time_L_way : GoodIn wsL_time (va_wsS RL 18 yL_way wsL_way) := goodIn_app (goodIn_of _ (by decide +kernel)) ggL_time_L_way
theorem dL_time_0 : decode cL_time 0 = .ok (.aload_n 2, 1) := by decide +kernel
theorem dL_time_1 : decode cL_time 1 = .ok (.bipush 8, 2) := by decide +kernel
theorem dL_time_3 : decode cL_time 3 = .ok (.iload 4, 2) := by decide +kernel
theorem dL_time_5 : decode cL_time 5 = .ok (.iadd, 1) := by decide +kernel
theorem dL_time_6 : decode cL_time 6 = .ok (.iaload, 1) := by decide +kernel
theorem dL_time_7 : decode cL_time 7 = .ok (.istore 7, 2) := by decide +kernel
theorem dL_time_9 : decode cL_time 9 = .ok (.iconst 0, 1) := by decide +kernel
theorem dL_time_10 : decode cL_time 10 = .ok (.istore 8, 2) := by decide +kernel
theorem dL_time_12 : decode cL_time 12 = .ok (.iconst 0, 1) := by decide +kernel
theorem dL_time_13 : decode cL_time 13 = .ok (.istore 9, 2) := by decide +kernel
theorem dL_time_15 : decode cL_time 15 = .ok (.iload 9, 2) := by decide +kernel
theorem dL_time_17 : decode cL_time 17 = .ok (.iload 6, 2) := by decide +kernel
theorem dL_time_19 : decode cL_time 19 = .ok (.if_icmp .ge 84, 3) := by decide +kernel
theorem dL_time_22 : decode cL_time 22 = .ok (.aload_n 3, 1) := by decide +kernel
theorem dL_time_23 : decode cL_time 23 = .ok (.aload 5, 2) := by decide +kernel
theorem dL_time_25 : decode cL_time 25 = .ok (.iload 9, 2) := by decide +kernel
theorem dL_time_27 : decode cL_time 27 = .ok (.iaload, 1) := by decide +kernel
theorem dL_time_28 : decode cL_time 28 = .ok (.iaload, 1) := by decide +kernel
theorem dL_time_29 : decode cL_time 29 = .ok (.istore 10, 2) := by decide +kernel
theorem dL_time_31 : decode cL_time 31 = .ok (.aload_n 3, 1) := by decide +kernel
theorem dL_time_32 : decode cL_time 32 = .ok (.bipush 20, 2) := by decide +kernel
theorem dL_time_34 : decode cL_time 34 = .ok (.aload 5, 2) := by decide +kernel
theorem dL_time_36 : decode cL_time 36 = .ok (.iload 9, 2) := by decide +kernel
theorem dL_time_38 : decode cL_time 38 = .ok (.iaload, 1) := by decide +kernel
theorem dL_time_39 : decode cL_time 39 = .ok (.iadd, 1) := by decide +kernel
theorem dL_time_40 : decode cL_time 40 = .ok (.iaload, 1) := by decide +kernel
theorem dL_time_41 : decode cL_time 41 = .ok (.istore 11, 2) := by decide +kernel
theorem dL_time_43 : decode cL_time 43 = .ok (.aload_n 1, 1) := by decide +kernel
theorem dL_time_44 : decode cL_time 44 = .ok (.iload 10, 2) := by decide +kernel
theorem dL_time_46 : decode cL_time 46 = .ok (.iload 11, 2) := by decide +kernel
theorem dL_time_48 : decode cL_time 48 = .ok (.invokestatic 15, 3) := by decide +kernel
theorem dL_time_51 : decode cL_time 51 = .ok (.istore 12, 2) := by decide +kernel
theorem dL_time_53 : decode cL_time 53 = .ok (.iload 8, 2) := by decide +kernel
theorem dL_time_55 : decode cL_time 55 = .ok (.aload_n 0, 1) := by decide +kernel
theorem dL_time_56 : decode cL_time 56 = .ok (.aload_n 2, 1) := by decide +kernel
theorem dL_time_57 : decode cL_time 57 = .ok (.iload 4, 2) := by decide +kernel
theorem dL_time_59 : decode cL_time 59 = .ok (.iload 7, 2) := by decide +kernel
theorem dL_time_61 : decode cL_time 61 = .ok (.iload 12, 2) := by decide +kernel
theorem dL_time_63 : decode cL_time 63 = .ok (.invokestatic 18, 3) := by decide +kernel
theorem dL_time_66 : decode cL_time 66 = .ok (.iconst 3, 1) := by decide +kernel
theorem dL_time_67 : decode cL_time 67 = .ok (.aload_n 1, 1) := by decide +kernel
theorem dL_time_68 : decode cL_time 68 = .ok (.bipush 6, 2) := by decide +kernel
theorem dL_time_70 : decode cL_time 70 = .ok (.iload 10, 2) := by decide +kernel
theorem dL_time_72 : decode cL_time 72 = .ok (.imul, 1) := by decide +kernel
theorem dL_time_73 : decode cL_time 73 = .ok (.iload 11, 2) := by decide +kernel
theorem dL_time_75 : decode cL_time 75 = .ok (.iadd, 1) := by decide +kernel
theorem dL_time_76 : decode cL_time 76 = .ok (.iaload, 1) := by decide +kernel
theorem dL_time_77 : decode cL_time 77 = .ok (.imul, 1) := by decide +kernel
theorem dL_time_78 : decode cL_time 78 = .ok (.iadd, 1) := by decide +kernel
theorem dL_time_79 : decode cL_time 79 = .ok (.iadd, 1) := by decide +kernel
theorem dL_time_80 : decode cL_time 80 = .ok (.istore 8, 2) := by decide +kernel
theorem dL_time_82 : decode cL_time 82 = .ok (.iload 12, 2) := by decide +kernel
theorem dL_time_84 : decode cL_time 84 = .ok (.aload_n 1, 1) := by decide +kernel
theorem dL_time_85 : decode cL_time 85 = .ok (.bipush 6, 2) := by decide +kernel
theorem dL_time_87 : decode cL_time 87 = .ok (.iload 10, 2) := by decide +kernel
theorem dL_time_89 : decode cL_time 89 = .ok (.imul, 1) := by decide +kernel
theorem dL_time_90 : decode cL_time 90 = .ok (.iload 11, 2) := by decide +kernel
theorem dL_time_92 : decode cL_time 92 = .ok (.iadd, 1) := by decide +kernel
theorem dL_time_93 : decode cL_time 93 = .ok (.iaload, 1) := by decide +kernel
theorem dL_time_94 : decode cL_time 94 = .ok (.iadd, 1) := by decide +kernel
theorem dL_time_95 : decode cL_time 95 = .ok (.istore 7, 2) := by decide +kernel
theorem dL_time_97 : decode cL_time 97 = .ok (.iinc 9 1, 3) := by decide +kernel
theorem dL_time_100 : decode cL_time 100 = .ok (.goto (-85), 3) := by decide +kernel
theorem dL_time_103 : decode cL_time 103 = .ok (.iload 8, 2) := by decide +kernel
theorem dL_time_105 : decode cL_time 105 = .ok (.ireturn, 1) := by decide +kernel
set_option maxRecDepth 20000 in
theorem ggL_best_L_listed : GoodIn wsL_best wsL_listed := goodIn_r _ [5] (by decide +kernel) (by decide +kernel)
set_option maxRecDepth 20000 in
theorem gL_best_L_listed : GoodIn wsL_best (va_wsS RL 22 yL_listed wsL_listed) := goodIn_app (goodIn_of _ (by decide +kernel)) ggL_best_L_listed
set_option maxRecDepth 20000 in
theorem ggL_best_L_time : GoodIn wsL_best wsL_time := goodIn_r _ [8, 9, 10, 4, 11, 12, 13, 14, 15, 16, 17] (by decide +kernel) (by decide +kernel)
set_option maxRecDepth 20000 in
theorem gL_best_L_time : GoodIn wsL_best (va_wsS RL 26 yL_time wsL_time) := goodIn_app (goodIn_of _ (by decide +kernel)) ggL_best_L_time
theorem dL_best_0 : decode cL_best 0 = .ok (.bipush 8, 2) := by decide +kernel
theorem dL_best_2 : decode cL_best 2 = .ok (.newarray .int, 2) := by decide +kernel
theorem dL_best_4 : decode cL_best 4 = .ok (.astore 8, 2) := by decide +kernel
theorem dL_best_6 : decode cL_best 6 = .ok (.bipush 8, 2) := by decide +kernel
theorem dL_best_8 : decode cL_best 8 = .ok (.newarray .int, 2) := by decide +kernel
theorem dL_best_10 : decode cL_best 10 = .ok (.astore 9, 2) := by decide +kernel
theorem dL_best_12 : decode cL_best 12 = .ok (.aload_n 0, 1) := by decide +kernel
theorem dL_best_13 : decode cL_best 13 = .ok (.aload 4, 2) := by decide +kernel
theorem dL_best_15 : decode cL_best 15 = .ok (.aload 5, 2) := by decide +kernel
theorem dL_best_17 : decode cL_best 17 = .ok (.aload_n 3, 1) := by decide +kernel
theorem dL_best_18 : decode cL_best 18 = .ok (.bipush 6, 2) := by decide +kernel
theorem dL_best_20 : decode cL_best 20 = .ok (.iload 6, 2) := by decide +kernel
theorem dL_best_22 : decode cL_best 22 = .ok (.iadd, 1) := by decide +kernel
theorem dL_best_23 : decode cL_best 23 = .ok (.iaload, 1) := by decide +kernel
theorem dL_best_24 : decode cL_best 24 = .ok (.aload 8, 2) := by decide +kernel
theorem dL_best_26 : decode cL_best 26 = .ok (.invokestatic 22, 3) := by decide +kernel
theorem dL_best_29 : decode cL_best 29 = .ok (.istore 10, 2) := by decide +kernel
theorem dL_best_31 : decode cL_best 31 = .ok (.iload 10, 2) := by decide +kernel
theorem dL_best_33 : decode cL_best 33 = .ok (.ifCond .ne 7, 3) := by decide +kernel
theorem dL_best_36 : decode cL_best 36 = .ok (.iconst 0, 1) := by decide +kernel
theorem dL_best_37 : decode cL_best 37 = .ok (.goto 4, 3) := by decide +kernel
theorem dL_best_40 : decode cL_best 40 = .ok (.iconst (-1), 1) := by decide +kernel
theorem dL_best_41 : decode cL_best 41 = .ok (.istore 11, 2) := by decide +kernel
theorem dL_best_43 : decode cL_best 43 = .ok (.iconst 1, 1) := by decide +kernel
theorem dL_best_44 : decode cL_best 44 = .ok (.istore 12, 2) := by decide +kernel
theorem dL_best_46 : decode cL_best 46 = .ok (.iconst 0, 1) := by decide +kernel
theorem dL_best_47 : decode cL_best 47 = .ok (.istore 13, 2) := by decide +kernel
theorem dL_best_49 : decode cL_best 49 = .ok (.iload 13, 2) := by decide +kernel
theorem dL_best_51 : decode cL_best 51 = .ok (.iload 10, 2) := by decide +kernel
theorem dL_best_53 : decode cL_best 53 = .ok (.if_icmp .ge 16, 3) := by decide +kernel
theorem dL_best_56 : decode cL_best 56 = .ok (.iload 12, 2) := by decide +kernel
theorem dL_best_58 : decode cL_best 58 = .ok (.iload 10, 2) := by decide +kernel
theorem dL_best_60 : decode cL_best 60 = .ok (.imul, 1) := by decide +kernel
theorem dL_best_61 : decode cL_best 61 = .ok (.istore 12, 2) := by decide +kernel
theorem dL_best_63 : decode cL_best 63 = .ok (.iinc 13 1, 3) := by decide +kernel
theorem dL_best_66 : decode cL_best 66 = .ok (.goto (-17), 3) := by decide +kernel
theorem dL_best_69 : decode cL_best 69 = .ok (.iconst 0, 1) := by decide +kernel
theorem dL_best_70 : decode cL_best 70 = .ok (.istore 13, 2) := by decide +kernel
theorem dL_best_72 : decode cL_best 72 = .ok (.iload 13, 2) := by decide +kernel
theorem dL_best_74 : decode cL_best 74 = .ok (.iload 12, 2) := by decide +kernel
theorem dL_best_76 : decode cL_best 76 = .ok (.if_icmp .ge 148, 3) := by decide +kernel
theorem dL_best_79 : decode cL_best 79 = .ok (.iload 10, 2) := by decide +kernel
theorem dL_best_81 : decode cL_best 81 = .ok (.ifCond .le 143, 3) := by decide +kernel
theorem dL_best_84 : decode cL_best 84 = .ok (.iload 13, 2) := by decide +kernel
theorem dL_best_86 : decode cL_best 86 = .ok (.istore 14, 2) := by decide +kernel
theorem dL_best_88 : decode cL_best 88 = .ok (.iconst 0, 1) := by decide +kernel
theorem dL_best_89 : decode cL_best 89 = .ok (.istore 15, 2) := by decide +kernel
theorem dL_best_91 : decode cL_best 91 = .ok (.iload 10, 2) := by decide +kernel
theorem dL_best_93 : decode cL_best 93 = .ok (.iconst 1, 1) := by decide +kernel
theorem dL_best_94 : decode cL_best 94 = .ok (.isub, 1) := by decide +kernel
theorem dL_best_95 : decode cL_best 95 = .ok (.istore 16, 2) := by decide +kernel
theorem dL_best_97 : decode cL_best 97 = .ok (.iload 16, 2) := by decide +kernel
theorem dL_best_99 : decode cL_best 99 = .ok (.ifCond .lt 41, 3) := by decide +kernel
theorem dL_best_102 : decode cL_best 102 = .ok (.aload 9, 2) := by decide +kernel
theorem dL_best_104 : decode cL_best 104 = .ok (.iload 16, 2) := by decide +kernel
theorem dL_best_106 : decode cL_best 106 = .ok (.aload 8, 2) := by decide +kernel
theorem dL_best_108 : decode cL_best 108 = .ok (.iload 14, 2) := by decide +kernel
theorem dL_best_110 : decode cL_best 110 = .ok (.iload 10, 2) := by decide +kernel
theorem dL_best_112 : decode cL_best 112 = .ok (.irem, 1) := by decide +kernel
theorem dL_best_113 : decode cL_best 113 = .ok (.iaload, 1) := by decide +kernel
theorem dL_best_114 : decode cL_best 114 = .ok (.iastore, 1) := by decide +kernel
theorem dL_best_115 : decode cL_best 115 = .ok (.iload 15, 2) := by decide +kernel
theorem dL_best_117 : decode cL_best 117 = .ok (.iconst 1, 1) := by decide +kernel
theorem dL_best_118 : decode cL_best 118 = .ok (.iload 14, 2) := by decide +kernel
theorem dL_best_120 : decode cL_best 120 = .ok (.iload 10, 2) := by decide +kernel
theorem dL_best_122 : decode cL_best 122 = .ok (.irem, 1) := by decide +kernel
theorem dL_best_123 : decode cL_best 123 = .ok (.ishl, 1) := by decide +kernel
theorem dL_best_124 : decode cL_best 124 = .ok (.ior, 1) := by decide +kernel
theorem dL_best_125 : decode cL_best 125 = .ok (.istore 15, 2) := by decide +kernel
theorem dL_best_127 : decode cL_best 127 = .ok (.iload 14, 2) := by decide +kernel
theorem dL_best_129 : decode cL_best 129 = .ok (.iload 10, 2) := by decide +kernel
theorem dL_best_131 : decode cL_best 131 = .ok (.idiv, 1) := by decide +kernel
theorem dL_best_132 : decode cL_best 132 = .ok (.istore 14, 2) := by decide +kernel
theorem dL_best_134 : decode cL_best 134 = .ok (.iinc 16 (-1), 3) := by decide +kernel
theorem dL_best_137 : decode cL_best 137 = .ok (.goto (-40), 3) := by decide +kernel
theorem dL_best_140 : decode cL_best 140 = .ok (.iload 15, 2) := by decide +kernel
theorem dL_best_142 : decode cL_best 142 = .ok (.iconst 1, 1) := by decide +kernel
theorem dL_best_143 : decode cL_best 143 = .ok (.iload 10, 2) := by decide +kernel
theorem dL_best_145 : decode cL_best 145 = .ok (.ishl, 1) := by decide +kernel
theorem dL_best_146 : decode cL_best 146 = .ok (.iconst 1, 1) := by decide +kernel
theorem dL_best_147 : decode cL_best 147 = .ok (.isub, 1) := by decide +kernel
theorem dL_best_148 : decode cL_best 148 = .ok (.if_icmp .ne 20, 3) := by decide +kernel
theorem dL_best_151 : decode cL_best 151 = .ok (.aload_n 1, 1) := by decide +kernel
theorem dL_best_152 : decode cL_best 152 = .ok (.aload_n 2, 1) := by decide +kernel
theorem dL_best_153 : decode cL_best 153 = .ok (.aload_n 3, 1) := by decide +kernel
theorem dL_best_154 : decode cL_best 154 = .ok (.aload 4, 2) := by decide +kernel
theorem dL_best_156 : decode cL_best 156 = .ok (.iload 6, 2) := by decide +kernel
theorem dL_best_158 : decode cL_best 158 = .ok (.aload 9, 2) := by decide +kernel
theorem dL_best_160 : decode cL_best 160 = .ok (.iload 10, 2) := by decide +kernel
theorem dL_best_162 : decode cL_best 162 = .ok (.invokestatic 26, 3) := by decide +kernel
theorem dL_best_165 : decode cL_best 165 = .ok (.goto 4, 3) := by decide +kernel
theorem dL_best_168 : decode cL_best 168 = .ok (.iconst (-1), 1) := by decide +kernel
theorem dL_best_169 : decode cL_best 169 = .ok (.istore 16, 2) := by decide +kernel
theorem dL_best_171 : decode cL_best 171 = .ok (.iload 16, 2) := by decide +kernel
theorem dL_best_173 : decode cL_best 173 = .ok (.ifCond .lt 45, 3) := by decide +kernel
theorem dL_best_176 : decode cL_best 176 = .ok (.iload 11, 2) := by decide +kernel
theorem dL_best_178 : decode cL_best 178 = .ok (.ifCond .lt 10, 3) := by decide +kernel
theorem dL_best_181 : decode cL_best 181 = .ok (.iload 16, 2) := by decide +kernel
theorem dL_best_183 : decode cL_best 183 = .ok (.iload 11, 2) := by decide +kernel
theorem dL_best_185 : decode cL_best 185 = .ok (.if_icmp .ge 33, 3) := by decide +kernel
theorem dL_best_188 : decode cL_best 188 = .ok (.iload 16, 2) := by decide +kernel
theorem dL_best_190 : decode cL_best 190 = .ok (.istore 11, 2) := by decide +kernel
theorem dL_best_192 : decode cL_best 192 = .ok (.iconst 0, 1) := by decide +kernel
theorem dL_best_193 : decode cL_best 193 = .ok (.istore 17, 2) := by decide +kernel
theorem dL_best_195 : decode cL_best 195 = .ok (.iload 17, 2) := by decide +kernel
theorem dL_best_197 : decode cL_best 197 = .ok (.iload 10, 2) := by decide +kernel
theorem dL_best_199 : decode cL_best 199 = .ok (.if_icmp .ge 19, 3) := by decide +kernel
theorem dL_best_202 : decode cL_best 202 = .ok (.aload 7, 2) := by decide +kernel
theorem dL_best_204 : decode cL_best 204 = .ok (.iload 17, 2) := by decide +kernel
theorem dL_best_206 : decode cL_best 206 = .ok (.aload 9, 2) := by decide +kernel
theorem dL_best_208 : decode cL_best 208 = .ok (.iload 17, 2) := by decide +kernel
theorem dL_best_210 : decode cL_best 210 = .ok (.iaload, 1) := by decide +kernel
theorem dL_best_211 : decode cL_best 211 = .ok (.iastore, 1) := by decide +kernel
theorem dL_best_212 : decode cL_best 212 = .ok (.iinc 17 1, 3) := by decide +kernel
theorem dL_best_215 : decode cL_best 215 = .ok (.goto (-20), 3) := by decide +kernel
theorem dL_best_218 : decode cL_best 218 = .ok (.iinc 13 1, 3) := by decide +kernel
theorem dL_best_221 : decode cL_best 221 = .ok (.goto (-149), 3) := by decide +kernel
theorem dL_best_224 : decode cL_best 224 = .ok (.iload 11, 2) := by decide +kernel
theorem dL_best_226 : decode cL_best 226 = .ok (.ireturn, 1) := by decide +kernel
set_option maxRecDepth 20000 in
theorem ggL_inserted_L_listed : GoodIn wsL_inserted wsL_listed := goodIn_r _ [5] (by decide +kernel) (by decide +kernel)
set_option maxRecDepth 20000 in
theorem gL_inserted_L_listed : GoodIn wsL_inserted (va_wsS RL 22 yL_listed wsL_listed) := goodIn_app (goodIn_of _ (by decide +kernel)) ggL_inserted_L_listed
set_option maxRecDepth 20000 in
theorem ggL_inserted_L_time : GoodIn wsL_inserted wsL_time := goodIn_r _ [8, 9, 10, 4, 11, 12, 13, 14, 15, 16, 17] (by decide +kernel) (by decide +kernel)
set_option maxRecDepth 20000 in
theorem gL_inserted_L_time : GoodIn wsL_inserted (va_wsS RL 26 yL_time wsL_time) := goodIn_app (goodIn_of _ (by decide +kernel)) ggL_inserted_L_time
theorem dL_inserted_0 : decode cL_inserted 0 = .ok (.bipush 8, 2) := by decide +kernel
theorem dL_inserted_2 : decode cL_inserted 2 = .ok (.newarray .int, 2) := by decide +kernel
theorem dL_inserted_4 : decode cL_inserted 4 = .ok (.astore 7, 2) := by decide +kernel
theorem dL_inserted_6 : decode cL_inserted 6 = .ok (.bipush 8, 2) := by decide +kernel
theorem dL_inserted_8 : decode cL_inserted 8 = .ok (.newarray .int, 2) := by decide +kernel
theorem dL_inserted_10 : decode cL_inserted 10 = .ok (.astore 8, 2) := by decide +kernel
theorem dL_inserted_12 : decode cL_inserted 12 = .ok (.bipush 8, 2) := by decide +kernel
theorem dL_inserted_14 : decode cL_inserted 14 = .ok (.newarray .int, 2) := by decide +kernel
theorem dL_inserted_16 : decode cL_inserted 16 = .ok (.astore 9, 2) := by decide +kernel
theorem dL_inserted_18 : decode cL_inserted 18 = .ok (.bipush 8, 2) := by decide +kernel
theorem dL_inserted_20 : decode cL_inserted 20 = .ok (.newarray .int, 2) := by decide +kernel
theorem dL_inserted_22 : decode cL_inserted 22 = .ok (.astore 10, 2) := by decide +kernel
theorem dL_inserted_24 : decode cL_inserted 24 = .ok (.aload_n 0, 1) := by decide +kernel
theorem dL_inserted_25 : decode cL_inserted 25 = .ok (.aload 4, 2) := by decide +kernel
theorem dL_inserted_27 : decode cL_inserted 27 = .ok (.aload 5, 2) := by decide +kernel
theorem dL_inserted_29 : decode cL_inserted 29 = .ok (.aload_n 3, 1) := by decide +kernel
theorem dL_inserted_30 : decode cL_inserted 30 = .ok (.bipush 6, 2) := by decide +kernel
