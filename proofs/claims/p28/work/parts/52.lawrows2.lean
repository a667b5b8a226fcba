theorem dL_runs_36 : decode cL_runs 36 = .ok (.iload_n 3, 1) := by decide +kernel
theorem dL_runs_37 : decode cL_runs 37 = .ok (.iadd, 1) := by decide +kernel
theorem dL_runs_38 : decode cL_runs 38 = .ok (.iaload, 1) := by decide +kernel
theorem dL_runs_39 : decode cL_runs 39 = .ok (.iload 5, 2) := by decide +kernel
theorem dL_runs_41 : decode cL_runs 41 = .ok (.invokestatic 18, 3) := by decide +kernel
theorem dL_runs_44 : decode cL_runs 44 = .ok (.iconst 3, 1) := by decide +kernel
theorem dL_runs_45 : decode cL_runs 45 = .ok (.iload 6, 2) := by decide +kernel
theorem dL_runs_47 : decode cL_runs 47 = .ok (.imul, 1) := by decide +kernel
theorem dL_runs_48 : decode cL_runs 48 = .ok (.iadd, 1) := by decide +kernel
theorem dL_runs_49 : decode cL_runs 49 = .ok (.istore 7, 2) := by decide +kernel
theorem dL_runs_51 : decode cL_runs 51 = .ok (.aload_n 2, 1) := by decide +kernel
theorem dL_runs_52 : decode cL_runs 52 = .ok (.iconst 2, 1) := by decide +kernel
theorem dL_runs_53 : decode cL_runs 53 = .ok (.iload_n 3, 1) := by decide +kernel
theorem dL_runs_54 : decode cL_runs 54 = .ok (.iadd, 1) := by decide +kernel
theorem dL_runs_55 : decode cL_runs 55 = .ok (.dup2, 1) := by decide +kernel
theorem dL_runs_56 : decode cL_runs 56 = .ok (.iaload, 1) := by decide +kernel
theorem dL_runs_57 : decode cL_runs 57 = .ok (.iload 7, 2) := by decide +kernel
theorem dL_runs_59 : decode cL_runs 59 = .ok (.iadd, 1) := by decide +kernel
theorem dL_runs_60 : decode cL_runs 60 = .ok (.iastore, 1) := by decide +kernel
theorem dL_runs_61 : decode cL_runs 61 = .ok (.aload_n 2, 1) := by decide +kernel
theorem dL_runs_62 : decode cL_runs 62 = .ok (.iconst 4, 1) := by decide +kernel
theorem dL_runs_63 : decode cL_runs 63 = .ok (.iload_n 3, 1) := by decide +kernel
theorem dL_runs_64 : decode cL_runs 64 = .ok (.iadd, 1) := by decide +kernel
theorem dL_runs_65 : decode cL_runs 65 = .ok (.dup2, 1) := by decide +kernel
theorem dL_runs_66 : decode cL_runs 66 = .ok (.iaload, 1) := by decide +kernel
theorem dL_runs_67 : decode cL_runs 67 = .ok (.iconst 1, 1) := by decide +kernel
theorem dL_runs_68 : decode cL_runs 68 = .ok (.iadd, 1) := by decide +kernel
theorem dL_runs_69 : decode cL_runs 69 = .ok (.iastore, 1) := by decide +kernel
theorem dL_runs_70 : decode cL_runs 70 = .ok (.aload_n 2, 1) := by decide +kernel
theorem dL_runs_71 : decode cL_runs 71 = .ok (.bipush 8, 2) := by decide +kernel
theorem dL_runs_73 : decode cL_runs 73 = .ok (.iload_n 3, 1) := by decide +kernel
theorem dL_runs_74 : decode cL_runs 74 = .ok (.iadd, 1) := by decide +kernel
theorem dL_runs_75 : decode cL_runs 75 = .ok (.iload 5, 2) := by decide +kernel
theorem dL_runs_77 : decode cL_runs 77 = .ok (.iload 6, 2) := by decide +kernel
theorem dL_runs_79 : decode cL_runs 79 = .ok (.iadd, 1) := by decide +kernel
theorem dL_runs_80 : decode cL_runs 80 = .ok (.iastore, 1) := by decide +kernel
theorem dL_runs_81 : decode cL_runs 81 = .ok (.iload 7, 2) := by decide +kernel
theorem dL_runs_83 : decode cL_runs 83 = .ok (.ireturn, 1) := by decide +kernel
set_option maxRecDepth 20000 in
theorem ggL_tapes_L_some : GoodIn wsL_tapes wsL_some := goodIn_r _ [4] (by decide +kernel) (by decide +kernel)
set_option maxRecDepth 20000 in
theorem gL_tapes_L_some : GoodIn wsL_tapes (va_wsS RL 106 yL_some wsL_some) := goodIn_app (goodIn_of _ (by decide +kernel)) ggL_tapes_L_some
set_option maxRecDepth 20000 in
theorem ggL_tapes_L_isFree : GoodIn wsL_tapes wsL_isFree := goodIn_r _ [7] (by decide +kernel) (by decide +kernel)
set_option maxRecDepth 20000 in
theorem gL_tapes_L_isFree : GoodIn wsL_tapes (va_wsS RL 109 yL_isFree wsL_isFree) := goodIn_app (goodIn_of _ (by decide +kernel)) ggL_tapes_L_isFree
set_option maxRecDepth 20000 in
theorem ggL_tapes_L_taped : GoodIn wsL_tapes wsL_taped := goodIn_ca (goodIn_ca (goodIn_r _ [10, 11, 12, 13, 14, 15, 16, 17, 18, 19, 20, 21, 22, 23, 24, 25, 26, 27, 28, 29, 30, 31, 32, 33, 34, 35, 36, 37, 38, 39, 40, 41, 42, 43, 44, 45, 46, 47, 296, 297, 298, 299, 300, 301, 302, 303, 304, 305, 306, 307, 308, 309] (by decide +kernel) (by decide +kernel)) (goodIn_sub (fun _ h => List.mem_cons_of_mem _ (List.mem_append_left _ (List.mem_append_left _ (List.mem_append_right _ h)))) (by decide +kernel))) (goodIn_sub (fun _ h => List.mem_cons_of_mem _ (List.mem_append_left _ (List.mem_append_right _ h))) (by decide +kernel))
set_option maxRecDepth 20000 in
theorem gL_tapes_L_taped : GoodIn wsL_tapes (va_wsS RL 113 yL_taped wsL_taped) := goodIn_app (goodIn_of _ (by decide +kernel)) ggL_tapes_L_taped
set_option maxRecDepth 20000 in
theorem ggL_tapes_L_added : GoodIn wsL_tapes wsL_added := goodIn_ca (goodIn_ca (goodIn_r _ [50, 11, 51, 52, 53, 15, 54, 17, 18, 19, 20, 55, 56, 57, 58, 59, 60, 61, 62, 37, 38, 63, 64, 65, 66, 67, 68, 69, 296, 297, 298, 299, 300, 301, 310, 311, 312, 313, 314, 315, 316] (by decide +kernel) (by decide +kernel)) (goodIn_sub (fun _ h => List.mem_cons_of_mem _ (List.mem_append_left _ (List.mem_append_left _ (List.mem_append_right _ h)))) (by decide +kernel))) (goodIn_sub (fun _ h => List.mem_cons_of_mem _ (List.mem_append_left _ (List.mem_append_right _ h))) (by decide +kernel))
set_option maxRecDepth 20000 in
theorem gL_tapes_L_added : GoodIn wsL_tapes (va_wsS RL 117 yL_added wsL_added) := goodIn_app (goodIn_of _ (by decide +kernel)) ggL_tapes_L_added
set_option maxRecDepth 20000 in
theorem ggL_tapes_L_two : GoodIn wsL_tapes wsL_two := goodIn_ca (goodIn_ca (goodIn_r _ [72, 73, 74, 75, 76, 77, 15, 78, 79, 80, 19, 20, 81, 82, 83, 84, 22, 85, 25, 86, 87, 39, 30, 31, 32, 33, 88, 89, 90, 91, 92, 93, 94, 95, 56, 96, 59, 97, 98, 67, 99, 100, 101, 102, 103, 104, 105, 65, 106, 107, 108, 109, 110, 111, 112, 113, 114, 115, 116, 117, 118, 119, 120, 121, 66, 122, 123, 124, 64, 125, 126, 127, 128, 129, 130, 131, 43, 132, 133, 134, 135, 136, 137, 68, 69, 138, 139, 140, 46, 141, 142, 143, 144, 145, 146, 147, 45, 148, 149, 150, 151, 152, 153, 154, 155, 156, 157, 158, 159, 160, 161, 162, 163, 164, 165, 166, 167, 168, 169, 170, 171, 172, 173, 174, 175, 176, 177, 178, 179, 180, 181, 182, 183, 184, 185, 186, 187, 188, 189, 190, 191, 192, 193, 194, 195, 196, 197, 198, 199, 200, 201, 202, 203, 204, 205, 302, 303, 304, 305, 306, 307, 308, 309, 296, 297, 298, 299, 300, 301, 310, 311, 312, 313, 314, 315, 316, 317, 318, 319, 320, 321, 322, 323, 324, 325, 326, 327] (by decide +kernel) (by decide +kernel)) (goodIn_sub (fun _ h => List.mem_cons_of_mem _ (List.mem_append_right _ h)) (by decide +kernel))) (goodIn_sub (fun _ h => List.mem_cons_of_mem _ (List.mem_append_left _ (List.mem_append_right _ h))) (by decide +kernel))
set_option maxRecDepth 20000 in
theorem gL_tapes_L_two : GoodIn wsL_tapes (va_wsS RL 121 yL_two wsL_two) := goodIn_app (goodIn_of _ (by decide +kernel)) ggL_tapes_L_two
set_option maxRecDepth 20000 in
theorem ggL_tapes_L_robot : GoodIn wsL_tapes wsL_robot := goodIn_r _ [208] (by decide +kernel) (by decide +kernel)
set_option maxRecDepth 20000 in
theorem gL_tapes_L_robot : GoodIn wsL_tapes (va_wsS RL 125 yL_robot wsL_robot) := goodIn_app (goodIn_of _ (by decide +kernel)) ggL_tapes_L_robot
set_option maxRecDepth 20000 in
theorem ggL_tapes_L_way : GoodIn wsL_tapes wsL_way := goodIn_r _ [211, 212, 213, 3, 214] (by decide +kernel) (by decide +kernel)
set_option maxRecDepth 20000 in
theorem gL_tapes_L_way : GoodIn wsL_tapes (va_wsS RL 18 yL_way wsL_way) := goodIn_app (goodIn_of _ (by decide +kernel)) ggL_tapes_L_way
set_option maxRecDepth 20000 in
theorem ggL_tapes_L_one : GoodIn wsL_tapes wsL_one := goodIn_ca (goodIn_ca (goodIn_r _ [217, 73, 74, 218, 219, 220, 15, 221, 92, 93, 94, 95, 79, 80, 56, 110, 111, 112, 19, 20, 135, 59, 136, 137, 99, 100, 101, 102, 68, 69, 138, 25, 139, 140, 46, 141, 142, 143, 144, 145, 146, 147, 45, 96, 97, 98, 67, 103, 104, 105, 65, 222, 223, 224, 225, 226, 227, 228, 229, 156, 161, 116, 117, 118, 119, 120, 121, 66, 157, 158, 159, 160, 162, 163, 164, 165, 166, 167, 168, 169, 170, 171, 172, 173, 174, 175, 132, 133, 176, 177, 178, 179, 180, 181, 126, 127, 128, 129, 130, 131, 43, 134, 148, 149, 150, 182, 183, 184, 185, 186, 187, 188, 189, 190, 191, 192, 193, 194, 195, 196, 197, 198, 199, 200, 201, 202, 203, 204, 205, 122, 123, 124, 64, 125, 151, 230, 231, 232, 233, 234, 235, 236, 237, 238, 239, 240, 241, 242, 243, 244, 245, 246, 247, 248, 249, 250, 251, 252, 253, 254, 255, 256, 257, 258, 259, 260, 261, 262, 263, 264, 265, 266, 267, 268, 269, 270, 271, 272, 273, 274, 275, 276, 277, 81, 82, 83, 84, 22, 85, 86, 87, 39, 278, 279, 280, 281, 310, 311, 312, 313, 314, 315, 316, 302, 303, 304, 305, 306, 307, 308, 309, 296, 297, 298, 299, 300, 301, 317, 318, 319, 320, 321, 322, 323, 324, 325, 326, 327] (by decide +kernel) (by decide +kernel)) (goodIn_sub (fun _ h => List.mem_cons_of_mem _ (List.mem_append_right _ h)) (by decide +kernel))) (goodIn_sub (fun _ h => List.mem_cons_of_mem _ (List.mem_append_left _ (List.mem_append_right _ h))) (by decide +kernel))
set_option maxRecDepth 20000 in
theorem gL_tapes_L_one : GoodIn wsL_tapes (va_wsS RL 128 yL_one wsL_one) := goodIn_app (goodIn_of _ (by decide +kernel)) ggL_tapes_L_one
set_option maxRecDepth 20000 in
theorem ggL_tapes_L_lost : GoodIn wsL_tapes wsL_lost := goodIn_r _ [284] (by decide +kernel) (by decide +kernel)
set_option maxRecDepth 20000 in
theorem gL_tapes_L_lost : GoodIn wsL_tapes (va_wsS RL 131 yL_lost wsL_lost) := goodIn_app (goodIn_of _ (by decide +kernel)) ggL_tapes_L_lost
set_option maxRecDepth 20000 in
theorem ggL_tapes_X4_inventory : GoodIn wsL_tapes wsX4_inventory := goodIn_r _ [288, 22, 278, 279, 280, 15, 281, 289, 290, 291, 292, 293, 294, 101, 295, 85, 25, 86, 87, 39, 296, 297, 298, 299, 300, 301, 302, 303, 304, 305, 306, 307, 308, 309] (by decide +kernel) (by decide +kernel)
set_option maxRecDepth 20000 in
theorem gL_tapes_X4_inventory : GoodIn wsL_tapes (wsV RL 135 RX4 yX4_inventory wsX4_inventory) := goodIn_app (goodIn_of _ (by decide +kernel)) ggL_tapes_X4_inventory
theorem dL_tapes_0 : decode cL_tapes 0 = .ok (.iload_n 2, 1) := by decide +kernel
theorem dL_tapes_1 : decode cL_tapes 1 = .ok (.aload_n 3, 1) := by decide +kernel
theorem dL_tapes_2 : decode cL_tapes 2 = .ok (.iconst 0, 1) := by decide +kernel
theorem dL_tapes_3 : decode cL_tapes 3 = .ok (.iaload, 1) := by decide +kernel
theorem dL_tapes_4 : decode cL_tapes 4 = .ok (.iconst 1, 1) := by decide +kernel
theorem dL_tapes_5 : decode cL_tapes 5 = .ok (.iadd, 1) := by decide +kernel
theorem dL_tapes_6 : decode cL_tapes 6 = .ok (.invokestatic 106, 3) := by decide +kernel
theorem dL_tapes_9 : decode cL_tapes 9 = .ok (.iload_n 2, 1) := by decide +kernel
theorem dL_tapes_10 : decode cL_tapes 10 = .ok (.bipush 9, 2) := by decide +kernel
theorem dL_tapes_12 : decode cL_tapes 12 = .ok (.ishr, 1) := by decide +kernel
theorem dL_tapes_13 : decode cL_tapes 13 = .ok (.bipush 19, 2) := by decide +kernel
theorem dL_tapes_15 : decode cL_tapes 15 = .ok (.invokestatic 106, 3) := by decide +kernel
theorem dL_tapes_18 : decode cL_tapes 18 = .ok (.ifCond .ne 7, 3) := by decide +kernel
theorem dL_tapes_21 : decode cL_tapes 21 = .ok (.iconst 1, 1) := by decide +kernel
theorem dL_tapes_22 : decode cL_tapes 22 = .ok (.goto 4, 3) := by decide +kernel
theorem dL_tapes_25 : decode cL_tapes 25 = .ok (.iconst 0, 1) := by decide +kernel
theorem dL_tapes_26 : decode cL_tapes 26 = .ok (.isub, 1) := by decide +kernel
theorem dL_tapes_27 : decode cL_tapes 27 = .ok (.istore 6, 2) := by decide +kernel
theorem dL_tapes_29 : decode cL_tapes 29 = .ok (.iload 6, 2) := by decide +kernel
theorem dL_tapes_31 : decode cL_tapes 31 = .ok (.ifCond .lt 15, 3) := by decide +kernel
theorem dL_tapes_34 : decode cL_tapes 34 = .ok (.iload 6, 2) := by decide +kernel
theorem dL_tapes_36 : decode cL_tapes 36 = .ok (.aload_n 3, 1) := by decide +kernel
theorem dL_tapes_37 : decode cL_tapes 37 = .ok (.iconst 0, 1) := by decide +kernel
theorem dL_tapes_38 : decode cL_tapes 38 = .ok (.iaload, 1) := by decide +kernel
theorem dL_tapes_39 : decode cL_tapes 39 = .ok (.if_icmp .ge 7, 3) := by decide +kernel
theorem dL_tapes_42 : decode cL_tapes 42 = .ok (.iconst 1, 1) := by decide +kernel
theorem dL_tapes_43 : decode cL_tapes 43 = .ok (.goto 4, 3) := by decide +kernel
theorem dL_tapes_46 : decode cL_tapes 46 = .ok (.iconst 0, 1) := by decide +kernel
theorem dL_tapes_47 : decode cL_tapes 47 = .ok (.istore 7, 2) := by decide +kernel
theorem dL_tapes_49 : decode cL_tapes 49 = .ok (.iload_n 2, 1) := by decide +kernel
theorem dL_tapes_50 : decode cL_tapes 50 = .ok (.iconst 3, 1) := by decide +kernel
theorem dL_tapes_51 : decode cL_tapes 51 = .ok (.ishr, 1) := by decide +kernel
theorem dL_tapes_52 : decode cL_tapes 52 = .ok (.aload_n 3, 1) := by decide +kernel
theorem dL_tapes_53 : decode cL_tapes 53 = .ok (.iconst 1, 1) := by decide +kernel
theorem dL_tapes_54 : decode cL_tapes 54 = .ok (.iaload, 1) := by decide +kernel
theorem dL_tapes_55 : decode cL_tapes 55 = .ok (.iload_n 2, 1) := by decide +kernel
theorem dL_tapes_56 : decode cL_tapes 56 = .ok (.bipush 7, 2) := by decide +kernel
theorem dL_tapes_58 : decode cL_tapes 58 = .ok (.ishr, 1) := by decide +kernel
theorem dL_tapes_59 : decode cL_tapes 59 = .ok (.bipush 9, 2) := by decide +kernel
theorem dL_tapes_61 : decode cL_tapes 61 = .ok (.invokestatic 106, 3) := by decide +kernel
theorem dL_tapes_64 : decode cL_tapes 64 = .ok (.ifCond .eq 9, 3) := by decide +kernel
theorem dL_tapes_67 : decode cL_tapes 67 = .ok (.aload_n 3, 1) := by decide +kernel
theorem dL_tapes_68 : decode cL_tapes 68 = .ok (.iconst 1, 1) := by decide +kernel
theorem dL_tapes_69 : decode cL_tapes 69 = .ok (.iaload, 1) := by decide +kernel
theorem dL_tapes_70 : decode cL_tapes 70 = .ok (.ifCond .ne 7, 3) := by decide +kernel
theorem dL_tapes_73 : decode cL_tapes 73 = .ok (.iconst 1, 1) := by decide +kernel
theorem dL_tapes_74 : decode cL_tapes 74 = .ok (.goto 4, 3) := by decide +kernel
theorem dL_tapes_77 : decode cL_tapes 77 = .ok (.iconst 0, 1) := by decide +kernel
theorem dL_tapes_78 : decode cL_tapes 78 = .ok (.iadd, 1) := by decide +kernel
theorem dL_tapes_79 : decode cL_tapes 79 = .ok (.invokestatic 106, 3) := by decide +kernel
theorem dL_tapes_82 : decode cL_tapes 82 = .ok (.istore 8, 2) := by decide +kernel
theorem dL_tapes_84 : decode cL_tapes 84 = .ok (.iload 8, 2) := by decide +kernel
theorem dL_tapes_86 : decode cL_tapes 86 = .ok (.aload_n 3, 1) := by decide +kernel
theorem dL_tapes_87 : decode cL_tapes 87 = .ok (.iconst 1, 1) := by decide +kernel
theorem dL_tapes_88 : decode cL_tapes 88 = .ok (.iaload, 1) := by decide +kernel
theorem dL_tapes_89 : decode cL_tapes 89 = .ok (.if_icmp .ge 7, 3) := by decide +kernel
theorem dL_tapes_92 : decode cL_tapes 92 = .ok (.iconst 1, 1) := by decide +kernel
theorem dL_tapes_93 : decode cL_tapes 93 = .ok (.goto 4, 3) := by decide +kernel
theorem dL_tapes_96 : decode cL_tapes 96 = .ok (.iconst 0, 1) := by decide +kernel
theorem dL_tapes_97 : decode cL_tapes 97 = .ok (.istore 9, 2) := by decide +kernel
theorem dL_tapes_99 : decode cL_tapes 99 = .ok (.iload_n 1, 1) := by decide +kernel
theorem dL_tapes_100 : decode cL_tapes 100 = .ok (.ifCond .ne 190, 3) := by decide +kernel
theorem dL_tapes_103 : decode cL_tapes 103 = .ok (.iload_n 2, 1) := by decide +kernel
theorem dL_tapes_104 : decode cL_tapes 104 = .ok (.bipush 30, 2) := by decide +kernel
theorem dL_tapes_106 : decode cL_tapes 106 = .ok (.invokestatic 106, 3) := by decide +kernel
theorem dL_tapes_109 : decode cL_tapes 109 = .ok (.ifCond .ne 8, 3) := by decide +kernel
theorem dL_tapes_112 : decode cL_tapes 112 = .ok (.bipush 9, 2) := by decide +kernel
theorem dL_tapes_114 : decode cL_tapes 114 = .ok (.goto 10, 3) := by decide +kernel
theorem dL_tapes_117 : decode cL_tapes 117 = .ok (.iconst 1, 1) := by decide +kernel
theorem dL_tapes_118 : decode cL_tapes 118 = .ok (.iload_n 2, 1) := by decide +kernel
theorem dL_tapes_119 : decode cL_tapes 119 = .ok (.iconst 4, 1) := by decide +kernel
theorem dL_tapes_120 : decode cL_tapes 120 = .ok (.invokestatic 106, 3) := by decide +kernel
theorem dL_tapes_123 : decode cL_tapes 123 = .ok (.iadd, 1) := by decide +kernel
theorem dL_tapes_124 : decode cL_tapes 124 = .ok (.istore 10, 2) := by decide +kernel
theorem dL_tapes_126 : decode cL_tapes 126 = .ok (.iload_n 2, 1) := by decide +kernel
theorem dL_tapes_127 : decode cL_tapes 127 = .ok (.iconst 4, 1) := by decide +kernel
theorem dL_tapes_128 : decode cL_tapes 128 = .ok (.ishr, 1) := by decide +kernel
theorem dL_tapes_129 : decode cL_tapes 129 = .ok (.bipush 30, 2) := by decide +kernel
theorem dL_tapes_131 : decode cL_tapes 131 = .ok (.invokestatic 106, 3) := by decide +kernel
theorem dL_tapes_134 : decode cL_tapes 134 = .ok (.ifCond .ne 7, 3) := by decide +kernel
theorem dL_tapes_137 : decode cL_tapes 137 = .ok (.iconst 3, 1) := by decide +kernel
theorem dL_tapes_138 : decode cL_tapes 138 = .ok (.goto 13, 3) := by decide +kernel
theorem dL_tapes_141 : decode cL_tapes 141 = .ok (.iconst 4, 1) := by decide +kernel
theorem dL_tapes_142 : decode cL_tapes 142 = .ok (.iload_n 2, 1) := by decide +kernel
theorem dL_tapes_143 : decode cL_tapes 143 = .ok (.iconst 4, 1) := by decide +kernel
theorem dL_tapes_144 : decode cL_tapes 144 = .ok (.ishr, 1) := by decide +kernel
theorem dL_tapes_145 : decode cL_tapes 145 = .ok (.bipush 9, 2) := by decide +kernel
theorem dL_tapes_147 : decode cL_tapes 147 = .ok (.invokestatic 106, 3) := by decide +kernel
theorem dL_tapes_150 : decode cL_tapes 150 = .ok (.iadd, 1) := by decide +kernel
theorem dL_tapes_151 : decode cL_tapes 151 = .ok (.istore 11, 2) := by decide +kernel
theorem dL_tapes_153 : decode cL_tapes 153 = .ok (.iload 10, 2) := by decide +kernel
theorem dL_tapes_155 : decode cL_tapes 155 = .ok (.bipush 9, 2) := by decide +kernel
theorem dL_tapes_157 : decode cL_tapes 157 = .ok (.if_icmp .ge 13, 3) := by decide +kernel
theorem dL_tapes_160 : decode cL_tapes 160 = .ok (.iload 11, 2) := by decide +kernel
theorem dL_tapes_162 : decode cL_tapes 162 = .ok (.iconst 3, 1) := by decide +kernel
theorem dL_tapes_163 : decode cL_tapes 163 = .ok (.if_icmp .le 7, 3) := by decide +kernel
theorem dL_tapes_166 : decode cL_tapes 166 = .ok (.iconst 1, 1) := by decide +kernel
theorem dL_tapes_167 : decode cL_tapes 167 = .ok (.goto 4, 3) := by decide +kernel
theorem dL_tapes_170 : decode cL_tapes 170 = .ok (.iconst 0, 1) := by decide +kernel
theorem dL_tapes_171 : decode cL_tapes 171 = .ok (.istore 12, 2) := by decide +kernel
theorem dL_tapes_173 : decode cL_tapes 173 = .ok (.iload 12, 2) := by decide +kernel
theorem dL_tapes_175 : decode cL_tapes 175 = .ok (.ifCond .eq 12, 3) := by decide +kernel
theorem dL_tapes_178 : decode cL_tapes 178 = .ok (.aload_n 3, 1) := by decide +kernel
theorem dL_tapes_179 : decode cL_tapes 179 = .ok (.iconst 0, 1) := by decide +kernel
theorem dL_tapes_180 : decode cL_tapes 180 = .ok (.iaload, 1) := by decide +kernel
theorem dL_tapes_181 : decode cL_tapes 181 = .ok (.iconst 4, 1) := by decide +kernel
theorem dL_tapes_182 : decode cL_tapes 182 = .ok (.if_icmp .ne 5, 3) := by decide +kernel
theorem dL_tapes_185 : decode cL_tapes 185 = .ok (.iconst 1, 1) := by decide +kernel
theorem dL_tapes_186 : decode cL_tapes 186 = .ok (.ireturn, 1) := by decide +kernel
theorem dL_tapes_187 : decode cL_tapes 187 = .ok (.iload 12, 2) := by decide +kernel
theorem dL_tapes_189 : decode cL_tapes 189 = .ok (.ifCond .eq 69, 3) := by decide +kernel
theorem dL_tapes_192 : decode cL_tapes 192 = .ok (.iconst 0, 1) := by decide +kernel
theorem dL_tapes_193 : decode cL_tapes 193 = .ok (.istore 13, 2) := by decide +kernel
theorem dL_tapes_195 : decode cL_tapes 195 = .ok (.aload_n 3, 1) := by decide +kernel
theorem dL_tapes_196 : decode cL_tapes 196 = .ok (.aload 4, 2) := by decide +kernel
theorem dL_tapes_198 : decode cL_tapes 198 = .ok (.iload 13, 2) := by decide +kernel
theorem dL_tapes_200 : decode cL_tapes 200 = .ok (.invokestatic 109, 3) := by decide +kernel
theorem dL_tapes_203 : decode cL_tapes 203 = .ok (.ifCond .ne 9, 3) := by decide +kernel
theorem dL_tapes_206 : decode cL_tapes 206 = .ok (.iinc 13 1, 3) := by decide +kernel
theorem dL_tapes_209 : decode cL_tapes 209 = .ok (.goto (-14), 3) := by decide +kernel
theorem dL_tapes_212 : decode cL_tapes 212 = .ok (.aload 4, 2) := by decide +kernel
theorem dL_tapes_214 : decode cL_tapes 214 = .ok (.aload_n 3, 1) := by decide +kernel
theorem dL_tapes_215 : decode cL_tapes 215 = .ok (.iconst 0, 1) := by decide +kernel
theorem dL_tapes_216 : decode cL_tapes 216 = .ok (.iaload, 1) := by decide +kernel
theorem dL_tapes_217 : decode cL_tapes 217 = .ok (.iload 10, 2) := by decide +kernel
theorem dL_tapes_219 : decode cL_tapes 219 = .ok (.iastore, 1) := by decide +kernel
theorem dL_tapes_220 : decode cL_tapes 220 = .ok (.aload 4, 2) := by decide +kernel
theorem dL_tapes_222 : decode cL_tapes 222 = .ok (.iconst 4, 1) := by decide +kernel
theorem dL_tapes_223 : decode cL_tapes 223 = .ok (.aload_n 3, 1) := by decide +kernel
theorem dL_tapes_224 : decode cL_tapes 224 = .ok (.iconst 0, 1) := by decide +kernel
theorem dL_tapes_225 : decode cL_tapes 225 = .ok (.iaload, 1) := by decide +kernel
theorem dL_tapes_226 : decode cL_tapes 226 = .ok (.iadd, 1) := by decide +kernel
theorem dL_tapes_227 : decode cL_tapes 227 = .ok (.iload 11, 2) := by decide +kernel
theorem dL_tapes_229 : decode cL_tapes 229 = .ok (.iastore, 1) := by decide +kernel
theorem dL_tapes_230 : decode cL_tapes 230 = .ok (.aload 4, 2) := by decide +kernel
theorem dL_tapes_232 : decode cL_tapes 232 = .ok (.bipush 8, 2) := by decide +kernel
theorem dL_tapes_234 : decode cL_tapes 234 = .ok (.aload_n 3, 1) := by decide +kernel
theorem dL_tapes_235 : decode cL_tapes 235 = .ok (.iconst 0, 1) := by decide +kernel
theorem dL_tapes_236 : decode cL_tapes 236 = .ok (.iaload, 1) := by decide +kernel
theorem dL_tapes_237 : decode cL_tapes 237 = .ok (.iadd, 1) := by decide +kernel
theorem dL_tapes_238 : decode cL_tapes 238 = .ok (.iload 13, 2) := by decide +kernel
theorem dL_tapes_240 : decode cL_tapes 240 = .ok (.iastore, 1) := by decide +kernel
theorem dL_tapes_241 : decode cL_tapes 241 = .ok (.aload 4, 2) := by decide +kernel
theorem dL_tapes_243 : decode cL_tapes 243 = .ok (.bipush 12, 2) := by decide +kernel
theorem dL_tapes_245 : decode cL_tapes 245 = .ok (.aload_n 3, 1) := by decide +kernel
theorem dL_tapes_246 : decode cL_tapes 246 = .ok (.iconst 0, 1) := by decide +kernel
theorem dL_tapes_247 : decode cL_tapes 247 = .ok (.iaload, 1) := by decide +kernel
theorem dL_tapes_248 : decode cL_tapes 248 = .ok (.iadd, 1) := by decide +kernel
theorem dL_tapes_249 : decode cL_tapes 249 = .ok (.iconst (-1), 1) := by decide +kernel
theorem dL_tapes_250 : decode cL_tapes 250 = .ok (.iastore, 1) := by decide +kernel
theorem dL_tapes_251 : decode cL_tapes 251 = .ok (.aload_n 3, 1) := by decide +kernel
theorem dL_tapes_252 : decode cL_tapes 252 = .ok (.iconst 0, 1) := by decide +kernel
theorem dL_tapes_253 : decode cL_tapes 253 = .ok (.dup2, 1) := by decide +kernel
theorem dL_tapes_254 : decode cL_tapes 254 = .ok (.iaload, 1) := by decide +kernel
theorem dL_tapes_255 : decode cL_tapes 255 = .ok (.iconst 1, 1) := by decide +kernel
theorem dL_tapes_256 : decode cL_tapes 256 = .ok (.iadd, 1) := by decide +kernel
theorem dL_tapes_257 : decode cL_tapes 257 = .ok (.iastore, 1) := by decide +kernel
theorem dL_tapes_258 : decode cL_tapes 258 = .ok (.aload_n 0, 1) := by decide +kernel
theorem dL_tapes_259 : decode cL_tapes 259 = .ok (.iload 10, 2) := by decide +kernel
theorem dL_tapes_261 : decode cL_tapes 261 = .ok (.iload 11, 2) := by decide +kernel
theorem dL_tapes_263 : decode cL_tapes 263 = .ok (.invokestatic 113, 3) := by decide +kernel
theorem dL_tapes_266 : decode cL_tapes 266 = .ok (.iload 12, 2) := by decide +kernel
theorem dL_tapes_268 : decode cL_tapes 268 = .ok (.ifCond .eq 11, 3) := by decide +kernel
theorem dL_tapes_271 : decode cL_tapes 271 = .ok (.aload_n 3, 1) := by decide +kernel
theorem dL_tapes_272 : decode cL_tapes 272 = .ok (.iconst 0, 1) := by decide +kernel
theorem dL_tapes_273 : decode cL_tapes 273 = .ok (.iaload, 1) := by decide +kernel
theorem dL_tapes_274 : decode cL_tapes 274 = .ok (.iconst 1, 1) := by decide +kernel
theorem dL_tapes_275 : decode cL_tapes 275 = .ok (.isub, 1) := by decide +kernel
theorem dL_tapes_276 : decode cL_tapes 276 = .ok (.goto 5, 3) := by decide +kernel
theorem dL_tapes_279 : decode cL_tapes 279 = .ok (.bipush (-101), 2) := by decide +kernel
theorem dL_tapes_281 : decode cL_tapes 281 = .ok (.if_icmp .ne 7, 3) := by decide +kernel
theorem dL_tapes_284 : decode cL_tapes 284 = .ok (.iconst 1, 1) := by decide +kernel
theorem dL_tapes_285 : decode cL_tapes 285 = .ok (.goto 4, 3) := by decide +kernel
theorem dL_tapes_288 : decode cL_tapes 288 = .ok (.iconst 0, 1) := by decide +kernel
theorem dL_tapes_289 : decode cL_tapes 289 = .ok (.ireturn, 1) := by decide +kernel
theorem dL_tapes_290 : decode cL_tapes 290 = .ok (.iload_n 1, 1) := by decide +kernel
theorem dL_tapes_291 : decode cL_tapes 291 = .ok (.iconst 1, 1) := by decide +kernel
theorem dL_tapes_292 : decode cL_tapes 292 = .ok (.if_icmp .ne 100, 3) := by decide +kernel
theorem dL_tapes_295 : decode cL_tapes 295 = .ok (.iload_n 2, 1) := by decide +kernel
theorem dL_tapes_296 : decode cL_tapes 296 = .ok (.bipush 20, 2) := by decide +kernel
theorem dL_tapes_298 : decode cL_tapes 298 = .ok (.invokestatic 106, 3) := by decide +kernel
theorem dL_tapes_301 : decode cL_tapes 301 = .ok (.ifCond .ne 7, 3) := by decide +kernel
theorem dL_tapes_304 : decode cL_tapes 304 = .ok (.iconst 2, 1) := by decide +kernel
theorem dL_tapes_305 : decode cL_tapes 305 = .ok (.goto 8, 3) := by decide +kernel
theorem dL_tapes_308 : decode cL_tapes 308 = .ok (.iload_n 2, 1) := by decide +kernel
theorem dL_tapes_309 : decode cL_tapes 309 = .ok (.iconst 2, 1) := by decide +kernel
theorem dL_tapes_310 : decode cL_tapes 310 = .ok (.invokestatic 106, 3) := by decide +kernel
theorem dL_tapes_313 : decode cL_tapes 313 = .ok (.istore 10, 2) := by decide +kernel
theorem dL_tapes_315 : decode cL_tapes 315 = .ok (.iload 10, 2) := by decide +kernel
theorem dL_tapes_317 : decode cL_tapes 317 = .ok (.iconst 2, 1) := by decide +kernel
theorem dL_tapes_318 : decode cL_tapes 318 = .ok (.if_icmp .ge 12, 3) := by decide +kernel
theorem dL_tapes_321 : decode cL_tapes 321 = .ok (.aload_n 3, 1) := by decide +kernel
theorem dL_tapes_322 : decode cL_tapes 322 = .ok (.iconst 1, 1) := by decide +kernel
theorem dL_tapes_323 : decode cL_tapes 323 = .ok (.iaload, 1) := by decide +kernel
theorem dL_tapes_324 : decode cL_tapes 324 = .ok (.iconst 2, 1) := by decide +kernel
theorem dL_tapes_325 : decode cL_tapes 325 = .ok (.if_icmp .ne 5, 3) := by decide +kernel
theorem dL_tapes_328 : decode cL_tapes 328 = .ok (.iconst 1, 1) := by decide +kernel
theorem dL_tapes_329 : decode cL_tapes 329 = .ok (.ireturn, 1) := by decide +kernel
theorem dL_tapes_330 : decode cL_tapes 330 = .ok (.iload 10, 2) := by decide +kernel
theorem dL_tapes_332 : decode cL_tapes 332 = .ok (.iconst 2, 1) := by decide +kernel
theorem dL_tapes_333 : decode cL_tapes 333 = .ok (.if_icmp .ge 28, 3) := by decide +kernel
theorem dL_tapes_336 : decode cL_tapes 336 = .ok (.aload 5, 2) := by decide +kernel
theorem dL_tapes_338 : decode cL_tapes 338 = .ok (.aload_n 3, 1) := by decide +kernel
theorem dL_tapes_339 : decode cL_tapes 339 = .ok (.iconst 1, 1) := by decide +kernel
theorem dL_tapes_340 : decode cL_tapes 340 = .ok (.iaload, 1) := by decide +kernel
theorem dL_tapes_341 : decode cL_tapes 341 = .ok (.iload 10, 2) := by decide +kernel
theorem dL_tapes_343 : decode cL_tapes 343 = .ok (.iastore, 1) := by decide +kernel
theorem dL_tapes_344 : decode cL_tapes 344 = .ok (.aload 5, 2) := by decide +kernel
theorem dL_tapes_346 : decode cL_tapes 346 = .ok (.bipush 6, 2) := by decide +kernel
theorem dL_tapes_348 : decode cL_tapes 348 = .ok (.aload_n 3, 1) := by decide +kernel
theorem dL_tapes_349 : decode cL_tapes 349 = .ok (.iconst 1, 1) := by decide +kernel
theorem dL_tapes_350 : decode cL_tapes 350 = .ok (.iaload, 1) := by decide +kernel
theorem dL_tapes_351 : decode cL_tapes 351 = .ok (.iadd, 1) := by decide +kernel
theorem dL_tapes_352 : decode cL_tapes 352 = .ok (.iconst (-1), 1) := by decide +kernel
theorem dL_tapes_353 : decode cL_tapes 353 = .ok (.iastore, 1) := by decide +kernel
theorem dL_tapes_354 : decode cL_tapes 354 = .ok (.aload_n 3, 1) := by decide +kernel
theorem dL_tapes_355 : decode cL_tapes 355 = .ok (.iconst 1, 1) := by decide +kernel
theorem dL_tapes_356 : decode cL_tapes 356 = .ok (.dup2, 1) := by decide +kernel
theorem dL_tapes_357 : decode cL_tapes 357 = .ok (.iaload, 1) := by decide +kernel
theorem dL_tapes_358 : decode cL_tapes 358 = .ok (.iconst 1, 1) := by decide +kernel
theorem dL_tapes_359 : decode cL_tapes 359 = .ok (.iadd, 1) := by decide +kernel
theorem dL_tapes_360 : decode cL_tapes 360 = .ok (.iastore, 1) := by decide +kernel
theorem dL_tapes_361 : decode cL_tapes 361 = .ok (.aload_n 0, 1) := by decide +kernel
theorem dL_tapes_362 : decode cL_tapes 362 = .ok (.iload 10, 2) := by decide +kernel
theorem dL_tapes_364 : decode cL_tapes 364 = .ok (.invokestatic 117, 3) := by decide +kernel
theorem dL_tapes_367 : decode cL_tapes 367 = .ok (.iload 10, 2) := by decide +kernel
theorem dL_tapes_369 : decode cL_tapes 369 = .ok (.iconst 2, 1) := by decide +kernel
theorem dL_tapes_370 : decode cL_tapes 370 = .ok (.if_icmp .ge 11, 3) := by decide +kernel
theorem dL_tapes_373 : decode cL_tapes 373 = .ok (.aload_n 3, 1) := by decide +kernel
theorem dL_tapes_374 : decode cL_tapes 374 = .ok (.iconst 1, 1) := by decide +kernel
theorem dL_tapes_375 : decode cL_tapes 375 = .ok (.iaload, 1) := by decide +kernel
theorem dL_tapes_376 : decode cL_tapes 376 = .ok (.iconst 1, 1) := by decide +kernel
theorem dL_tapes_377 : decode cL_tapes 377 = .ok (.isub, 1) := by decide +kernel
theorem dL_tapes_378 : decode cL_tapes 378 = .ok (.goto 5, 3) := by decide +kernel
theorem dL_tapes_381 : decode cL_tapes 381 = .ok (.bipush (-101), 2) := by decide +kernel
theorem dL_tapes_383 : decode cL_tapes 383 = .ok (.if_icmp .ne 7, 3) := by decide +kernel
theorem dL_tapes_386 : decode cL_tapes 386 = .ok (.iconst 1, 1) := by decide +kernel
theorem dL_tapes_387 : decode cL_tapes 387 = .ok (.goto 4, 3) := by decide +kernel
theorem dL_tapes_390 : decode cL_tapes 390 = .ok (.iconst 0, 1) := by decide +kernel
theorem dL_tapes_391 : decode cL_tapes 391 = .ok (.ireturn, 1) := by decide +kernel
theorem dL_tapes_392 : decode cL_tapes 392 = .ok (.iload_n 1, 1) := by decide +kernel
theorem dL_tapes_393 : decode cL_tapes 393 = .ok (.iconst 2, 1) := by decide +kernel
theorem dL_tapes_394 : decode cL_tapes 394 = .ok (.if_icmp .ne 156, 3) := by decide +kernel
theorem dL_tapes_397 : decode cL_tapes 397 = .ok (.iload_n 2, 1) := by decide +kernel
theorem dL_tapes_398 : decode cL_tapes 398 = .ok (.iconst 5, 1) := by decide +kernel
theorem dL_tapes_399 : decode cL_tapes 399 = .ok (.ishr, 1) := by decide +kernel
theorem dL_tapes_400 : decode cL_tapes 400 = .ok (.bipush 30, 2) := by decide +kernel
theorem dL_tapes_402 : decode cL_tapes 402 = .ok (.invokestatic 106, 3) := by decide +kernel
theorem dL_tapes_405 : decode cL_tapes 405 = .ok (.ifCond .ne 8, 3) := by decide +kernel
theorem dL_tapes_408 : decode cL_tapes 408 = .ok (.bipush 12, 2) := by decide +kernel
theorem dL_tapes_410 : decode cL_tapes 410 = .ok (.goto 11, 3) := by decide +kernel
theorem dL_tapes_413 : decode cL_tapes 413 = .ok (.iload_n 2, 1) := by decide +kernel
theorem dL_tapes_414 : decode cL_tapes 414 = .ok (.iconst 5, 1) := by decide +kernel
theorem dL_tapes_415 : decode cL_tapes 415 = .ok (.ishr, 1) := by decide +kernel
theorem dL_tapes_416 : decode cL_tapes 416 = .ok (.bipush 12, 2) := by decide +kernel
theorem dL_tapes_418 : decode cL_tapes 418 = .ok (.invokestatic 106, 3) := by decide +kernel
theorem dL_tapes_421 : decode cL_tapes 421 = .ok (.istore 10, 2) := by decide +kernel
theorem dL_tapes_423 : decode cL_tapes 423 = .ok (.iload 7, 2) := by decide +kernel
theorem dL_tapes_425 : decode cL_tapes 425 = .ok (.ifCond .eq 14, 3) := by decide +kernel
theorem dL_tapes_428 : decode cL_tapes 428 = .ok (.iload 10, 2) := by decide +kernel
theorem dL_tapes_430 : decode cL_tapes 430 = .ok (.bipush 12, 2) := by decide +kernel
theorem dL_tapes_432 : decode cL_tapes 432 = .ok (.if_icmp .ge 7, 3) := by decide +kernel
theorem dL_tapes_435 : decode cL_tapes 435 = .ok (.iconst 1, 1) := by decide +kernel
theorem dL_tapes_436 : decode cL_tapes 436 = .ok (.goto 4, 3) := by decide +kernel
theorem dL_tapes_439 : decode cL_tapes 439 = .ok (.iconst 0, 1) := by decide +kernel
theorem dL_tapes_440 : decode cL_tapes 440 = .ok (.istore 11, 2) := by decide +kernel
theorem dL_tapes_442 : decode cL_tapes 442 = .ok (.iload 11, 2) := by decide +kernel
theorem dL_tapes_444 : decode cL_tapes 444 = .ok (.ifCond .eq 29, 3) := by decide +kernel
theorem dL_tapes_447 : decode cL_tapes 447 = .ok (.aload 4, 2) := by decide +kernel
theorem dL_tapes_449 : decode cL_tapes 449 = .ok (.bipush 12, 2) := by decide +kernel
theorem dL_tapes_451 : decode cL_tapes 451 = .ok (.iload 6, 2) := by decide +kernel
theorem dL_tapes_453 : decode cL_tapes 453 = .ok (.iadd, 1) := by decide +kernel
theorem dL_tapes_454 : decode cL_tapes 454 = .ok (.iaload, 1) := by decide +kernel
theorem dL_tapes_455 : decode cL_tapes 455 = .ok (.ifCond .ge 18, 3) := by decide +kernel
theorem dL_tapes_458 : decode cL_tapes 458 = .ok (.aload_n 3, 1) := by decide +kernel
theorem dL_tapes_459 : decode cL_tapes 459 = .ok (.aload 4, 2) := by decide +kernel
theorem dL_tapes_461 : decode cL_tapes 461 = .ok (.iload 10, 2) := by decide +kernel
theorem dL_tapes_463 : decode cL_tapes 463 = .ok (.invokestatic 109, 3) := by decide +kernel
theorem dL_tapes_466 : decode cL_tapes 466 = .ok (.ifCond .eq 7, 3) := by decide +kernel
theorem dL_tapes_469 : decode cL_tapes 469 = .ok (.iconst 1, 1) := by decide +kernel
theorem dL_tapes_470 : decode cL_tapes 470 = .ok (.goto 4, 3) := by decide +kernel
theorem dL_tapes_473 : decode cL_tapes 473 = .ok (.iconst 0, 1) := by decide +kernel
theorem dL_tapes_474 : decode cL_tapes 474 = .ok (.istore 12, 2) := by decide +kernel
theorem dL_tapes_476 : decode cL_tapes 476 = .ok (.iload 7, 2) := by decide +kernel
theorem dL_tapes_478 : decode cL_tapes 478 = .ok (.ifCond .eq 14, 3) := by decide +kernel
theorem dL_tapes_481 : decode cL_tapes 481 = .ok (.aload 4, 2) := by decide +kernel
theorem dL_tapes_483 : decode cL_tapes 483 = .ok (.bipush 8, 2) := by decide +kernel
theorem dL_tapes_485 : decode cL_tapes 485 = .ok (.iload 6, 2) := by decide +kernel
theorem dL_tapes_487 : decode cL_tapes 487 = .ok (.iadd, 1) := by decide +kernel
theorem dL_tapes_488 : decode cL_tapes 488 = .ok (.iaload, 1) := by decide +kernel
theorem dL_tapes_489 : decode cL_tapes 489 = .ok (.goto 4, 3) := by decide +kernel
theorem dL_tapes_492 : decode cL_tapes 492 = .ok (.iconst 0, 1) := by decide +kernel
theorem dL_tapes_493 : decode cL_tapes 493 = .ok (.istore 13, 2) := by decide +kernel
theorem dL_tapes_495 : decode cL_tapes 495 = .ok (.iload 12, 2) := by decide +kernel
theorem dL_tapes_497 : decode cL_tapes 497 = .ok (.ifCond .eq 13, 3) := by decide +kernel
theorem dL_tapes_500 : decode cL_tapes 500 = .ok (.aload 4, 2) := by decide +kernel
theorem dL_tapes_502 : decode cL_tapes 502 = .ok (.bipush 8, 2) := by decide +kernel
theorem dL_tapes_504 : decode cL_tapes 504 = .ok (.iload 6, 2) := by decide +kernel
theorem dL_tapes_506 : decode cL_tapes 506 = .ok (.iadd, 1) := by decide +kernel
theorem dL_tapes_507 : decode cL_tapes 507 = .ok (.iload 10, 2) := by decide +kernel
theorem dL_tapes_509 : decode cL_tapes 509 = .ok (.iastore, 1) := by decide +kernel
theorem dL_tapes_510 : decode cL_tapes 510 = .ok (.aload_n 0, 1) := by decide +kernel
theorem dL_tapes_511 : decode cL_tapes 511 = .ok (.iconst 0, 1) := by decide +kernel
theorem dL_tapes_512 : decode cL_tapes 512 = .ok (.iload 6, 2) := by decide +kernel
theorem dL_tapes_514 : decode cL_tapes 514 = .ok (.iload 10, 2) := by decide +kernel
theorem dL_tapes_516 : decode cL_tapes 516 = .ok (.invokestatic 121, 3) := by decide +kernel
theorem dL_tapes_519 : decode cL_tapes 519 = .ok (.iload 11, 2) := by decide +kernel
theorem dL_tapes_521 : decode cL_tapes 521 = .ok (.ifCond .ne 8, 3) := by decide +kernel
theorem dL_tapes_524 : decode cL_tapes 524 = .ok (.bipush (-101), 2) := by decide +kernel
theorem dL_tapes_526 : decode cL_tapes 526 = .ok (.goto 15, 3) := by decide +kernel
theorem dL_tapes_529 : decode cL_tapes 529 = .ok (.iload 12, 2) := by decide +kernel
theorem dL_tapes_531 : decode cL_tapes 531 = .ok (.ifCond .eq 8, 3) := by decide +kernel
theorem dL_tapes_534 : decode cL_tapes 534 = .ok (.iload 13, 2) := by decide +kernel
theorem dL_tapes_536 : decode cL_tapes 536 = .ok (.goto 5, 3) := by decide +kernel
theorem dL_tapes_539 : decode cL_tapes 539 = .ok (.bipush (-102), 2) := by decide +kernel
theorem dL_tapes_541 : decode cL_tapes 541 = .ok (.if_icmp .ne 7, 3) := by decide +kernel
theorem dL_tapes_544 : decode cL_tapes 544 = .ok (.iconst 1, 1) := by decide +kernel
theorem dL_tapes_545 : decode cL_tapes 545 = .ok (.goto 4, 3) := by decide +kernel
theorem dL_tapes_548 : decode cL_tapes 548 = .ok (.iconst 0, 1) := by decide +kernel
theorem dL_tapes_549 : decode cL_tapes 549 = .ok (.ireturn, 1) := by decide +kernel
theorem dL_tapes_550 : decode cL_tapes 550 = .ok (.iload_n 1, 1) := by decide +kernel
theorem dL_tapes_551 : decode cL_tapes 551 = .ok (.iconst 3, 1) := by decide +kernel
theorem dL_tapes_552 : decode cL_tapes 552 = .ok (.if_icmp .ne 158, 3) := by decide +kernel
theorem dL_tapes_555 : decode cL_tapes 555 = .ok (.iload 9, 2) := by decide +kernel
theorem dL_tapes_557 : decode cL_tapes 557 = .ok (.ifCond .eq 45, 3) := by decide +kernel
theorem dL_tapes_560 : decode cL_tapes 560 = .ok (.iload 7, 2) := by decide +kernel
theorem dL_tapes_562 : decode cL_tapes 562 = .ok (.ifCond .eq 40, 3) := by decide +kernel
theorem dL_tapes_565 : decode cL_tapes 565 = .ok (.aload 5, 2) := by decide +kernel
theorem dL_tapes_567 : decode cL_tapes 567 = .ok (.bipush 6, 2) := by decide +kernel
theorem dL_tapes_569 : decode cL_tapes 569 = .ok (.iload 8, 2) := by decide +kernel
theorem dL_tapes_571 : decode cL_tapes 571 = .ok (.iadd, 1) := by decide +kernel
theorem dL_tapes_572 : decode cL_tapes 572 = .ok (.iaload, 1) := by decide +kernel
theorem dL_tapes_573 : decode cL_tapes 573 = .ok (.ifCond .ge 29, 3) := by decide +kernel
theorem dL_tapes_576 : decode cL_tapes 576 = .ok (.aload 4, 2) := by decide +kernel
theorem dL_tapes_578 : decode cL_tapes 578 = .ok (.bipush 12, 2) := by decide +kernel
theorem dL_tapes_580 : decode cL_tapes 580 = .ok (.iload 6, 2) := by decide +kernel
theorem dL_tapes_582 : decode cL_tapes 582 = .ok (.iadd, 1) := by decide +kernel
theorem dL_tapes_583 : decode cL_tapes 583 = .ok (.iaload, 1) := by decide +kernel
theorem dL_tapes_584 : decode cL_tapes 584 = .ok (.ifCond .ge 18, 3) := by decide +kernel
theorem dL_tapes_587 : decode cL_tapes 587 = .ok (.aload 4, 2) := by decide +kernel
theorem dL_tapes_589 : decode cL_tapes 589 = .ok (.bipush 16, 2) := by decide +kernel
theorem dL_tapes_591 : decode cL_tapes 591 = .ok (.iload 6, 2) := by decide +kernel
theorem dL_tapes_593 : decode cL_tapes 593 = .ok (.iadd, 1) := by decide +kernel
theorem dL_tapes_594 : decode cL_tapes 594 = .ok (.iaload, 1) := by decide +kernel
theorem dL_tapes_595 : decode cL_tapes 595 = .ok (.ifCond .ne 7, 3) := by decide +kernel
theorem dL_tapes_598 : decode cL_tapes 598 = .ok (.iconst 1, 1) := by decide +kernel
theorem dL_tapes_599 : decode cL_tapes 599 = .ok (.goto 4, 3) := by decide +kernel
theorem dL_tapes_602 : decode cL_tapes 602 = .ok (.iconst 0, 1) := by decide +kernel
theorem dL_tapes_603 : decode cL_tapes 603 = .ok (.istore 10, 2) := by decide +kernel
theorem dL_tapes_605 : decode cL_tapes 605 = .ok (.iload 10, 2) := by decide +kernel
theorem dL_tapes_607 : decode cL_tapes 607 = .ok (.ifCond .eq 51, 3) := by decide +kernel
theorem dL_tapes_610 : decode cL_tapes 610 = .ok (.aload 5, 2) := by decide +kernel
theorem dL_tapes_612 : decode cL_tapes 612 = .ok (.bipush 6, 2) := by decide +kernel
theorem dL_tapes_614 : decode cL_tapes 614 = .ok (.iload 8, 2) := by decide +kernel
theorem dL_tapes_616 : decode cL_tapes 616 = .ok (.iadd, 1) := by decide +kernel
theorem dL_tapes_617 : decode cL_tapes 617 = .ok (.iload 6, 2) := by decide +kernel
theorem dL_tapes_619 : decode cL_tapes 619 = .ok (.iastore, 1) := by decide +kernel
theorem dL_tapes_620 : decode cL_tapes 620 = .ok (.aload 5, 2) := by decide +kernel
theorem dL_tapes_622 : decode cL_tapes 622 = .ok (.bipush 8, 2) := by decide +kernel
theorem dL_tapes_624 : decode cL_tapes 624 = .ok (.iload 8, 2) := by decide +kernel
theorem dL_tapes_626 : decode cL_tapes 626 = .ok (.iadd, 1) := by decide +kernel
theorem dL_tapes_627 : decode cL_tapes 627 = .ok (.iconst 0, 1) := by decide +kernel
theorem dL_tapes_628 : decode cL_tapes 628 = .ok (.iastore, 1) := by decide +kernel
