theorem dL_inserted_32 : decode cL_inserted 32 = .ok (.iload 6, 2) := by decide +kernel
theorem dL_inserted_34 : decode cL_inserted 34 = .ok (.iadd, 1) := by decide +kernel
theorem dL_inserted_35 : decode cL_inserted 35 = .ok (.iaload, 1) := by decide +kernel
theorem dL_inserted_36 : decode cL_inserted 36 = .ok (.aload 7, 2) := by decide +kernel
theorem dL_inserted_38 : decode cL_inserted 38 = .ok (.invokestatic 22, 3) := by decide +kernel
theorem dL_inserted_41 : decode cL_inserted 41 = .ok (.istore 11, 2) := by decide +kernel
theorem dL_inserted_43 : decode cL_inserted 43 = .ok (.iconst 0, 1) := by decide +kernel
theorem dL_inserted_44 : decode cL_inserted 44 = .ok (.istore 12, 2) := by decide +kernel
theorem dL_inserted_46 : decode cL_inserted 46 = .ok (.iconst 0, 1) := by decide +kernel
theorem dL_inserted_47 : decode cL_inserted 47 = .ok (.istore 13, 2) := by decide +kernel
theorem dL_inserted_49 : decode cL_inserted 49 = .ok (.iload 13, 2) := by decide +kernel
theorem dL_inserted_51 : decode cL_inserted 51 = .ok (.iload 11, 2) := by decide +kernel
theorem dL_inserted_53 : decode cL_inserted 53 = .ok (.if_icmp .ge 173, 3) := by decide +kernel
theorem dL_inserted_56 : decode cL_inserted 56 = .ok (.iconst (-1), 1) := by decide +kernel
theorem dL_inserted_57 : decode cL_inserted 57 = .ok (.istore 14, 2) := by decide +kernel
theorem dL_inserted_59 : decode cL_inserted 59 = .ok (.iconst 0, 1) := by decide +kernel
theorem dL_inserted_60 : decode cL_inserted 60 = .ok (.istore 15, 2) := by decide +kernel
theorem dL_inserted_62 : decode cL_inserted 62 = .ok (.iload 15, 2) := by decide +kernel
theorem dL_inserted_64 : decode cL_inserted 64 = .ok (.iload 13, 2) := by decide +kernel
theorem dL_inserted_66 : decode cL_inserted 66 = .ok (.if_icmp .gt 124, 3) := by decide +kernel
theorem dL_inserted_69 : decode cL_inserted 69 = .ok (.iconst 0, 1) := by decide +kernel
theorem dL_inserted_70 : decode cL_inserted 70 = .ok (.istore 16, 2) := by decide +kernel
theorem dL_inserted_72 : decode cL_inserted 72 = .ok (.iload 16, 2) := by decide +kernel
theorem dL_inserted_74 : decode cL_inserted 74 = .ok (.iload 13, 2) := by decide +kernel
theorem dL_inserted_76 : decode cL_inserted 76 = .ok (.if_icmp .gt 48, 3) := by decide +kernel
theorem dL_inserted_79 : decode cL_inserted 79 = .ok (.aload 9, 2) := by decide +kernel
theorem dL_inserted_81 : decode cL_inserted 81 = .ok (.iload 16, 2) := by decide +kernel
theorem dL_inserted_83 : decode cL_inserted 83 = .ok (.iload 16, 2) := by decide +kernel
theorem dL_inserted_85 : decode cL_inserted 85 = .ok (.iload 15, 2) := by decide +kernel
theorem dL_inserted_87 : decode cL_inserted 87 = .ok (.if_icmp .ne 11, 3) := by decide +kernel
theorem dL_inserted_90 : decode cL_inserted 90 = .ok (.aload 7, 2) := by decide +kernel
theorem dL_inserted_92 : decode cL_inserted 92 = .ok (.iload 13, 2) := by decide +kernel
theorem dL_inserted_94 : decode cL_inserted 94 = .ok (.iaload, 1) := by decide +kernel
theorem dL_inserted_95 : decode cL_inserted 95 = .ok (.goto 22, 3) := by decide +kernel
theorem dL_inserted_98 : decode cL_inserted 98 = .ok (.aload 8, 2) := by decide +kernel
theorem dL_inserted_100 : decode cL_inserted 100 = .ok (.iload 16, 2) := by decide +kernel
theorem dL_inserted_102 : decode cL_inserted 102 = .ok (.iload 15, 2) := by decide +kernel
theorem dL_inserted_104 : decode cL_inserted 104 = .ok (.if_icmp .ge 8, 3) := by decide +kernel
theorem dL_inserted_107 : decode cL_inserted 107 = .ok (.iload 16, 2) := by decide +kernel
theorem dL_inserted_109 : decode cL_inserted 109 = .ok (.goto 7, 3) := by decide +kernel
theorem dL_inserted_112 : decode cL_inserted 112 = .ok (.iload 16, 2) := by decide +kernel
theorem dL_inserted_114 : decode cL_inserted 114 = .ok (.iconst 1, 1) := by decide +kernel
theorem dL_inserted_115 : decode cL_inserted 115 = .ok (.isub, 1) := by decide +kernel
theorem dL_inserted_116 : decode cL_inserted 116 = .ok (.iaload, 1) := by decide +kernel
theorem dL_inserted_117 : decode cL_inserted 117 = .ok (.iastore, 1) := by decide +kernel
theorem dL_inserted_118 : decode cL_inserted 118 = .ok (.iinc 16 1, 3) := by decide +kernel
theorem dL_inserted_121 : decode cL_inserted 121 = .ok (.goto (-49), 3) := by decide +kernel
theorem dL_inserted_124 : decode cL_inserted 124 = .ok (.aload_n 1, 1) := by decide +kernel
theorem dL_inserted_125 : decode cL_inserted 125 = .ok (.aload_n 2, 1) := by decide +kernel
theorem dL_inserted_126 : decode cL_inserted 126 = .ok (.aload_n 3, 1) := by decide +kernel
theorem dL_inserted_127 : decode cL_inserted 127 = .ok (.aload 4, 2) := by decide +kernel
theorem dL_inserted_129 : decode cL_inserted 129 = .ok (.iload 6, 2) := by decide +kernel
theorem dL_inserted_131 : decode cL_inserted 131 = .ok (.aload 9, 2) := by decide +kernel
theorem dL_inserted_133 : decode cL_inserted 133 = .ok (.iload 13, 2) := by decide +kernel
theorem dL_inserted_135 : decode cL_inserted 135 = .ok (.iconst 1, 1) := by decide +kernel
theorem dL_inserted_136 : decode cL_inserted 136 = .ok (.iadd, 1) := by decide +kernel
theorem dL_inserted_137 : decode cL_inserted 137 = .ok (.invokestatic 26, 3) := by decide +kernel
theorem dL_inserted_140 : decode cL_inserted 140 = .ok (.istore 16, 2) := by decide +kernel
theorem dL_inserted_142 : decode cL_inserted 142 = .ok (.iload 14, 2) := by decide +kernel
theorem dL_inserted_144 : decode cL_inserted 144 = .ok (.ifCond .lt 10, 3) := by decide +kernel
theorem dL_inserted_147 : decode cL_inserted 147 = .ok (.iload 16, 2) := by decide +kernel
theorem dL_inserted_149 : decode cL_inserted 149 = .ok (.iload 14, 2) := by decide +kernel
theorem dL_inserted_151 : decode cL_inserted 151 = .ok (.if_icmp .ge 33, 3) := by decide +kernel
theorem dL_inserted_154 : decode cL_inserted 154 = .ok (.iload 16, 2) := by decide +kernel
theorem dL_inserted_156 : decode cL_inserted 156 = .ok (.istore 14, 2) := by decide +kernel
theorem dL_inserted_158 : decode cL_inserted 158 = .ok (.iconst 0, 1) := by decide +kernel
theorem dL_inserted_159 : decode cL_inserted 159 = .ok (.istore 17, 2) := by decide +kernel
theorem dL_inserted_161 : decode cL_inserted 161 = .ok (.iload 17, 2) := by decide +kernel
theorem dL_inserted_163 : decode cL_inserted 163 = .ok (.iload 13, 2) := by decide +kernel
theorem dL_inserted_165 : decode cL_inserted 165 = .ok (.if_icmp .gt 19, 3) := by decide +kernel
theorem dL_inserted_168 : decode cL_inserted 168 = .ok (.aload 10, 2) := by decide +kernel
theorem dL_inserted_170 : decode cL_inserted 170 = .ok (.iload 17, 2) := by decide +kernel
theorem dL_inserted_172 : decode cL_inserted 172 = .ok (.aload 9, 2) := by decide +kernel
theorem dL_inserted_174 : decode cL_inserted 174 = .ok (.iload 17, 2) := by decide +kernel
theorem dL_inserted_176 : decode cL_inserted 176 = .ok (.iaload, 1) := by decide +kernel
theorem dL_inserted_177 : decode cL_inserted 177 = .ok (.iastore, 1) := by decide +kernel
theorem dL_inserted_178 : decode cL_inserted 178 = .ok (.iinc 17 1, 3) := by decide +kernel
theorem dL_inserted_181 : decode cL_inserted 181 = .ok (.goto (-20), 3) := by decide +kernel
theorem dL_inserted_184 : decode cL_inserted 184 = .ok (.iinc 15 1, 3) := by decide +kernel
theorem dL_inserted_187 : decode cL_inserted 187 = .ok (.goto (-125), 3) := by decide +kernel
theorem dL_inserted_190 : decode cL_inserted 190 = .ok (.iconst 0, 1) := by decide +kernel
theorem dL_inserted_191 : decode cL_inserted 191 = .ok (.istore 15, 2) := by decide +kernel
theorem dL_inserted_193 : decode cL_inserted 193 = .ok (.iload 15, 2) := by decide +kernel
theorem dL_inserted_195 : decode cL_inserted 195 = .ok (.iload 13, 2) := by decide +kernel
theorem dL_inserted_197 : decode cL_inserted 197 = .ok (.if_icmp .gt 19, 3) := by decide +kernel
theorem dL_inserted_200 : decode cL_inserted 200 = .ok (.aload 8, 2) := by decide +kernel
theorem dL_inserted_202 : decode cL_inserted 202 = .ok (.iload 15, 2) := by decide +kernel
theorem dL_inserted_204 : decode cL_inserted 204 = .ok (.aload 10, 2) := by decide +kernel
theorem dL_inserted_206 : decode cL_inserted 206 = .ok (.iload 15, 2) := by decide +kernel
theorem dL_inserted_208 : decode cL_inserted 208 = .ok (.iaload, 1) := by decide +kernel
theorem dL_inserted_209 : decode cL_inserted 209 = .ok (.iastore, 1) := by decide +kernel
theorem dL_inserted_210 : decode cL_inserted 210 = .ok (.iinc 15 1, 3) := by decide +kernel
theorem dL_inserted_213 : decode cL_inserted 213 = .ok (.goto (-20), 3) := by decide +kernel
theorem dL_inserted_216 : decode cL_inserted 216 = .ok (.iload 14, 2) := by decide +kernel
theorem dL_inserted_218 : decode cL_inserted 218 = .ok (.istore 12, 2) := by decide +kernel
theorem dL_inserted_220 : decode cL_inserted 220 = .ok (.iinc 13 1, 3) := by decide +kernel
theorem dL_inserted_223 : decode cL_inserted 223 = .ok (.goto (-174), 3) := by decide +kernel
theorem dL_inserted_226 : decode cL_inserted 226 = .ok (.iload 12, 2) := by decide +kernel
theorem dL_inserted_228 : decode cL_inserted 228 = .ok (.ireturn, 1) := by decide +kernel
set_option maxRecDepth 20000 in
theorem ggL_taped_X4_tape : GoodIn wsL_taped wsX4_tape := goodIn_ca (goodIn_ca (goodIn_r _ [6, 7, 8, 9, 10, 11, 12, 13, 14, 15, 16, 17, 18, 5, 19, 20, 21, 22, 23, 24, 25, 26, 27, 28, 29, 30, 31, 32, 33, 34, 35, 36, 37, 38, 39, 40, 41, 42, 43, 44, 45, 46, 47, 48, 49, 50, 51] (by decide +kernel) (by decide +kernel)) (goodIn_sub (fun _ h => List.mem_cons_of_mem _ (List.mem_append_left _ (List.mem_append_right _ h))) (by decide +kernel))) (goodIn_sub (fun _ h => List.mem_cons_of_mem _ (List.mem_append_right _ h)) (by decide +kernel))
set_option maxRecDepth 20000 in
theorem gL_taped_X4_tape : GoodIn wsL_taped (wsV RL 30 RX4 yX4_tape wsX4_tape) := goodIn_app (goodIn_of _ (by decide +kernel)) ggL_taped_X4_tape
theorem dL_taped_0 : decode cL_taped 0 = .ok (.aload_n 0, 1) := by decide +kernel
theorem dL_taped_1 : decode cL_taped 1 = .ok (.iload_n 1, 1) := by decide +kernel
theorem dL_taped_2 : decode cL_taped 2 = .ok (.iload_n 2, 1) := by decide +kernel
theorem dL_taped_3 : decode cL_taped 3 = .ok (.invokevirtual 30, 3) := by decide +kernel
theorem dL_taped_6 : decode cL_taped 6 = .ok (.ireturn, 1) := by decide +kernel
theorem dL_taped_7 : decode cL_taped 7 = .ok (.astore_n 3, 1) := by decide +kernel
theorem dL_taped_8 : decode cL_taped 8 = .ok (.bipush (-101), 2) := by decide +kernel
theorem dL_taped_10 : decode cL_taped 10 = .ok (.ireturn, 1) := by decide +kernel
set_option maxRecDepth 20000 in
theorem ggL_put_X4_job : GoodIn wsL_put wsX4_job := goodIn_ca (goodIn_ca (goodIn_ca (goodIn_r _ [8, 9, 10, 11, 12, 13, 14, 15, 16, 17, 7, 18, 19, 20, 21, 22, 23, 24, 25, 26, 27, 28, 29, 30, 31, 32, 33, 34, 35, 36, 37, 38, 39, 40, 41, 42, 43, 44, 45, 46, 47, 48, 49, 50, 51, 52, 53, 54, 55, 56, 57, 58] (by decide +kernel) (by decide +kernel)) (goodIn_sub (fun _ h => List.mem_cons_of_mem _ (List.mem_append_left _ (List.mem_append_left _ (List.mem_append_right _ h)))) (by decide +kernel))) (goodIn_sub (fun _ h => List.mem_cons_of_mem _ (List.mem_append_left _ (List.mem_append_right _ h))) (by decide +kernel))) (goodIn_sub (fun _ h => List.mem_cons_of_mem _ (List.mem_append_right _ h)) (by decide +kernel))
set_option maxRecDepth 20000 in
theorem gL_put_X4_job : GoodIn wsL_put (wsV RL 38 RX4 yX4_job wsX4_job) := goodIn_app (goodIn_of _ (by decide +kernel)) ggL_put_X4_job
theorem dL_put_0 : decode cL_put 0 = .ok (.aload_n 0, 1) := by decide +kernel
theorem dL_put_1 : decode cL_put 1 = .ok (.iload_n 1, 1) := by decide +kernel
theorem dL_put_2 : decode cL_put 2 = .ok (.iload_n 2, 1) := by decide +kernel
theorem dL_put_3 : decode cL_put 3 = .ok (.iload_n 3, 1) := by decide +kernel
theorem dL_put_4 : decode cL_put 4 = .ok (.invokevirtual 38, 3) := by decide +kernel
theorem dL_put_7 : decode cL_put 7 = .ok (.ireturn, 1) := by decide +kernel
theorem dL_put_8 : decode cL_put 8 = .ok (.astore 4, 2) := by decide +kernel
theorem dL_put_10 : decode cL_put 10 = .ok (.bipush (-101), 2) := by decide +kernel
theorem dL_put_12 : decode cL_put 12 = .ok (.ireturn, 1) := by decide +kernel
theorem dL_put_13 : decode cL_put 13 = .ok (.astore 4, 2) := by decide +kernel
theorem dL_put_15 : decode cL_put 15 = .ok (.bipush (-102), 2) := by decide +kernel
theorem dL_put_17 : decode cL_put 17 = .ok (.ireturn, 1) := by decide +kernel
theorem dL_put_18 : decode cL_put 18 = .ok (.astore 4, 2) := by decide +kernel
theorem dL_put_20 : decode cL_put 20 = .ok (.bipush (-103), 2) := by decide +kernel
theorem dL_put_22 : decode cL_put 22 = .ok (.ireturn, 1) := by decide +kernel
set_option maxRecDepth 20000 in
theorem ggL_two_X4_carry : GoodIn wsL_two wsX4_carry := goodIn_ca (goodIn_ca (goodIn_r _ [7, 8, 9, 10, 11, 12, 13, 14, 6, 15, 16, 17, 18, 19, 20, 21, 22, 23, 24, 25, 155, 156, 157, 158, 159, 160, 161, 162, 163, 164, 165, 166, 167, 168] (by decide +kernel) (by decide +kernel)) (goodIn_sub (fun _ h => List.mem_cons_of_mem _ (List.mem_append_left _ (List.mem_append_right _ h))) (by decide +kernel))) (goodIn_sub (fun _ h => List.mem_cons_of_mem _ (List.mem_append_right _ h)) (by decide +kernel))
set_option maxRecDepth 20000 in
theorem gL_two_X4_carry : GoodIn wsL_two (wsV RL 46 RX4 yX4_carry wsX4_carry) := goodIn_app (goodIn_of _ (by decide +kernel)) ggL_two_X4_carry
set_option maxRecDepth 20000 in
theorem ggL_two_X4_mount : GoodIn wsL_two wsX4_mount := goodIn_ca (goodIn_ca (goodIn_r _ [29, 10, 11, 30, 31, 32, 6, 33, 8, 9, 34, 12, 13, 14, 15, 16, 17, 18, 19, 20, 21, 35, 36, 37, 38, 39, 40, 41, 42, 43, 44, 45, 46, 47, 169, 170, 171, 172, 173, 174, 175, 155, 156, 157, 158, 159, 160, 161, 162, 163, 164, 165, 166, 167, 168] (by decide +kernel) (by decide +kernel)) (goodIn_sub (fun _ h => List.mem_cons_of_mem _ (List.mem_append_right _ h)) (by decide +kernel))) (goodIn_sub (fun _ h => List.mem_cons_of_mem _ (List.mem_append_left _ (List.mem_append_right _ h))) (by decide +kernel))
set_option maxRecDepth 20000 in
theorem gL_two_X4_mount : GoodIn wsL_two (wsV RL 49 RX4 yX4_mount wsX4_mount) := goodIn_app (goodIn_of _ (by decide +kernel)) ggL_two_X4_mount
set_option maxRecDepth 20000 in
theorem ggL_two_X4_read : GoodIn wsL_two wsX4_read := goodIn_ca (goodIn_ca (goodIn_r _ [51, 30, 31, 32, 6, 33, 8, 9, 34, 52, 53, 54, 10, 11, 55, 56, 57, 58, 59, 60, 61, 36, 62, 63, 64, 65, 66, 67, 68, 69, 70, 71, 72, 73, 18, 74, 75, 76, 77, 78, 79, 80, 81, 82, 40, 41, 42, 43, 83, 84, 85, 86, 87, 88, 89, 90, 91, 92, 93, 94, 95, 96, 97, 98, 99, 100, 44, 45, 46, 47, 163, 164, 165, 166, 167, 168, 169, 170, 171, 172, 173, 174, 175, 155, 156, 157, 158, 159, 160, 161, 162] (by decide +kernel) (by decide +kernel)) (goodIn_sub (fun _ h => List.mem_cons_of_mem _ (List.mem_append_left _ (List.mem_append_right _ h))) (by decide +kernel))) (goodIn_sub (fun _ h => List.mem_cons_of_mem _ (List.mem_append_right _ h)) (by decide +kernel))
set_option maxRecDepth 20000 in
theorem gL_two_X4_read : GoodIn wsL_two (wsV RL 52 RX4 yX4_read wsX4_read) := goodIn_app (goodIn_of _ (by decide +kernel)) ggL_two_X4_read
set_option maxRecDepth 20000 in
theorem ggL_two_X4_bestJob : GoodIn wsL_two wsX4_bestJob := goodIn_ca (goodIn_ca (goodIn_r _ [104, 8, 9, 105, 30, 31, 32, 6, 33, 34, 106, 107, 108, 109, 110, 52, 53, 54, 10, 11, 111, 112, 113, 114, 115, 116, 117, 118, 119, 120, 121, 122, 123, 124, 90, 42, 91, 77, 78, 125, 126, 127, 128, 129, 130, 70, 36, 71, 72, 73, 18, 74, 75, 76, 79, 80, 81, 82, 40, 41, 43, 83, 84, 85, 86, 87, 88, 89, 92, 93, 94, 95, 96, 97, 98, 99, 131, 132, 133, 134, 135, 136, 137, 138, 139, 140, 141, 142, 143, 144, 145, 146, 147, 148, 149, 150, 151, 152, 153, 154, 163, 164, 165, 166, 167, 168, 176, 177, 178, 179, 180, 181, 169, 170, 171, 172, 173, 174, 175, 155, 156, 157, 158, 159, 160, 161, 162, 182, 183, 184, 185, 186] (by decide +kernel) (by decide +kernel)) (goodIn_sub (fun _ h => List.mem_cons_of_mem _ (List.mem_append_left _ (List.mem_append_right _ h))) (by decide +kernel))) (goodIn_sub (fun _ h => List.mem_cons_of_mem _ (List.mem_append_right _ h)) (by decide +kernel))
set_option maxRecDepth 20000 in
theorem gL_two_X4_bestJob : GoodIn wsL_two (wsV RL 55 RX4 yX4_bestJob wsX4_bestJob) := goodIn_app (goodIn_of _ (by decide +kernel)) ggL_two_X4_bestJob
theorem dL_two_0 : decode cL_two 0 = .ok (.iload_n 1, 1) := by decide +kernel
theorem dL_two_1 : decode cL_two 1 = .ok (.ifCond .ne 12, 3) := by decide +kernel
theorem dL_two_4 : decode cL_two 4 = .ok (.aload_n 0, 1) := by decide +kernel
theorem dL_two_5 : decode cL_two 5 = .ok (.iload_n 2, 1) := by decide +kernel
theorem dL_two_6 : decode cL_two 6 = .ok (.iload_n 3, 1) := by decide +kernel
theorem dL_two_7 : decode cL_two 7 = .ok (.invokevirtual 46, 3) := by decide +kernel
theorem dL_two_10 : decode cL_two 10 = .ok (.goto 37, 3) := by decide +kernel
theorem dL_two_13 : decode cL_two 13 = .ok (.iload_n 1, 1) := by decide +kernel
theorem dL_two_14 : decode cL_two 14 = .ok (.iconst 1, 1) := by decide +kernel
theorem dL_two_15 : decode cL_two 15 = .ok (.if_icmp .ne 12, 3) := by decide +kernel
theorem dL_two_18 : decode cL_two 18 = .ok (.aload_n 0, 1) := by decide +kernel
theorem dL_two_19 : decode cL_two 19 = .ok (.iload_n 2, 1) := by decide +kernel
theorem dL_two_20 : decode cL_two 20 = .ok (.iload_n 3, 1) := by decide +kernel
theorem dL_two_21 : decode cL_two 21 = .ok (.invokevirtual 49, 3) := by decide +kernel
theorem dL_two_24 : decode cL_two 24 = .ok (.goto 23, 3) := by decide +kernel
theorem dL_two_27 : decode cL_two 27 = .ok (.iload_n 1, 1) := by decide +kernel
theorem dL_two_28 : decode cL_two 28 = .ok (.iconst 2, 1) := by decide +kernel
theorem dL_two_29 : decode cL_two 29 = .ok (.if_icmp .ne 12, 3) := by decide +kernel
theorem dL_two_32 : decode cL_two 32 = .ok (.aload_n 0, 1) := by decide +kernel
theorem dL_two_33 : decode cL_two 33 = .ok (.iload_n 2, 1) := by decide +kernel
theorem dL_two_34 : decode cL_two 34 = .ok (.iload_n 3, 1) := by decide +kernel
theorem dL_two_35 : decode cL_two 35 = .ok (.invokevirtual 52, 3) := by decide +kernel
theorem dL_two_38 : decode cL_two 38 = .ok (.goto 9, 3) := by decide +kernel
theorem dL_two_41 : decode cL_two 41 = .ok (.aload_n 0, 1) := by decide +kernel
theorem dL_two_42 : decode cL_two 42 = .ok (.iload_n 2, 1) := by decide +kernel
theorem dL_two_43 : decode cL_two 43 = .ok (.iload_n 3, 1) := by decide +kernel
theorem dL_two_44 : decode cL_two 44 = .ok (.invokevirtual 55, 3) := by decide +kernel
theorem dL_two_47 : decode cL_two 47 = .ok (.ireturn, 1) := by decide +kernel
theorem dL_two_48 : decode cL_two 48 = .ok (.astore 4, 2) := by decide +kernel
theorem dL_two_50 : decode cL_two 50 = .ok (.bipush (-101), 2) := by decide +kernel
theorem dL_two_52 : decode cL_two 52 = .ok (.ireturn, 1) := by decide +kernel
theorem dL_two_53 : decode cL_two 53 = .ok (.astore 4, 2) := by decide +kernel
theorem dL_two_55 : decode cL_two 55 = .ok (.bipush (-102), 2) := by decide +kernel
theorem dL_two_57 : decode cL_two 57 = .ok (.ireturn, 1) := by decide +kernel
set_option maxRecDepth 20000 in
theorem ggL_one_X4_unmount : GoodIn wsL_one wsX4_unmount := goodIn_ca (goodIn_ca (goodIn_r _ [7, 8, 9, 10, 6, 11, 12, 13, 14, 15, 16, 17, 18, 19, 20, 21, 22, 23, 24, 25, 26, 27, 28, 29, 30, 31, 32, 33, 34, 35, 36, 37, 38, 39, 40, 41, 42, 43, 44, 45, 46, 47, 48, 49, 50, 196, 197, 198, 199, 200, 201, 202, 203, 204, 205, 206, 207, 208, 209, 210, 211, 212, 213, 214, 215, 216] (by decide +kernel) (by decide +kernel)) (goodIn_sub (fun _ h => List.mem_cons_of_mem _ (List.mem_append_left _ (List.mem_append_right _ h))) (by decide +kernel))) (goodIn_sub (fun _ h => List.mem_cons_of_mem _ (List.mem_append_right _ h)) (by decide +kernel))
set_option maxRecDepth 20000 in
theorem gL_one_X4_unmount : GoodIn wsL_one (wsV RL 58 RX4 yX4_unmount wsX4_unmount) := goodIn_app (goodIn_of _ (by decide +kernel)) ggL_one_X4_unmount
set_option maxRecDepth 20000 in
theorem ggL_one_X4_clean : GoodIn wsL_one wsX4_clean := goodIn_ca (goodIn_ca (goodIn_r _ [54, 18, 19, 8, 9, 10, 6, 11, 12, 13, 14, 47, 21, 48, 49, 50, 196, 197, 198, 199, 200, 201, 202, 211, 212, 213, 214, 215, 216] (by decide +kernel) (by decide +kernel)) (goodIn_sub (fun _ h => List.mem_cons_of_mem _ (List.mem_append_right _ h)) (by decide +kernel))) (goodIn_sub (fun _ h => List.mem_cons_of_mem _ (List.mem_append_left _ (List.mem_append_right _ h))) (by decide +kernel))
set_option maxRecDepth 20000 in
theorem gL_one_X4_clean : GoodIn wsL_one (wsV RL 62 RX4 yX4_clean wsX4_clean) := goodIn_app (goodIn_of _ (by decide +kernel)) ggL_one_X4_clean
set_option maxRecDepth 20000 in
theorem ggL_one_X4_work : GoodIn wsL_one wsX4_work := goodIn_ca (goodIn_ca (goodIn_r _ [58, 59, 60, 8, 9, 10, 6, 11, 12, 13, 14, 15, 16, 17, 18, 19, 61, 62, 63, 64, 21, 65, 66, 67, 68, 69, 70, 71, 72, 73, 74, 75, 76, 77, 78, 79, 80, 81, 82, 83, 84, 85, 36, 26, 37, 86, 87, 88, 89, 90, 91, 92, 93, 94, 95, 96, 97, 31, 98, 99, 100, 101, 20, 22, 23, 24, 25, 27, 28, 29, 30, 32, 33, 34, 35, 38, 39, 40, 41, 42, 102, 103, 104, 105, 106, 107, 108, 109, 110, 111, 112, 113, 114, 115, 116, 117, 118, 119, 120, 121, 122, 123, 124, 125, 126, 127, 128, 129, 130, 131, 132, 133, 134, 47, 48, 49, 50, 135, 136, 137, 138, 139, 140, 141, 142, 211, 212, 213, 214, 215, 216, 217, 218, 219, 220, 221, 222, 196, 197, 198, 199, 200, 201, 202, 203, 204, 205, 206, 207, 208, 209, 210, 223, 224, 225, 226, 227] (by decide +kernel) (by decide +kernel)) (goodIn_sub (fun _ h => List.mem_cons_of_mem _ (List.mem_append_left _ (List.mem_append_right _ h))) (by decide +kernel))) (goodIn_sub (fun _ h => List.mem_cons_of_mem _ (List.mem_append_right _ h)) (by decide +kernel))
set_option maxRecDepth 20000 in
theorem gL_one_X4_work : GoodIn wsL_one (wsV RL 65 RX4 yX4_work wsX4_work) := goodIn_app (goodIn_of _ (by decide +kernel)) ggL_one_X4_work
set_option maxRecDepth 20000 in
theorem ggL_one_X4_bestTime : GoodIn wsL_one wsX4_bestTime := goodIn_ca (goodIn_ca (goodIn_r _ [146, 59, 8, 9, 10, 6, 11, 12, 13, 14, 68, 69, 70, 71, 60, 15, 16, 17, 18, 19, 72, 73, 74, 75, 76, 77, 78, 79, 80, 81, 82, 83, 84, 85, 36, 26, 37, 86, 87, 88, 89, 90, 91, 92, 93, 94, 21, 95, 96, 97, 31, 98, 99, 100, 101, 20, 22, 23, 24, 25, 27, 28, 29, 30, 32, 33, 34, 35, 38, 39, 40, 41, 42, 102, 103, 104, 105, 106, 107, 108, 109, 110, 111, 112, 113, 114, 115, 116, 117, 118, 119, 120, 121, 122, 123, 124, 125, 147, 148, 149, 211, 212, 213, 214, 215, 216, 217, 218, 219, 220, 221, 222, 196, 197, 198, 199, 200, 201, 202, 203, 204, 205, 206, 207, 208, 209, 210, 223, 224, 225, 226, 227] (by decide +kernel) (by decide +kernel)) (goodIn_sub (fun _ h => List.mem_cons_of_mem _ (List.mem_append_left _ (List.mem_append_right _ h))) (by decide +kernel))) (goodIn_sub (fun _ h => List.mem_cons_of_mem _ (List.mem_append_right _ h)) (by decide +kernel))
set_option maxRecDepth 20000 in
theorem gL_one_X4_bestTime : GoodIn wsL_one (wsV RL 68 RX4 yX4_bestTime wsX4_bestTime) := goodIn_app (goodIn_of _ (by decide +kernel)) ggL_one_X4_bestTime
set_option maxRecDepth 20000 in
theorem ggL_one_X4_insertedTime : GoodIn wsL_one wsX4_insertedTime := goodIn_ca (goodIn_ca (goodIn_r _ [153, 59, 8, 9, 10, 6, 11, 12, 13, 14, 68, 69, 70, 71, 60, 15, 16, 17, 18, 19, 72, 73, 74, 75, 76, 77, 78, 79, 80, 81, 82, 83, 84, 85, 36, 26, 37, 86, 87, 88, 89, 90, 91, 92, 93, 94, 21, 95, 96, 97, 31, 98, 99, 100, 101, 20, 22, 23, 24, 25, 27, 28, 29, 30, 32, 33, 34, 35, 38, 39, 40, 41, 42, 102, 103, 104, 154, 155, 156, 157, 158, 159, 160, 161, 162, 147, 148, 149, 122, 123, 124, 125, 163, 164, 165, 166, 211, 212, 213, 214, 215, 216, 196, 197, 198, 199, 200, 201, 202, 203, 204, 205, 206, 207, 208, 209, 210, 217, 218, 219, 220, 221, 222, 223, 224, 225, 226, 227] (by decide +kernel) (by decide +kernel)) (goodIn_sub (fun _ h => List.mem_cons_of_mem _ (List.mem_append_left _ (List.mem_append_right _ h))) (by decide +kernel))) (goodIn_sub (fun _ h => List.mem_cons_of_mem _ (List.mem_append_right _ h)) (by decide +kernel))
set_option maxRecDepth 20000 in
theorem gL_one_X4_insertedTime : GoodIn wsL_one (wsV RL 71 RX4 yX4_insertedTime wsX4_insertedTime) := goodIn_app (goodIn_of _ (by decide +kernel)) ggL_one_X4_insertedTime
set_option maxRecDepth 20000 in
theorem ggL_one_X4_triedTime : GoodIn wsL_one wsX4_triedTime := goodIn_ca (goodIn_ca (goodIn_r _ [170, 59, 8, 9, 10, 6, 11, 12, 13, 14, 68, 69, 70, 71, 60, 15, 16, 17, 18, 19, 72, 73, 74, 75, 76, 77, 78, 79, 80, 81, 82, 83, 84, 85, 36, 26, 37, 86, 87, 88, 89, 90, 91, 92, 93, 94, 21, 95, 96, 97, 31, 98, 99, 100, 101, 20, 22, 23, 24, 25, 27, 28, 29, 30, 32, 33, 34, 35, 38, 39, 40, 41, 42, 102, 103, 104, 171, 172, 173, 157, 174, 162, 147, 148, 149, 122, 123, 124, 125, 175, 176, 177, 178, 163, 164, 165, 166, 211, 212, 213, 214, 215, 216, 196, 197, 198, 199, 200, 201, 202, 203, 204, 205, 206, 207, 208, 209, 210, 217, 218, 219, 220, 221, 222, 223, 224, 225, 226, 227] (by decide +kernel) (by decide +kernel)) (goodIn_sub (fun _ h => List.mem_cons_of_mem _ (List.mem_append_left _ (List.mem_append_right _ h))) (by decide +kernel))) (goodIn_sub (fun _ h => List.mem_cons_of_mem _ (List.mem_append_right _ h)) (by decide +kernel))
set_option maxRecDepth 20000 in
theorem gL_one_X4_triedTime : GoodIn wsL_one (wsV RL 74 RX4 yX4_triedTime wsX4_triedTime) := goodIn_app (goodIn_of _ (by decide +kernel)) ggL_one_X4_triedTime
set_option maxRecDepth 20000 in
theorem ggL_one_X4_lose : GoodIn wsL_one wsX4_lose := goodIn_ca (goodIn_ca (goodIn_r _ [182, 18, 19, 183, 184, 185, 6, 186, 12, 13, 187, 188, 31, 189, 190, 191, 192, 193, 194, 195, 203, 204, 205, 206, 207, 208, 209, 210, 211, 212, 213, 214, 215, 216] (by decide +kernel) (by decide +kernel)) (goodIn_sub (fun _ h => List.mem_cons_of_mem _ (List.mem_append_right _ h)) (by decide +kernel))) (goodIn_sub (fun _ h => List.mem_cons_of_mem _ (List.mem_append_left _ (List.mem_append_right _ h))) (by decide +kernel))
set_option maxRecDepth 20000 in
theorem gL_one_X4_lose : GoodIn wsL_one (wsV RL 77 RX4 yX4_lose wsX4_lose) := goodIn_app (goodIn_of _ (by decide +kernel)) ggL_one_X4_lose
theorem dL_one_0 : decode cL_one 0 = .ok (.iload_n 1, 1) := by decide +kernel
theorem dL_one_1 : decode cL_one 1 = .ok (.ifCond .ne 11, 3) := by decide +kernel
theorem dL_one_4 : decode cL_one 4 = .ok (.aload_n 0, 1) := by decide +kernel
theorem dL_one_5 : decode cL_one 5 = .ok (.iload_n 2, 1) := by decide +kernel
theorem dL_one_6 : decode cL_one 6 = .ok (.invokevirtual 58, 3) := by decide +kernel
theorem dL_one_9 : decode cL_one 9 = .ok (.goto 73, 3) := by decide +kernel
theorem dL_one_12 : decode cL_one 12 = .ok (.iload_n 1, 1) := by decide +kernel
theorem dL_one_13 : decode cL_one 13 = .ok (.iconst 1, 1) := by decide +kernel
theorem dL_one_14 : decode cL_one 14 = .ok (.if_icmp .ne 11, 3) := by decide +kernel
theorem dL_one_17 : decode cL_one 17 = .ok (.aload_n 0, 1) := by decide +kernel
theorem dL_one_18 : decode cL_one 18 = .ok (.iload_n 2, 1) := by decide +kernel
theorem dL_one_19 : decode cL_one 19 = .ok (.invokevirtual 62, 3) := by decide +kernel
theorem dL_one_22 : decode cL_one 22 = .ok (.goto 60, 3) := by decide +kernel
theorem dL_one_25 : decode cL_one 25 = .ok (.iload_n 1, 1) := by decide +kernel
theorem dL_one_26 : decode cL_one 26 = .ok (.iconst 2, 1) := by decide +kernel
theorem dL_one_27 : decode cL_one 27 = .ok (.if_icmp .ne 11, 3) := by decide +kernel
theorem dL_one_30 : decode cL_one 30 = .ok (.aload_n 0, 1) := by decide +kernel
theorem dL_one_31 : decode cL_one 31 = .ok (.iload_n 2, 1) := by decide +kernel
theorem dL_one_32 : decode cL_one 32 = .ok (.invokevirtual 65, 3) := by decide +kernel
theorem dL_one_35 : decode cL_one 35 = .ok (.goto 47, 3) := by decide +kernel
theorem dL_one_38 : decode cL_one 38 = .ok (.iload_n 1, 1) := by decide +kernel
theorem dL_one_39 : decode cL_one 39 = .ok (.iconst 3, 1) := by decide +kernel
theorem dL_one_40 : decode cL_one 40 = .ok (.if_icmp .ne 11, 3) := by decide +kernel
theorem dL_one_43 : decode cL_one 43 = .ok (.aload_n 0, 1) := by decide +kernel
theorem dL_one_44 : decode cL_one 44 = .ok (.iload_n 2, 1) := by decide +kernel
theorem dL_one_45 : decode cL_one 45 = .ok (.invokevirtual 68, 3) := by decide +kernel
theorem dL_one_48 : decode cL_one 48 = .ok (.goto 34, 3) := by decide +kernel
theorem dL_one_51 : decode cL_one 51 = .ok (.iload_n 1, 1) := by decide +kernel
theorem dL_one_52 : decode cL_one 52 = .ok (.iconst 4, 1) := by decide +kernel
theorem dL_one_53 : decode cL_one 53 = .ok (.if_icmp .ne 11, 3) := by decide +kernel
theorem dL_one_56 : decode cL_one 56 = .ok (.aload_n 0, 1) := by decide +kernel
theorem dL_one_57 : decode cL_one 57 = .ok (.iload_n 2, 1) := by decide +kernel
theorem dL_one_58 : decode cL_one 58 = .ok (.invokevirtual 71, 3) := by decide +kernel
theorem dL_one_61 : decode cL_one 61 = .ok (.goto 21, 3) := by decide +kernel
theorem dL_one_64 : decode cL_one 64 = .ok (.iload_n 1, 1) := by decide +kernel
theorem dL_one_65 : decode cL_one 65 = .ok (.iconst 5, 1) := by decide +kernel
theorem dL_one_66 : decode cL_one 66 = .ok (.if_icmp .ne 11, 3) := by decide +kernel
theorem dL_one_69 : decode cL_one 69 = .ok (.aload_n 0, 1) := by decide +kernel
theorem dL_one_70 : decode cL_one 70 = .ok (.iload_n 2, 1) := by decide +kernel
theorem dL_one_71 : decode cL_one 71 = .ok (.invokevirtual 74, 3) := by decide +kernel
theorem dL_one_74 : decode cL_one 74 = .ok (.goto 8, 3) := by decide +kernel
theorem dL_one_77 : decode cL_one 77 = .ok (.aload_n 0, 1) := by decide +kernel
theorem dL_one_78 : decode cL_one 78 = .ok (.iload_n 2, 1) := by decide +kernel
theorem dL_one_79 : decode cL_one 79 = .ok (.invokevirtual 77, 3) := by decide +kernel
theorem dL_one_82 : decode cL_one 82 = .ok (.ireturn, 1) := by decide +kernel
theorem dL_one_83 : decode cL_one 83 = .ok (.astore_n 3, 1) := by decide +kernel
theorem dL_one_84 : decode cL_one 84 = .ok (.bipush (-101), 2) := by decide +kernel
theorem dL_one_86 : decode cL_one 86 = .ok (.ireturn, 1) := by decide +kernel
theorem dL_one_87 : decode cL_one 87 = .ok (.astore_n 3, 1) := by decide +kernel
theorem dL_one_88 : decode cL_one 88 = .ok (.bipush (-102), 2) := by decide +kernel
theorem dL_one_90 : decode cL_one 90 = .ok (.ireturn, 1) := by decide +kernel
set_option maxRecDepth 20000 in
theorem ggL_added_X4_drive : GoodIn wsL_added wsX4_drive := goodIn_ca (goodIn_ca (goodIn_r _ [6, 7, 8, 9, 10, 11, 12, 13, 14, 15, 16, 17, 18, 19, 20, 21, 22, 23, 24, 25, 26, 27, 28, 29, 30, 31, 32, 33, 34, 35, 36, 37, 38, 39, 40] (by decide +kernel) (by decide +kernel)) (goodIn_sub (fun _ h => List.mem_cons_of_mem _ (List.mem_append_left _ (List.mem_append_right _ h))) (by decide +kernel))) (goodIn_sub (fun _ h => List.mem_cons_of_mem _ (List.mem_append_right _ h)) (by decide +kernel))
set_option maxRecDepth 20000 in
theorem gL_added_X4_drive : GoodIn wsL_added (wsV RL 80 RX4 yX4_drive wsX4_drive) := goodIn_app (goodIn_of _ (by decide +kernel)) ggL_added_X4_drive
theorem dL_added_0 : decode cL_added 0 = .ok (.aload_n 0, 1) := by decide +kernel
theorem dL_added_1 : decode cL_added 1 = .ok (.iload_n 1, 1) := by decide +kernel
theorem dL_added_2 : decode cL_added 2 = .ok (.invokevirtual 80, 3) := by decide +kernel
theorem dL_added_5 : decode cL_added 5 = .ok (.ireturn, 1) := by decide +kernel
theorem dL_added_6 : decode cL_added 6 = .ok (.astore_n 2, 1) := by decide +kernel
theorem dL_added_7 : decode cL_added 7 = .ok (.bipush (-101), 2) := by decide +kernel
theorem dL_added_9 : decode cL_added 9 = .ok (.ireturn, 1) := by decide +kernel
set_option maxRecDepth 20000 in
theorem ggL_written_X4_write : GoodIn wsL_written wsX4_write := goodIn_ca (goodIn_ca (goodIn_ca (goodIn_r _ [8, 9, 10, 11, 12, 13, 14, 15, 7, 16, 17, 18, 19, 20, 21, 22, 23, 24, 25, 26, 27, 28, 29, 30, 31, 32, 33, 34, 35, 36, 37, 38, 39, 40, 41, 42, 43, 44, 45, 46, 47, 48, 49, 50, 51, 52, 53, 54, 55, 56, 57, 58, 59, 60, 61, 62, 63, 64, 65, 66, 67, 68, 69, 70, 71, 72, 73, 74, 75, 76, 77, 78, 79, 80, 81, 82, 83, 84, 85, 86, 87, 88, 89, 90, 91, 92, 93, 94, 95, 96, 97, 98, 99, 100, 101, 102, 103, 104, 105, 106, 107, 108, 109, 110] (by decide +kernel) (by decide +kernel)) (goodIn_sub (fun _ h => List.mem_cons_of_mem _ (List.mem_append_left _ (List.mem_append_left _ (List.mem_append_right _ h)))) (by decide +kernel))) (goodIn_sub (fun _ h => List.mem_cons_of_mem _ (List.mem_append_left _ (List.mem_append_right _ h))) (by decide +kernel))) (goodIn_sub (fun _ h => List.mem_cons_of_mem _ (List.mem_append_right _ h)) (by decide +kernel))
set_option maxRecDepth 20000 in
theorem gL_written_X4_write : GoodIn wsL_written (wsV RL 83 RX4 yX4_write wsX4_write) := goodIn_app (goodIn_of _ (by decide +kernel)) ggL_written_X4_write
theorem dL_written_0 : decode cL_written 0 = .ok (.aload_n 0, 1) := by decide +kernel
theorem dL_written_1 : decode cL_written 1 = .ok (.iload_n 1, 1) := by decide +kernel
theorem dL_written_2 : decode cL_written 2 = .ok (.iload_n 2, 1) := by decide +kernel
theorem dL_written_3 : decode cL_written 3 = .ok (.invokevirtual 83, 3) := by decide +kernel
theorem dL_written_6 : decode cL_written 6 = .ok (.ireturn, 1) := by decide +kernel
theorem dL_written_7 : decode cL_written 7 = .ok (.astore_n 3, 1) := by decide +kernel
theorem dL_written_8 : decode cL_written 8 = .ok (.bipush (-101), 2) := by decide +kernel
theorem dL_written_10 : decode cL_written 10 = .ok (.ireturn, 1) := by decide +kernel
theorem dL_written_11 : decode cL_written 11 = .ok (.astore_n 3, 1) := by decide +kernel
theorem dL_written_12 : decode cL_written 12 = .ok (.bipush (-102), 2) := by decide +kernel
theorem dL_written_14 : decode cL_written 14 = .ok (.ireturn, 1) := by decide +kernel
theorem dL_written_15 : decode cL_written 15 = .ok (.astore_n 3, 1) := by decide +kernel
theorem dL_written_16 : decode cL_written 16 = .ok (.bipush (-103), 2) := by decide +kernel
theorem dL_written_18 : decode cL_written 18 = .ok (.ireturn, 1) := by decide +kernel
set_option maxRecDepth 20000 in
theorem ggL_told_X4_placeOf : GoodIn wsL_told wsX4_placeOf := goodIn_ca (goodIn_r _ [6, 7, 8, 9, 5, 10, 11, 12, 13, 14, 15, 16, 17, 18, 80, 81, 82, 83, 84, 85, 86, 87, 88, 89, 90, 91, 92, 93] (by decide +kernel) (by decide +kernel)) (goodIn_sub (fun _ h => List.mem_cons_of_mem _ (List.mem_append_right _ h)) (by decide +kernel))
set_option maxRecDepth 20000 in
theorem gL_told_X4_placeOf : GoodIn wsL_told (wsV RL 86 RX4 yX4_placeOf wsX4_placeOf) := goodIn_app (goodIn_of _ (by decide +kernel)) ggL_told_X4_placeOf
set_option maxRecDepth 20000 in
theorem ggL_told_X4_files : GoodIn wsL_told wsX4_files := goodIn_ca (goodIn_r _ [22, 7, 8, 9, 5, 10, 11, 12, 13, 80, 81, 82, 83, 84, 85, 86, 87, 88, 89, 90, 91, 92, 93] (by decide +kernel) (by decide +kernel)) (goodIn_sub (fun _ h => List.mem_cons_of_mem _ (List.mem_append_right _ h)) (by decide +kernel))
set_option maxRecDepth 20000 in
theorem gL_told_X4_files : GoodIn wsL_told (wsV RL 89 RX4 yX4_files wsX4_files) := goodIn_app (goodIn_of _ (by decide +kernel)) ggL_told_X4_files
set_option maxRecDepth 20000 in
theorem ggL_told_X4_start : GoodIn wsL_told wsX4_start := goodIn_ca (goodIn_r _ [26, 7, 8, 9, 5, 10, 11, 12, 13, 27, 28, 29, 30, 15, 31, 32, 33, 34, 35, 88, 89, 90, 91, 92, 93, 80, 81, 82, 83, 84, 85, 86, 87] (by decide +kernel) (by decide +kernel)) (goodIn_sub (fun _ h => List.mem_cons_of_mem _ (List.mem_append_right _ h)) (by decide +kernel))
set_option maxRecDepth 20000 in
theorem gL_told_X4_start : GoodIn wsL_told (wsV RL 92 RX4 yX4_start wsX4_start) := goodIn_app (goodIn_of _ (by decide +kernel)) ggL_told_X4_start
set_option maxRecDepth 20000 in
theorem ggL_told_X4_along : GoodIn wsL_told wsX4_along := goodIn_ca (goodIn_r _ [39, 11, 12, 7, 8, 9, 5, 10, 13, 40, 15, 41, 42, 43, 44, 45, 46, 47, 48, 49, 50, 51, 52, 53, 54, 55, 88, 89, 90, 91, 92, 93, 80, 81, 82, 83, 84, 85, 86, 87] (by decide +kernel) (by decide +kernel)) (goodIn_sub (fun _ h => List.mem_cons_of_mem _ (List.mem_append_right _ h)) (by decide +kernel))
set_option maxRecDepth 20000 in
theorem gL_told_X4_along : GoodIn wsL_told (wsV RL 94 RX4 yX4_along wsX4_along) := goodIn_app (goodIn_of _ (by decide +kernel)) ggL_told_X4_along
set_option maxRecDepth 20000 in
theorem ggL_told_X4_waiting : GoodIn wsL_told wsX4_waiting := goodIn_ca (goodIn_r _ [59, 60, 7, 8, 9, 5, 10, 11, 12, 13, 61, 62, 63, 64, 65, 66, 34, 35, 88, 89, 90, 91, 92, 93, 80, 81, 82, 83, 84, 85, 86, 87, 94, 95, 96, 97, 98] (by decide +kernel) (by decide +kernel)) (goodIn_sub (fun _ h => List.mem_cons_of_mem _ (List.mem_append_right _ h)) (by decide +kernel))
set_option maxRecDepth 20000 in
theorem gL_told_X4_waiting : GoodIn wsL_told (wsV RL 97 RX4 yX4_waiting wsX4_waiting) := goodIn_app (goodIn_of _ (by decide +kernel)) ggL_told_X4_waiting
set_option maxRecDepth 20000 in
theorem ggL_told_X4_clock : GoodIn wsL_told wsX4_clock := goodIn_ca (goodIn_r _ [70, 71, 72, 73, 5, 74, 11, 12, 75, 99, 100, 101, 102, 103, 104, 105, 88, 89, 90, 91, 92, 93] (by decide +kernel) (by decide +kernel)) (goodIn_sub (fun _ h => List.mem_cons_of_mem _ (List.mem_append_right _ h)) (by decide +kernel))
set_option maxRecDepth 20000 in
theorem gL_told_X4_clock : GoodIn wsL_told (wsV RL 100 RX4 yX4_clock wsX4_clock) := goodIn_app (goodIn_of _ (by decide +kernel)) ggL_told_X4_clock
set_option maxRecDepth 20000 in
theorem ggL_told_X4_stands : GoodIn wsL_told wsX4_stands := goodIn_ca (goodIn_r _ [79, 71, 72, 73, 5, 74, 11, 12, 75, 99, 100, 101, 102, 103, 104, 105, 88, 89, 90, 91, 92, 93] (by decide +kernel) (by decide +kernel)) (goodIn_sub (fun _ h => List.mem_cons_of_mem _ (List.mem_append_right _ h)) (by decide +kernel))
set_option maxRecDepth 20000 in
theorem gL_told_X4_stands : GoodIn wsL_told (wsV RL 103 RX4 yX4_stands wsX4_stands) := goodIn_app (goodIn_of _ (by decide +kernel)) ggL_told_X4_stands
theorem dL_told_0 : decode cL_told 0 = .ok (.iload_n 1, 1) := by decide +kernel
theorem dL_told_1 : decode cL_told 1 = .ok (.ifCond .ne 11, 3) := by decide +kernel
theorem dL_told_4 : decode cL_told 4 = .ok (.aload_n 0, 1) := by decide +kernel
theorem dL_told_5 : decode cL_told 5 = .ok (.iload_n 2, 1) := by decide +kernel
theorem dL_told_6 : decode cL_told 6 = .ok (.invokevirtual 86, 3) := by decide +kernel
theorem dL_told_9 : decode cL_told 9 = .ok (.goto 75, 3) := by decide +kernel
theorem dL_told_12 : decode cL_told 12 = .ok (.iload_n 1, 1) := by decide +kernel
theorem dL_told_13 : decode cL_told 13 = .ok (.iconst 1, 1) := by decide +kernel
theorem dL_told_14 : decode cL_told 14 = .ok (.if_icmp .ne 11, 3) := by decide +kernel
theorem dL_told_17 : decode cL_told 17 = .ok (.aload_n 0, 1) := by decide +kernel
theorem dL_told_18 : decode cL_told 18 = .ok (.iload_n 2, 1) := by decide +kernel
theorem dL_told_19 : decode cL_told 19 = .ok (.invokevirtual 89, 3) := by decide +kernel
theorem dL_told_22 : decode cL_told 22 = .ok (.goto 62, 3) := by decide +kernel
theorem dL_told_25 : decode cL_told 25 = .ok (.iload_n 1, 1) := by decide +kernel
theorem dL_told_26 : decode cL_told 26 = .ok (.iconst 2, 1) := by decide +kernel
theorem dL_told_27 : decode cL_told 27 = .ok (.if_icmp .ne 12, 3) := by decide +kernel
theorem dL_told_30 : decode cL_told 30 = .ok (.aload_n 0, 1) := by decide +kernel
theorem dL_told_31 : decode cL_told 31 = .ok (.iload_n 2, 1) := by decide +kernel
theorem dL_told_32 : decode cL_told 32 = .ok (.iload_n 3, 1) := by decide +kernel
theorem dL_told_33 : decode cL_told 33 = .ok (.invokevirtual 92, 3) := by decide +kernel
theorem dL_told_36 : decode cL_told 36 = .ok (.goto 48, 3) := by decide +kernel
theorem dL_told_39 : decode cL_told 39 = .ok (.iload_n 1, 1) := by decide +kernel
theorem dL_told_40 : decode cL_told 40 = .ok (.iconst 3, 1) := by decide +kernel
theorem dL_told_41 : decode cL_told 41 = .ok (.if_icmp .ne 12, 3) := by decide +kernel
theorem dL_told_44 : decode cL_told 44 = .ok (.aload_n 0, 1) := by decide +kernel
theorem dL_told_45 : decode cL_told 45 = .ok (.iload_n 2, 1) := by decide +kernel
theorem dL_told_46 : decode cL_told 46 = .ok (.iload_n 3, 1) := by decide +kernel
theorem dL_told_47 : decode cL_told 47 = .ok (.invokevirtual 94, 3) := by decide +kernel
theorem dL_told_50 : decode cL_told 50 = .ok (.goto 34, 3) := by decide +kernel
theorem dL_told_53 : decode cL_told 53 = .ok (.iload_n 1, 1) := by decide +kernel
theorem dL_told_54 : decode cL_told 54 = .ok (.iconst 4, 1) := by decide +kernel
theorem dL_told_55 : decode cL_told 55 = .ok (.if_icmp .ne 11, 3) := by decide +kernel
theorem dL_told_58 : decode cL_told 58 = .ok (.aload_n 0, 1) := by decide +kernel
theorem dL_told_59 : decode cL_told 59 = .ok (.iload_n 2, 1) := by decide +kernel
theorem dL_told_60 : decode cL_told 60 = .ok (.invokevirtual 97, 3) := by decide +kernel
theorem dL_told_63 : decode cL_told 63 = .ok (.goto 21, 3) := by decide +kernel
theorem dL_told_66 : decode cL_told 66 = .ok (.iload_n 1, 1) := by decide +kernel
theorem dL_told_67 : decode cL_told 67 = .ok (.iconst 5, 1) := by decide +kernel
theorem dL_told_68 : decode cL_told 68 = .ok (.if_icmp .ne 11, 3) := by decide +kernel
theorem dL_told_71 : decode cL_told 71 = .ok (.aload_n 0, 1) := by decide +kernel
theorem dL_told_72 : decode cL_told 72 = .ok (.iload_n 2, 1) := by decide +kernel
theorem dL_told_73 : decode cL_told 73 = .ok (.invokevirtual 100, 3) := by decide +kernel
theorem dL_told_76 : decode cL_told 76 = .ok (.goto 8, 3) := by decide +kernel
theorem dL_told_79 : decode cL_told 79 = .ok (.aload_n 0, 1) := by decide +kernel
theorem dL_told_80 : decode cL_told 80 = .ok (.iload_n 2, 1) := by decide +kernel
theorem dL_told_81 : decode cL_told 81 = .ok (.invokevirtual 103, 3) := by decide +kernel
theorem dL_told_84 : decode cL_told 84 = .ok (.ireturn, 1) := by decide +kernel
theorem dL_told_85 : decode cL_told 85 = .ok (.astore 4, 2) := by decide +kernel
theorem dL_told_87 : decode cL_told 87 = .ok (.bipush (-101), 2) := by decide +kernel
theorem dL_told_89 : decode cL_told 89 = .ok (.ireturn, 1) := by decide +kernel
theorem dL_isFree_0 : decode cL_isFree 0 = .ok (.iconst 0, 1) := by decide +kernel
theorem dL_isFree_1 : decode cL_isFree 1 = .ok (.istore_n 3, 1) := by decide +kernel
theorem dL_isFree_2 : decode cL_isFree 2 = .ok (.iload_n 3, 1) := by decide +kernel
theorem dL_isFree_3 : decode cL_isFree 3 = .ok (.aload_n 0, 1) := by decide +kernel
theorem dL_isFree_4 : decode cL_isFree 4 = .ok (.iconst 0, 1) := by decide +kernel
theorem dL_isFree_5 : decode cL_isFree 5 = .ok (.iaload, 1) := by decide +kernel
theorem dL_isFree_6 : decode cL_isFree 6 = .ok (.if_icmp .ge 21, 3) := by decide +kernel
theorem dL_isFree_9 : decode cL_isFree 9 = .ok (.aload_n 1, 1) := by decide +kernel
theorem dL_isFree_10 : decode cL_isFree 10 = .ok (.bipush 8, 2) := by decide +kernel
theorem dL_isFree_12 : decode cL_isFree 12 = .ok (.iload_n 3, 1) := by decide +kernel
theorem dL_isFree_13 : decode cL_isFree 13 = .ok (.iadd, 1) := by decide +kernel
theorem dL_isFree_14 : decode cL_isFree 14 = .ok (.iaload, 1) := by decide +kernel
theorem dL_isFree_15 : decode cL_isFree 15 = .ok (.iload_n 2, 1) := by decide +kernel
theorem dL_isFree_16 : decode cL_isFree 16 = .ok (.if_icmp .ne 5, 3) := by decide +kernel
theorem dL_isFree_19 : decode cL_isFree 19 = .ok (.iconst 0, 1) := by decide +kernel
theorem dL_isFree_20 : decode cL_isFree 20 = .ok (.ireturn, 1) := by decide +kernel
theorem dL_isFree_21 : decode cL_isFree 21 = .ok (.iinc 3 1, 3) := by decide +kernel
theorem dL_isFree_24 : decode cL_isFree 24 = .ok (.goto (-22), 3) := by decide +kernel
theorem dL_isFree_27 : decode cL_isFree 27 = .ok (.iconst 1, 1) := by decide +kernel
theorem dL_isFree_28 : decode cL_isFree 28 = .ok (.ireturn, 1) := by decide +kernel
theorem dL_lost_0 : decode cL_lost 0 = .ok (.iconst 0, 1) := by decide +kernel
theorem dL_lost_1 : decode cL_lost 1 = .ok (.istore_n 2, 1) := by decide +kernel
theorem dL_lost_2 : decode cL_lost 2 = .ok (.iconst 0, 1) := by decide +kernel
theorem dL_lost_3 : decode cL_lost 3 = .ok (.istore_n 3, 1) := by decide +kernel
theorem dL_lost_4 : decode cL_lost 4 = .ok (.iload_n 3, 1) := by decide +kernel
theorem dL_lost_5 : decode cL_lost 5 = .ok (.aload_n 0, 1) := by decide +kernel
theorem dL_lost_6 : decode cL_lost 6 = .ok (.iconst 0, 1) := by decide +kernel
theorem dL_lost_7 : decode cL_lost 7 = .ok (.iaload, 1) := by decide +kernel
theorem dL_lost_8 : decode cL_lost 8 = .ok (.if_icmp .ge 18, 3) := by decide +kernel
theorem dL_lost_11 : decode cL_lost 11 = .ok (.iload_n 2, 1) := by decide +kernel
theorem dL_lost_12 : decode cL_lost 12 = .ok (.aload_n 1, 1) := by decide +kernel
theorem dL_lost_13 : decode cL_lost 13 = .ok (.bipush 16, 2) := by decide +kernel
theorem dL_lost_15 : decode cL_lost 15 = .ok (.iload_n 3, 1) := by decide +kernel
theorem dL_lost_16 : decode cL_lost 16 = .ok (.iadd, 1) := by decide +kernel
theorem dL_lost_17 : decode cL_lost 17 = .ok (.iaload, 1) := by decide +kernel
theorem dL_lost_18 : decode cL_lost 18 = .ok (.iadd, 1) := by decide +kernel
theorem dL_lost_19 : decode cL_lost 19 = .ok (.istore_n 2, 1) := by decide +kernel
theorem dL_lost_20 : decode cL_lost 20 = .ok (.iinc 3 1, 3) := by decide +kernel
theorem dL_lost_23 : decode cL_lost 23 = .ok (.goto (-19), 3) := by decide +kernel
theorem dL_lost_26 : decode cL_lost 26 = .ok (.iload_n 2, 1) := by decide +kernel
theorem dL_lost_27 : decode cL_lost 27 = .ok (.ireturn, 1) := by decide +kernel
set_option maxRecDepth 20000 in
theorem ggL_runs_L_start : GoodIn wsL_runs wsL_start := goodIn_r _ [4] (by decide +kernel) (by decide +kernel)
set_option maxRecDepth 20000 in
theorem gL_runs_L_start : GoodIn wsL_runs (va_wsS RL 15 yL_start wsL_start) := goodIn_app (goodIn_of _ (by decide +kernel)) ggL_runs_L_start
set_option maxRecDepth 20000 in
theorem ggL_runs_L_way : GoodIn wsL_runs wsL_way := goodIn_r _ [7, 8, 9, 3, 10] (by decide +kernel) (by decide +kernel)
set_option maxRecDepth 20000 in
theorem gL_runs_L_way : GoodIn wsL_runs (va_wsS RL 18 yL_way wsL_way) := goodIn_app (goodIn_of _ (by decide +kernel)) ggL_runs_L_way
theorem dL_runs_0 : decode cL_runs 0 = .ok (.aload_n 1, 1) := by decide +kernel
theorem dL_runs_1 : decode cL_runs 1 = .ok (.aload_n 2, 1) := by decide +kernel
theorem dL_runs_2 : decode cL_runs 2 = .ok (.bipush 6, 2) := by decide +kernel
theorem dL_runs_4 : decode cL_runs 4 = .ok (.iload_n 3, 1) := by decide +kernel
theorem dL_runs_5 : decode cL_runs 5 = .ok (.iadd, 1) := by decide +kernel
theorem dL_runs_6 : decode cL_runs 6 = .ok (.iaload, 1) := by decide +kernel
theorem dL_runs_7 : decode cL_runs 7 = .ok (.iload 4, 2) := by decide +kernel
theorem dL_runs_9 : decode cL_runs 9 = .ok (.invokestatic 15, 3) := by decide +kernel
theorem dL_runs_12 : decode cL_runs 12 = .ok (.istore 5, 2) := by decide +kernel
theorem dL_runs_14 : decode cL_runs 14 = .ok (.aload_n 1, 1) := by decide +kernel
theorem dL_runs_15 : decode cL_runs 15 = .ok (.bipush 6, 2) := by decide +kernel
theorem dL_runs_17 : decode cL_runs 17 = .ok (.aload_n 2, 1) := by decide +kernel
theorem dL_runs_18 : decode cL_runs 18 = .ok (.bipush 6, 2) := by decide +kernel
theorem dL_runs_20 : decode cL_runs 20 = .ok (.iload_n 3, 1) := by decide +kernel
theorem dL_runs_21 : decode cL_runs 21 = .ok (.iadd, 1) := by decide +kernel
theorem dL_runs_22 : decode cL_runs 22 = .ok (.iaload, 1) := by decide +kernel
theorem dL_runs_23 : decode cL_runs 23 = .ok (.imul, 1) := by decide +kernel
theorem dL_runs_24 : decode cL_runs 24 = .ok (.iload 4, 2) := by decide +kernel
theorem dL_runs_26 : decode cL_runs 26 = .ok (.iadd, 1) := by decide +kernel
theorem dL_runs_27 : decode cL_runs 27 = .ok (.iaload, 1) := by decide +kernel
theorem dL_runs_28 : decode cL_runs 28 = .ok (.istore 6, 2) := by decide +kernel
theorem dL_runs_30 : decode cL_runs 30 = .ok (.aload_n 0, 1) := by decide +kernel
theorem dL_runs_31 : decode cL_runs 31 = .ok (.aload_n 2, 1) := by decide +kernel
theorem dL_runs_32 : decode cL_runs 32 = .ok (.iload_n 3, 1) := by decide +kernel
theorem dL_runs_33 : decode cL_runs 33 = .ok (.aload_n 2, 1) := by decide +kernel
theorem dL_runs_34 : decode cL_runs 34 = .ok (.bipush 8, 2) := by decide +kernel
