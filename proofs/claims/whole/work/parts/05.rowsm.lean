theorem dX5_init_0 : decode cX5_init 0 = .ok (.aload_n 0, 1) := by decide +kernel
theorem dX5_init_1 : decode cX5_init 1 = .ok (.invokespecial 1, 3) := by decide +kernel
theorem dX5_init_4 : decode cX5_init 4 = .ok (.aload_n 0, 1) := by decide +kernel
theorem dX5_init_5 : decode cX5_init 5 = .ok (.bipush 8, 2) := by decide +kernel
theorem dX5_init_7 : decode cX5_init 7 = .ok (.newarray .int, 2) := by decide +kernel
theorem dX5_init_9 : decode cX5_init 9 = .ok (.putfield 7, 3) := by decide +kernel
theorem dX5_init_12 : decode cX5_init 12 = .ok (.aload_n 0, 1) := by decide +kernel
theorem dX5_init_13 : decode cX5_init 13 = .ok (.bipush 8, 2) := by decide +kernel
theorem dX5_init_15 : decode cX5_init 15 = .ok (.newarray .int, 2) := by decide +kernel
theorem dX5_init_17 : decode cX5_init 17 = .ok (.putfield 13, 3) := by decide +kernel
theorem dX5_init_20 : decode cX5_init 20 = .ok (.aload_n 0, 1) := by decide +kernel
theorem dX5_init_21 : decode cX5_init 21 = .ok (.bipush 8, 2) := by decide +kernel
theorem dX5_init_23 : decode cX5_init 23 = .ok (.newarray .int, 2) := by decide +kernel
theorem dX5_init_25 : decode cX5_init 25 = .ok (.putfield 16, 3) := by decide +kernel
theorem dX5_init_28 : decode cX5_init 28 = .ok (.aload_n 0, 1) := by decide +kernel
theorem dX5_init_29 : decode cX5_init 29 = .ok (.bipush 8, 2) := by decide +kernel
theorem dX5_init_31 : decode cX5_init 31 = .ok (.newarray .int, 2) := by decide +kernel
theorem dX5_init_33 : decode cX5_init 33 = .ok (.putfield 19, 3) := by decide +kernel
theorem dX5_init_36 : decode cX5_init 36 = .ok (.aload_n 0, 1) := by decide +kernel
theorem dX5_init_37 : decode cX5_init 37 = .ok (.bipush 8, 2) := by decide +kernel
theorem dX5_init_39 : decode cX5_init 39 = .ok (.newarray .boolean, 2) := by decide +kernel
theorem dX5_init_41 : decode cX5_init 41 = .ok (.putfield 22, 3) := by decide +kernel
theorem dX5_init_44 : decode cX5_init 44 = .ok (.aload_n 0, 1) := by decide +kernel
theorem dX5_init_45 : decode cX5_init 45 = .ok (.bipush 8, 2) := by decide +kernel
theorem dX5_init_47 : decode cX5_init 47 = .ok (.newarray .int, 2) := by decide +kernel
theorem dX5_init_49 : decode cX5_init 49 = .ok (.putfield 26, 3) := by decide +kernel
theorem dX5_init_52 : decode cX5_init 52 = .ok (.aload_n 0, 1) := by decide +kernel
theorem dX5_init_53 : decode cX5_init 53 = .ok (.bipush 80, 2) := by decide +kernel
theorem dX5_init_55 : decode cX5_init 55 = .ok (.newarray .int, 2) := by decide +kernel
theorem dX5_init_57 : decode cX5_init 57 = .ok (.putfield 29, 3) := by decide +kernel
theorem dX5_init_60 : decode cX5_init 60 = .ok (.aload_n 0, 1) := by decide +kernel
theorem dX5_init_61 : decode cX5_init 61 = .ok (.bipush 80, 2) := by decide +kernel
theorem dX5_init_63 : decode cX5_init 63 = .ok (.newarray .int, 2) := by decide +kernel
theorem dX5_init_65 : decode cX5_init 65 = .ok (.putfield 32, 3) := by decide +kernel
theorem dX5_init_68 : decode cX5_init 68 = .ok (.aload_n 0, 1) := by decide +kernel
theorem dX5_init_69 : decode cX5_init 69 = .ok (.iconst 3, 1) := by decide +kernel
theorem dX5_init_70 : decode cX5_init 70 = .ok (.newarray .int, 2) := by decide +kernel
theorem dX5_init_72 : decode cX5_init 72 = .ok (.putfield 35, 3) := by decide +kernel
theorem dX5_init_75 : decode cX5_init 75 = .ok (.aload_n 0, 1) := by decide +kernel
theorem dX5_init_76 : decode cX5_init 76 = .ok (.iconst 3, 1) := by decide +kernel
theorem dX5_init_77 : decode cX5_init 77 = .ok (.newarray .int, 2) := by decide +kernel
theorem dX5_init_79 : decode cX5_init 79 = .ok (.putfield 38, 3) := by decide +kernel
theorem dX5_init_82 : decode cX5_init 82 = .ok (.aload_n 0, 1) := by decide +kernel
theorem dX5_init_83 : decode cX5_init 83 = .ok (.iconst 3, 1) := by decide +kernel
theorem dX5_init_84 : decode cX5_init 84 = .ok (.newarray .int, 2) := by decide +kernel
theorem dX5_init_86 : decode cX5_init 86 = .ok (.putfield 41, 3) := by decide +kernel
theorem dX5_init_89 : decode cX5_init 89 = .ok (.aload_n 0, 1) := by decide +kernel
theorem dX5_init_90 : decode cX5_init 90 = .ok (.iconst 3, 1) := by decide +kernel
theorem dX5_init_91 : decode cX5_init 91 = .ok (.newarray .int, 2) := by decide +kernel
theorem dX5_init_93 : decode cX5_init 93 = .ok (.putfield 44, 3) := by decide +kernel
theorem dX5_init_96 : decode cX5_init 96 = .ok (.aload_n 0, 1) := by decide +kernel
theorem dX5_init_97 : decode cX5_init 97 = .ok (.iconst 3, 1) := by decide +kernel
theorem dX5_init_98 : decode cX5_init 98 = .ok (.newarray .int, 2) := by decide +kernel
theorem dX5_init_100 : decode cX5_init 100 = .ok (.putfield 47, 3) := by decide +kernel
theorem dX5_init_103 : decode cX5_init 103 = .ok (.aload_n 0, 1) := by decide +kernel
theorem dX5_init_104 : decode cX5_init 104 = .ok (.bipush 60, 2) := by decide +kernel
theorem dX5_init_106 : decode cX5_init 106 = .ok (.newarray .int, 2) := by decide +kernel
theorem dX5_init_108 : decode cX5_init 108 = .ok (.putfield 50, 3) := by decide +kernel
theorem dX5_init_111 : decode cX5_init 111 = .ok (.aload_n 0, 1) := by decide +kernel
theorem dX5_init_112 : decode cX5_init 112 = .ok (.bipush 60, 2) := by decide +kernel
theorem dX5_init_114 : decode cX5_init 114 = .ok (.newarray .int, 2) := by decide +kernel
theorem dX5_init_116 : decode cX5_init 116 = .ok (.putfield 53, 3) := by decide +kernel
theorem dX5_init_119 : decode cX5_init 119 = .ok (.aload_n 0, 1) := by decide +kernel
theorem dX5_init_120 : decode cX5_init 120 = .ok (.bipush 60, 2) := by decide +kernel
theorem dX5_init_122 : decode cX5_init 122 = .ok (.newarray .int, 2) := by decide +kernel
theorem dX5_init_124 : decode cX5_init 124 = .ok (.putfield 56, 3) := by decide +kernel
theorem dX5_init_127 : decode cX5_init 127 = .ok (.aload_n 0, 1) := by decide +kernel
theorem dX5_init_128 : decode cX5_init 128 = .ok (.bipush 60, 2) := by decide +kernel
theorem dX5_init_130 : decode cX5_init 130 = .ok (.newarray .boolean, 2) := by decide +kernel
theorem dX5_init_132 : decode cX5_init 132 = .ok (.putfield 59, 3) := by decide +kernel
theorem dX5_init_135 : decode cX5_init 135 = .ok (.aload_n 0, 1) := by decide +kernel
theorem dX5_init_136 : decode cX5_init 136 = .ok (.bipush 7, 2) := by decide +kernel
theorem dX5_init_138 : decode cX5_init 138 = .ok (.newarray .int, 2) := by decide +kernel
theorem dX5_init_140 : decode cX5_init 140 = .ok (.putfield 62, 3) := by decide +kernel
theorem dX5_init_143 : decode cX5_init 143 = .ok (.aload_n 0, 1) := by decide +kernel
theorem dX5_init_144 : decode cX5_init 144 = .ok (.bipush 7, 2) := by decide +kernel
theorem dX5_init_146 : decode cX5_init 146 = .ok (.newarray .int, 2) := by decide +kernel
theorem dX5_init_148 : decode cX5_init 148 = .ok (.putfield 65, 3) := by decide +kernel
theorem dX5_init_151 : decode cX5_init 151 = .ok (.aload_n 0, 1) := by decide +kernel
theorem dX5_init_152 : decode cX5_init 152 = .ok (.sipush 1024, 3) := by decide +kernel
theorem dX5_init_155 : decode cX5_init 155 = .ok (.newarray .int, 2) := by decide +kernel
theorem dX5_init_157 : decode cX5_init 157 = .ok (.putfield 68, 3) := by decide +kernel
theorem dX5_init_160 : decode cX5_init 160 = .ok (.aload_n 0, 1) := by decide +kernel
theorem dX5_init_161 : decode cX5_init 161 = .ok (.bipush 8, 2) := by decide +kernel
theorem dX5_init_163 : decode cX5_init 163 = .ok (.newarray .int, 2) := by decide +kernel
theorem dX5_init_165 : decode cX5_init 165 = .ok (.putfield 71, 3) := by decide +kernel
theorem dX5_init_168 : decode cX5_init 168 = .ok (.return_, 1) := by decide +kernel
theorem dX5_thrown_0 : decode cX5_thrown 0 = .ok (.aload_n 0, 1) := by decide +kernel
theorem dX5_thrown_1 : decode cX5_thrown 1 = .ok (.getfield 74, 3) := by decide +kernel
theorem dX5_thrown_4 : decode cX5_thrown 4 = .ok (.ireturn, 1) := by decide +kernel
theorem dX5_may_0 : decode cX5_may 0 = .ok (.aload_n 0, 1) := by decide +kernel
theorem dX5_may_1 : decode cX5_may 1 = .ok (.iload_n 1, 1) := by decide +kernel
theorem dX5_may_2 : decode cX5_may 2 = .ok (.ifCond .eq 7, 3) := by decide +kernel
theorem dX5_may_5 : decode cX5_may 5 = .ok (.iconst 0, 1) := by decide +kernel
theorem dX5_may_6 : decode cX5_may 6 = .ok (.goto 4, 3) := by decide +kernel
theorem dX5_may_9 : decode cX5_may 9 = .ok (.iconst 1, 1) := by decide +kernel
theorem dX5_may_10 : decode cX5_may 10 = .ok (.putfield 74, 3) := by decide +kernel
theorem dX5_may_13 : decode cX5_may 13 = .ok (.iload_n 1, 1) := by decide +kernel
theorem dX5_may_14 : decode cX5_may 14 = .ok (.ireturn, 1) := by decide +kernel
theorem dX5_mayBoth_0 : decode cX5_mayBoth 0 = .ok (.aload_n 0, 1) := by decide +kernel
theorem dX5_mayBoth_1 : decode cX5_mayBoth 1 = .ok (.iload_n 1, 1) := by decide +kernel
theorem dX5_mayBoth_2 : decode cX5_mayBoth 2 = .ok (.ifCond .ne 7, 3) := by decide +kernel
theorem dX5_mayBoth_5 : decode cX5_mayBoth 5 = .ok (.iconst 1, 1) := by decide +kernel
theorem dX5_mayBoth_6 : decode cX5_mayBoth 6 = .ok (.goto 12, 3) := by decide +kernel
theorem dX5_mayBoth_9 : decode cX5_mayBoth 9 = .ok (.iload_n 2, 1) := by decide +kernel
theorem dX5_mayBoth_10 : decode cX5_mayBoth 10 = .ok (.ifCond .ne 7, 3) := by decide +kernel
theorem dX5_mayBoth_13 : decode cX5_mayBoth 13 = .ok (.iconst 2, 1) := by decide +kernel
theorem dX5_mayBoth_14 : decode cX5_mayBoth 14 = .ok (.goto 4, 3) := by decide +kernel
theorem dX5_mayBoth_17 : decode cX5_mayBoth 17 = .ok (.iconst 0, 1) := by decide +kernel
theorem dX5_mayBoth_18 : decode cX5_mayBoth 18 = .ok (.putfield 74, 3) := by decide +kernel
theorem dX5_mayBoth_21 : decode cX5_mayBoth 21 = .ok (.aload_n 0, 1) := by decide +kernel
theorem dX5_mayBoth_22 : decode cX5_mayBoth 22 = .ok (.getfield 74, 3) := by decide +kernel
theorem dX5_mayBoth_25 : decode cX5_mayBoth 25 = .ok (.ifCond .ne 7, 3) := by decide +kernel
theorem dX5_mayBoth_28 : decode cX5_mayBoth 28 = .ok (.iconst 1, 1) := by decide +kernel
theorem dX5_mayBoth_29 : decode cX5_mayBoth 29 = .ok (.goto 4, 3) := by decide +kernel
theorem dX5_mayBoth_32 : decode cX5_mayBoth 32 = .ok (.iconst 0, 1) := by decide +kernel
theorem dX5_mayBoth_33 : decode cX5_mayBoth 33 = .ok (.ireturn, 1) := by decide +kernel
theorem dX5_mayAll_0 : decode cX5_mayAll 0 = .ok (.aload_n 0, 1) := by decide +kernel
theorem dX5_mayAll_1 : decode cX5_mayAll 1 = .ok (.iload_n 1, 1) := by decide +kernel
theorem dX5_mayAll_2 : decode cX5_mayAll 2 = .ok (.ifCond .ne 7, 3) := by decide +kernel
theorem dX5_mayAll_5 : decode cX5_mayAll 5 = .ok (.iconst 1, 1) := by decide +kernel
theorem dX5_mayAll_6 : decode cX5_mayAll 6 = .ok (.goto 20, 3) := by decide +kernel
theorem dX5_mayAll_9 : decode cX5_mayAll 9 = .ok (.iload_n 2, 1) := by decide +kernel
theorem dX5_mayAll_10 : decode cX5_mayAll 10 = .ok (.ifCond .ne 7, 3) := by decide +kernel
theorem dX5_mayAll_13 : decode cX5_mayAll 13 = .ok (.iconst 2, 1) := by decide +kernel
theorem dX5_mayAll_14 : decode cX5_mayAll 14 = .ok (.goto 12, 3) := by decide +kernel
theorem dX5_mayAll_17 : decode cX5_mayAll 17 = .ok (.iload_n 3, 1) := by decide +kernel
theorem dX5_mayAll_18 : decode cX5_mayAll 18 = .ok (.ifCond .ne 7, 3) := by decide +kernel
theorem dX5_mayAll_21 : decode cX5_mayAll 21 = .ok (.iconst 3, 1) := by decide +kernel
theorem dX5_mayAll_22 : decode cX5_mayAll 22 = .ok (.goto 4, 3) := by decide +kernel
theorem dX5_mayAll_25 : decode cX5_mayAll 25 = .ok (.iconst 0, 1) := by decide +kernel
theorem dX5_mayAll_26 : decode cX5_mayAll 26 = .ok (.putfield 74, 3) := by decide +kernel
theorem dX5_mayAll_29 : decode cX5_mayAll 29 = .ok (.aload_n 0, 1) := by decide +kernel
theorem dX5_mayAll_30 : decode cX5_mayAll 30 = .ok (.getfield 74, 3) := by decide +kernel
theorem dX5_mayAll_33 : decode cX5_mayAll 33 = .ok (.ifCond .ne 7, 3) := by decide +kernel
theorem dX5_mayAll_36 : decode cX5_mayAll 36 = .ok (.iconst 1, 1) := by decide +kernel
theorem dX5_mayAll_37 : decode cX5_mayAll 37 = .ok (.goto 4, 3) := by decide +kernel
theorem dX5_mayAll_40 : decode cX5_mayAll 40 = .ok (.iconst 0, 1) := by decide +kernel
theorem dX5_mayAll_41 : decode cX5_mayAll 41 = .ok (.ireturn, 1) := by decide +kernel
theorem dX5_isIn_0 : decode cX5_isIn 0 = .ok (.iload_n 0, 1) := by decide +kernel
theorem dX5_isIn_1 : decode cX5_isIn 1 = .ok (.iload_n 1, 1) := by decide +kernel
theorem dX5_isIn_2 : decode cX5_isIn 2 = .ok (.if_icmp .lt 12, 3) := by decide +kernel
theorem dX5_isIn_5 : decode cX5_isIn 5 = .ok (.iload_n 0, 1) := by decide +kernel
theorem dX5_isIn_6 : decode cX5_isIn 6 = .ok (.iload_n 2, 1) := by decide +kernel
theorem dX5_isIn_7 : decode cX5_isIn 7 = .ok (.if_icmp .gt 7, 3) := by decide +kernel
theorem dX5_isIn_10 : decode cX5_isIn 10 = .ok (.iconst 1, 1) := by decide +kernel
theorem dX5_isIn_11 : decode cX5_isIn 11 = .ok (.goto 4, 3) := by decide +kernel
theorem dX5_isIn_14 : decode cX5_isIn 14 = .ok (.iconst 0, 1) := by decide +kernel
theorem dX5_isIn_15 : decode cX5_isIn 15 = .ok (.ireturn, 1) := by decide +kernel
theorem dX5_size_0 : decode cX5_size 0 = .ok (.iload_n 0, 1) := by decide +kernel
theorem dX5_size_1 : decode cX5_size 1 = .ok (.ifCond .ge 8, 3) := by decide +kernel
theorem dX5_size_4 : decode cX5_size 4 = .ok (.iload_n 0, 1) := by decide +kernel
theorem dX5_size_5 : decode cX5_size 5 = .ok (.ineg, 1) := by decide +kernel
theorem dX5_size_6 : decode cX5_size 6 = .ok (.goto 4, 3) := by decide +kernel
theorem dX5_size_9 : decode cX5_size 9 = .ok (.iload_n 0, 1) := by decide +kernel
theorem dX5_size_10 : decode cX5_size 10 = .ok (.ireturn, 1) := by decide +kernel
set_option maxRecDepth 20000 in
theorem ggX5_isTape_X5_isIn : GoodIn wsX5_isTape wsX5_isIn := goodIn_r _ [5] (by decide +kernel) (by decide +kernel)
set_option maxRecDepth 20000 in
theorem gX5_isTape_X5_isIn : GoodIn wsX5_isTape (va_wsS RX5 81 yX5_isIn wsX5_isIn) := goodIn_app (goodIn_of _ (by decide +kernel)) ggX5_isTape_X5_isIn
theorem dX5_isTape_0 : decode cX5_isTape 0 = .ok (.iload_n 1, 1) := by decide +kernel
theorem dX5_isTape_1 : decode cX5_isTape 1 = .ok (.iconst 0, 1) := by decide +kernel
theorem dX5_isTape_2 : decode cX5_isTape 2 = .ok (.aload_n 0, 1) := by decide +kernel
theorem dX5_isTape_3 : decode cX5_isTape 3 = .ok (.getfield 78, 3) := by decide +kernel
theorem dX5_isTape_6 : decode cX5_isTape 6 = .ok (.iconst 1, 1) := by decide +kernel
theorem dX5_isTape_7 : decode cX5_isTape 7 = .ok (.isub, 1) := by decide +kernel
theorem dX5_isTape_8 : decode cX5_isTape 8 = .ok (.invokestatic 81, 3) := by decide +kernel
theorem dX5_isTape_11 : decode cX5_isTape 11 = .ok (.ireturn, 1) := by decide +kernel
set_option maxRecDepth 20000 in
theorem ggX5_isDrive_X5_isIn : GoodIn wsX5_isDrive wsX5_isIn := goodIn_r _ [5] (by decide +kernel) (by decide +kernel)
set_option maxRecDepth 20000 in
theorem gX5_isDrive_X5_isIn : GoodIn wsX5_isDrive (va_wsS RX5 81 yX5_isIn wsX5_isIn) := goodIn_app (goodIn_of _ (by decide +kernel)) ggX5_isDrive_X5_isIn
theorem dX5_isDrive_0 : decode cX5_isDrive 0 = .ok (.iload_n 1, 1) := by decide +kernel
theorem dX5_isDrive_1 : decode cX5_isDrive 1 = .ok (.iconst 0, 1) := by decide +kernel
theorem dX5_isDrive_2 : decode cX5_isDrive 2 = .ok (.aload_n 0, 1) := by decide +kernel
theorem dX5_isDrive_3 : decode cX5_isDrive 3 = .ok (.getfield 85, 3) := by decide +kernel
theorem dX5_isDrive_6 : decode cX5_isDrive 6 = .ok (.iconst 1, 1) := by decide +kernel
theorem dX5_isDrive_7 : decode cX5_isDrive 7 = .ok (.isub, 1) := by decide +kernel
theorem dX5_isDrive_8 : decode cX5_isDrive 8 = .ok (.invokestatic 81, 3) := by decide +kernel
theorem dX5_isDrive_11 : decode cX5_isDrive 11 = .ok (.ireturn, 1) := by decide +kernel
set_option maxRecDepth 20000 in
theorem ggX5_isFile_X5_isTape : GoodIn wsX5_isFile wsX5_isTape := goodIn_r _ [6, 7, 8, 9, 5, 10, 11, 12, 13, 14, 15, 16, 17, 18, 19, 20, 21, 22, 23, 24, 25, 26, 27, 28, 29, 30, 31, 32, 33, 34, 35, 36] (by decide +kernel) (by decide +kernel)
set_option maxRecDepth 20000 in
theorem gX5_isFile_X5_isTape : GoodIn wsX5_isFile (wsV RX5 88 RX5 yX5_isTape wsX5_isTape) := goodIn_app (goodIn_of _ (by decide +kernel)) ggX5_isFile_X5_isTape
set_option maxRecDepth 20000 in
theorem ggX5_isFile_X5_isIn : GoodIn wsX5_isFile wsX5_isIn := goodIn_r _ [10] (by decide +kernel) (by decide +kernel)
set_option maxRecDepth 20000 in
theorem gX5_isFile_X5_isIn : GoodIn wsX5_isFile (va_wsS RX5 81 yX5_isIn wsX5_isIn) := goodIn_app (goodIn_of _ (by decide +kernel)) ggX5_isFile_X5_isIn
theorem dX5_isFile_0 : decode cX5_isFile 0 = .ok (.aload_n 0, 1) := by decide +kernel
theorem dX5_isFile_1 : decode cX5_isFile 1 = .ok (.iload_n 1, 1) := by decide +kernel
theorem dX5_isFile_2 : decode cX5_isFile 2 = .ok (.invokevirtual 88, 3) := by decide +kernel
theorem dX5_isFile_5 : decode cX5_isFile 5 = .ok (.ifCond .eq 23, 3) := by decide +kernel
theorem dX5_isFile_8 : decode cX5_isFile 8 = .ok (.iload_n 2, 1) := by decide +kernel
theorem dX5_isFile_9 : decode cX5_isFile 9 = .ok (.iconst 0, 1) := by decide +kernel
theorem dX5_isFile_10 : decode cX5_isFile 10 = .ok (.aload_n 0, 1) := by decide +kernel
theorem dX5_isFile_11 : decode cX5_isFile 11 = .ok (.getfield 26, 3) := by decide +kernel
theorem dX5_isFile_14 : decode cX5_isFile 14 = .ok (.iload_n 1, 1) := by decide +kernel
theorem dX5_isFile_15 : decode cX5_isFile 15 = .ok (.iaload, 1) := by decide +kernel
theorem dX5_isFile_16 : decode cX5_isFile 16 = .ok (.iconst 1, 1) := by decide +kernel
theorem dX5_isFile_17 : decode cX5_isFile 17 = .ok (.isub, 1) := by decide +kernel
theorem dX5_isFile_18 : decode cX5_isFile 18 = .ok (.invokestatic 81, 3) := by decide +kernel
theorem dX5_isFile_21 : decode cX5_isFile 21 = .ok (.ifCond .eq 7, 3) := by decide +kernel
theorem dX5_isFile_24 : decode cX5_isFile 24 = .ok (.iconst 1, 1) := by decide +kernel
theorem dX5_isFile_25 : decode cX5_isFile 25 = .ok (.goto 4, 3) := by decide +kernel
theorem dX5_isFile_28 : decode cX5_isFile 28 = .ok (.iconst 0, 1) := by decide +kernel
theorem dX5_isFile_29 : decode cX5_isFile 29 = .ok (.ireturn, 1) := by decide +kernel
set_option maxRecDepth 20000 in
theorem ggX5_hasTape_X5_isDrive : GoodIn wsX5_hasTape wsX5_isDrive := goodIn_r _ [6, 7, 8, 9, 5, 10, 11, 12, 13, 14, 15, 16, 17, 18, 19, 20, 21, 22, 23, 24, 25, 26, 27, 28, 29, 30, 31, 32, 33, 34, 35, 36] (by decide +kernel) (by decide +kernel)
set_option maxRecDepth 20000 in
theorem gX5_hasTape_X5_isDrive : GoodIn wsX5_hasTape (wsV RX5 92 RX5 yX5_isDrive wsX5_isDrive) := goodIn_app (goodIn_of _ (by decide +kernel)) ggX5_hasTape_X5_isDrive
theorem dX5_hasTape_0 : decode cX5_hasTape 0 = .ok (.aload_n 0, 1) := by decide +kernel
theorem dX5_hasTape_1 : decode cX5_hasTape 1 = .ok (.iload_n 1, 1) := by decide +kernel
theorem dX5_hasTape_2 : decode cX5_hasTape 2 = .ok (.invokevirtual 92, 3) := by decide +kernel
theorem dX5_hasTape_5 : decode cX5_hasTape 5 = .ok (.ifCond .eq 17, 3) := by decide +kernel
theorem dX5_hasTape_8 : decode cX5_hasTape 8 = .ok (.aload_n 0, 1) := by decide +kernel
theorem dX5_hasTape_9 : decode cX5_hasTape 9 = .ok (.getfield 44, 3) := by decide +kernel
theorem dX5_hasTape_12 : decode cX5_hasTape 12 = .ok (.iload_n 1, 1) := by decide +kernel
theorem dX5_hasTape_13 : decode cX5_hasTape 13 = .ok (.iaload, 1) := by decide +kernel
theorem dX5_hasTape_14 : decode cX5_hasTape 14 = .ok (.iconst (-1), 1) := by decide +kernel
theorem dX5_hasTape_15 : decode cX5_hasTape 15 = .ok (.if_icmp .eq 7, 3) := by decide +kernel
theorem dX5_hasTape_18 : decode cX5_hasTape 18 = .ok (.iconst 1, 1) := by decide +kernel
theorem dX5_hasTape_19 : decode cX5_hasTape 19 = .ok (.goto 4, 3) := by decide +kernel
theorem dX5_hasTape_22 : decode cX5_hasTape 22 = .ok (.iconst 0, 1) := by decide +kernel
theorem dX5_hasTape_23 : decode cX5_hasTape 23 = .ok (.ireturn, 1) := by decide +kernel
theorem dX5_isClean_0 : decode cX5_isClean 0 = .ok (.aload_n 0, 1) := by decide +kernel
theorem dX5_isClean_1 : decode cX5_isClean 1 = .ok (.getfield 41, 3) := by decide +kernel
theorem dX5_isClean_4 : decode cX5_isClean 4 = .ok (.iload_n 1, 1) := by decide +kernel
theorem dX5_isClean_5 : decode cX5_isClean 5 = .ok (.iaload, 1) := by decide +kernel
theorem dX5_isClean_6 : decode cX5_isClean 6 = .ok (.bipush 12, 2) := by decide +kernel
theorem dX5_isClean_8 : decode cX5_isClean 8 = .ok (.if_icmp .ge 7, 3) := by decide +kernel
theorem dX5_isClean_11 : decode cX5_isClean 11 = .ok (.iconst 1, 1) := by decide +kernel
theorem dX5_isClean_12 : decode cX5_isClean 12 = .ok (.goto 4, 3) := by decide +kernel
theorem dX5_isClean_15 : decode cX5_isClean 15 = .ok (.iconst 0, 1) := by decide +kernel
theorem dX5_isClean_16 : decode cX5_isClean 16 = .ok (.ireturn, 1) := by decide +kernel
theorem dX5_isFree_0 : decode cX5_isFree 0 = .ok (.iconst 0, 1) := by decide +kernel
theorem dX5_isFree_1 : decode cX5_isFree 1 = .ok (.istore_n 2, 1) := by decide +kernel
theorem dX5_isFree_2 : decode cX5_isFree 2 = .ok (.iload_n 2, 1) := by decide +kernel
theorem dX5_isFree_3 : decode cX5_isFree 3 = .ok (.aload_n 0, 1) := by decide +kernel
theorem dX5_isFree_4 : decode cX5_isFree 4 = .ok (.getfield 78, 3) := by decide +kernel
theorem dX5_isFree_7 : decode cX5_isFree 7 = .ok (.if_icmp .ge 21, 3) := by decide +kernel
theorem dX5_isFree_10 : decode cX5_isFree 10 = .ok (.aload_n 0, 1) := by decide +kernel
theorem dX5_isFree_11 : decode cX5_isFree 11 = .ok (.getfield 16, 3) := by decide +kernel
theorem dX5_isFree_14 : decode cX5_isFree 14 = .ok (.iload_n 2, 1) := by decide +kernel
theorem dX5_isFree_15 : decode cX5_isFree 15 = .ok (.iaload, 1) := by decide +kernel
theorem dX5_isFree_16 : decode cX5_isFree 16 = .ok (.iload_n 1, 1) := by decide +kernel
theorem dX5_isFree_17 : decode cX5_isFree 17 = .ok (.if_icmp .ne 5, 3) := by decide +kernel
theorem dX5_isFree_20 : decode cX5_isFree 20 = .ok (.iconst 0, 1) := by decide +kernel
theorem dX5_isFree_21 : decode cX5_isFree 21 = .ok (.ireturn, 1) := by decide +kernel
theorem dX5_isFree_22 : decode cX5_isFree 22 = .ok (.iinc 2 1, 3) := by decide +kernel
theorem dX5_isFree_25 : decode cX5_isFree 25 = .ok (.goto (-23), 3) := by decide +kernel
theorem dX5_isFree_28 : decode cX5_isFree 28 = .ok (.iconst 1, 1) := by decide +kernel
theorem dX5_isFree_29 : decode cX5_isFree 29 = .ok (.ireturn, 1) := by decide +kernel
set_option maxRecDepth 20000 in
theorem ggX5_tape_X5_isIn : GoodIn wsX5_tape wsX5_isIn := goodIn_r _ [9] (by decide +kernel) (by decide +kernel)
set_option maxRecDepth 20000 in
theorem gX5_tape_X5_isIn : GoodIn wsX5_tape (va_wsS RX5 81 yX5_isIn wsX5_isIn) := goodIn_app (goodIn_of _ (by decide +kernel)) ggX5_tape_X5_isIn
set_option maxRecDepth 20000 in
theorem ggX5_tape_X5_mayBoth : GoodIn wsX5_tape wsX5_mayBoth := goodIn_r _ [13, 14, 19, 20, 21, 22, 23, 24, 25, 26, 27, 28, 29, 30, 31, 32, 33, 34, 35, 36, 37, 38, 39, 40, 41, 42, 43, 44] (by decide +kernel) (by decide +kernel)
set_option maxRecDepth 20000 in
theorem gX5_tape_X5_mayBoth : GoodIn wsX5_tape (wsV RX5 95 RX5 yX5_mayBoth wsX5_mayBoth) := goodIn_app (goodIn_of _ (by decide +kernel)) ggX5_tape_X5_mayBoth
set_option maxRecDepth 20000 in
theorem ggX5_tape_X5_isFree : GoodIn wsX5_tape wsX5_isFree := goodIn_r _ [18, 1, 4, 19, 20, 21, 22, 23, 24, 25, 26, 27, 28, 29, 30, 31, 32, 33, 34, 35, 36, 37, 38, 39, 40, 41, 42, 43, 44] (by decide +kernel) (by decide +kernel)
set_option maxRecDepth 20000 in
theorem gX5_tape_X5_isFree : GoodIn wsX5_tape (wsV RX5 99 RX5 yX5_isFree wsX5_isFree) := goodIn_app (goodIn_of _ (by decide +kernel)) ggX5_tape_X5_isFree
theorem dX5_tape_0 : decode cX5_tape 0 = .ok (.aload_n 0, 1) := by decide +kernel
theorem dX5_tape_1 : decode cX5_tape 1 = .ok (.iload_n 1, 1) := by decide +kernel
theorem dX5_tape_2 : decode cX5_tape 2 = .ok (.iconst 1, 1) := by decide +kernel
theorem dX5_tape_3 : decode cX5_tape 3 = .ok (.bipush 8, 2) := by decide +kernel
theorem dX5_tape_5 : decode cX5_tape 5 = .ok (.invokestatic 81, 3) := by decide +kernel
theorem dX5_tape_8 : decode cX5_tape 8 = .ok (.ifCond .eq 18, 3) := by decide +kernel
theorem dX5_tape_11 : decode cX5_tape 11 = .ok (.iload_n 2, 1) := by decide +kernel
theorem dX5_tape_12 : decode cX5_tape 12 = .ok (.iconst 4, 1) := by decide +kernel
theorem dX5_tape_13 : decode cX5_tape 13 = .ok (.sipush 200, 3) := by decide +kernel
theorem dX5_tape_16 : decode cX5_tape 16 = .ok (.invokestatic 81, 3) := by decide +kernel
theorem dX5_tape_19 : decode cX5_tape 19 = .ok (.ifCond .eq 7, 3) := by decide +kernel
theorem dX5_tape_22 : decode cX5_tape 22 = .ok (.iconst 1, 1) := by decide +kernel
theorem dX5_tape_23 : decode cX5_tape 23 = .ok (.goto 4, 3) := by decide +kernel
theorem dX5_tape_26 : decode cX5_tape 26 = .ok (.iconst 0, 1) := by decide +kernel
theorem dX5_tape_27 : decode cX5_tape 27 = .ok (.aload_n 0, 1) := by decide +kernel
theorem dX5_tape_28 : decode cX5_tape 28 = .ok (.getfield 78, 3) := by decide +kernel
theorem dX5_tape_31 : decode cX5_tape 31 = .ok (.bipush 8, 2) := by decide +kernel
theorem dX5_tape_33 : decode cX5_tape 33 = .ok (.if_icmp .ge 7, 3) := by decide +kernel
theorem dX5_tape_36 : decode cX5_tape 36 = .ok (.iconst 1, 1) := by decide +kernel
theorem dX5_tape_37 : decode cX5_tape 37 = .ok (.goto 4, 3) := by decide +kernel
theorem dX5_tape_40 : decode cX5_tape 40 = .ok (.iconst 0, 1) := by decide +kernel
theorem dX5_tape_41 : decode cX5_tape 41 = .ok (.invokevirtual 95, 3) := by decide +kernel
theorem dX5_tape_44 : decode cX5_tape 44 = .ok (.ifCond .ne 5, 3) := by decide +kernel
theorem dX5_tape_47 : decode cX5_tape 47 = .ok (.iconst 0, 1) := by decide +kernel
theorem dX5_tape_48 : decode cX5_tape 48 = .ok (.ireturn, 1) := by decide +kernel
theorem dX5_tape_49 : decode cX5_tape 49 = .ok (.iconst 0, 1) := by decide +kernel
theorem dX5_tape_50 : decode cX5_tape 50 = .ok (.istore_n 3, 1) := by decide +kernel
theorem dX5_tape_51 : decode cX5_tape 51 = .ok (.aload_n 0, 1) := by decide +kernel
theorem dX5_tape_52 : decode cX5_tape 52 = .ok (.iload_n 3, 1) := by decide +kernel
theorem dX5_tape_53 : decode cX5_tape 53 = .ok (.invokevirtual 99, 3) := by decide +kernel
theorem dX5_tape_56 : decode cX5_tape 56 = .ok (.ifCond .ne 9, 3) := by decide +kernel
theorem dX5_tape_59 : decode cX5_tape 59 = .ok (.iinc 3 1, 3) := by decide +kernel
theorem dX5_tape_62 : decode cX5_tape 62 = .ok (.goto (-11), 3) := by decide +kernel
theorem dX5_tape_65 : decode cX5_tape 65 = .ok (.aload_n 0, 1) := by decide +kernel
theorem dX5_tape_66 : decode cX5_tape 66 = .ok (.getfield 7, 3) := by decide +kernel
theorem dX5_tape_69 : decode cX5_tape 69 = .ok (.aload_n 0, 1) := by decide +kernel
theorem dX5_tape_70 : decode cX5_tape 70 = .ok (.getfield 78, 3) := by decide +kernel
theorem dX5_tape_73 : decode cX5_tape 73 = .ok (.iload_n 1, 1) := by decide +kernel
theorem dX5_tape_74 : decode cX5_tape 74 = .ok (.iastore, 1) := by decide +kernel
theorem dX5_tape_75 : decode cX5_tape 75 = .ok (.aload_n 0, 1) := by decide +kernel
theorem dX5_tape_76 : decode cX5_tape 76 = .ok (.getfield 13, 3) := by decide +kernel
theorem dX5_tape_79 : decode cX5_tape 79 = .ok (.aload_n 0, 1) := by decide +kernel
theorem dX5_tape_80 : decode cX5_tape 80 = .ok (.getfield 78, 3) := by decide +kernel
theorem dX5_tape_83 : decode cX5_tape 83 = .ok (.iload_n 2, 1) := by decide +kernel
theorem dX5_tape_84 : decode cX5_tape 84 = .ok (.iastore, 1) := by decide +kernel
theorem dX5_tape_85 : decode cX5_tape 85 = .ok (.aload_n 0, 1) := by decide +kernel
theorem dX5_tape_86 : decode cX5_tape 86 = .ok (.getfield 16, 3) := by decide +kernel
theorem dX5_tape_89 : decode cX5_tape 89 = .ok (.aload_n 0, 1) := by decide +kernel
theorem dX5_tape_90 : decode cX5_tape 90 = .ok (.getfield 78, 3) := by decide +kernel
theorem dX5_tape_93 : decode cX5_tape 93 = .ok (.iload_n 3, 1) := by decide +kernel
theorem dX5_tape_94 : decode cX5_tape 94 = .ok (.iastore, 1) := by decide +kernel
theorem dX5_tape_95 : decode cX5_tape 95 = .ok (.aload_n 0, 1) := by decide +kernel
theorem dX5_tape_96 : decode cX5_tape 96 = .ok (.getfield 19, 3) := by decide +kernel
theorem dX5_tape_99 : decode cX5_tape 99 = .ok (.aload_n 0, 1) := by decide +kernel
theorem dX5_tape_100 : decode cX5_tape 100 = .ok (.getfield 78, 3) := by decide +kernel
theorem dX5_tape_103 : decode cX5_tape 103 = .ok (.iconst (-1), 1) := by decide +kernel
theorem dX5_tape_104 : decode cX5_tape 104 = .ok (.iastore, 1) := by decide +kernel
theorem dX5_tape_105 : decode cX5_tape 105 = .ok (.aload_n 0, 1) := by decide +kernel
theorem dX5_tape_106 : decode cX5_tape 106 = .ok (.dup, 1) := by decide +kernel
theorem dX5_tape_107 : decode cX5_tape 107 = .ok (.getfield 78, 3) := by decide +kernel
theorem dX5_tape_110 : decode cX5_tape 110 = .ok (.iconst 1, 1) := by decide +kernel
theorem dX5_tape_111 : decode cX5_tape 111 = .ok (.iadd, 1) := by decide +kernel
theorem dX5_tape_112 : decode cX5_tape 112 = .ok (.putfield 78, 3) := by decide +kernel
theorem dX5_tape_115 : decode cX5_tape 115 = .ok (.aload_n 0, 1) := by decide +kernel
theorem dX5_tape_116 : decode cX5_tape 116 = .ok (.getfield 78, 3) := by decide +kernel
theorem dX5_tape_119 : decode cX5_tape 119 = .ok (.iconst 1, 1) := by decide +kernel
theorem dX5_tape_120 : decode cX5_tape 120 = .ok (.isub, 1) := by decide +kernel
theorem dX5_tape_121 : decode cX5_tape 121 = .ok (.ireturn, 1) := by decide +kernel
set_option maxRecDepth 20000 in
theorem ggX5_carry_X5_isTape : GoodIn wsX5_carry wsX5_isTape := goodIn_r _ [7, 8, 9, 10, 6, 11, 21, 22, 23, 24, 25, 26, 27, 28, 29, 30, 31, 32, 33, 34, 35, 36, 37, 38, 39, 40, 41, 42, 43, 44, 45, 46] (by decide +kernel) (by decide +kernel)
set_option maxRecDepth 20000 in
theorem gX5_carry_X5_isTape : GoodIn wsX5_carry (wsV RX5 88 RX5 yX5_isTape wsX5_isTape) := goodIn_app (goodIn_of _ (by decide +kernel)) ggX5_carry_X5_isTape
set_option maxRecDepth 20000 in
theorem ggX5_carry_X5_isIn : GoodIn wsX5_carry wsX5_isIn := goodIn_r _ [11] (by decide +kernel) (by decide +kernel)
set_option maxRecDepth 20000 in
theorem gX5_carry_X5_isIn : GoodIn wsX5_carry (va_wsS RX5 81 yX5_isIn wsX5_isIn) := goodIn_app (goodIn_of _ (by decide +kernel)) ggX5_carry_X5_isIn
set_option maxRecDepth 20000 in
theorem ggX5_carry_X5_isFree : GoodIn wsX5_carry wsX5_isFree := goodIn_r _ [15, 8, 2, 21, 22, 23, 24, 25, 26, 27, 28, 29, 30, 31, 32, 33, 34, 35, 36, 37, 38, 39, 40, 41, 42, 43, 44, 45, 46] (by decide +kernel) (by decide +kernel)
set_option maxRecDepth 20000 in
theorem gX5_carry_X5_isFree : GoodIn wsX5_carry (wsV RX5 99 RX5 yX5_isFree wsX5_isFree) := goodIn_app (goodIn_of _ (by decide +kernel)) ggX5_carry_X5_isFree
set_option maxRecDepth 20000 in
theorem ggX5_carry_X5_mayBoth : GoodIn wsX5_carry wsX5_mayBoth := goodIn_r _ [19, 20, 21, 22, 23, 24, 25, 26, 27, 28, 29, 30, 31, 32, 33, 34, 35, 36, 37, 38, 39, 40, 41, 42, 43, 44, 45, 46] (by decide +kernel) (by decide +kernel)
set_option maxRecDepth 20000 in
theorem gX5_carry_X5_mayBoth : GoodIn wsX5_carry (wsV RX5 95 RX5 yX5_mayBoth wsX5_mayBoth) := goodIn_app (goodIn_of _ (by decide +kernel)) ggX5_carry_X5_mayBoth
theorem dX5_carry_0 : decode cX5_carry 0 = .ok (.aload_n 0, 1) := by decide +kernel
theorem dX5_carry_1 : decode cX5_carry 1 = .ok (.iload_n 1, 1) := by decide +kernel
theorem dX5_carry_2 : decode cX5_carry 2 = .ok (.invokevirtual 88, 3) := by decide +kernel
theorem dX5_carry_5 : decode cX5_carry 5 = .ok (.ifCond .eq 17, 3) := by decide +kernel
theorem dX5_carry_8 : decode cX5_carry 8 = .ok (.iload_n 2, 1) := by decide +kernel
theorem dX5_carry_9 : decode cX5_carry 9 = .ok (.iconst 0, 1) := by decide +kernel
theorem dX5_carry_10 : decode cX5_carry 10 = .ok (.bipush 11, 2) := by decide +kernel
theorem dX5_carry_12 : decode cX5_carry 12 = .ok (.invokestatic 81, 3) := by decide +kernel
theorem dX5_carry_15 : decode cX5_carry 15 = .ok (.ifCond .eq 7, 3) := by decide +kernel
theorem dX5_carry_18 : decode cX5_carry 18 = .ok (.iconst 1, 1) := by decide +kernel
theorem dX5_carry_19 : decode cX5_carry 19 = .ok (.goto 4, 3) := by decide +kernel
theorem dX5_carry_22 : decode cX5_carry 22 = .ok (.iconst 0, 1) := by decide +kernel
theorem dX5_carry_23 : decode cX5_carry 23 = .ok (.istore_n 3, 1) := by decide +kernel
theorem dX5_carry_24 : decode cX5_carry 24 = .ok (.aload_n 0, 1) := by decide +kernel
theorem dX5_carry_25 : decode cX5_carry 25 = .ok (.iload_n 3, 1) := by decide +kernel
theorem dX5_carry_26 : decode cX5_carry 26 = .ok (.iload_n 3, 1) := by decide +kernel
theorem dX5_carry_27 : decode cX5_carry 27 = .ok (.ifCond .eq 25, 3) := by decide +kernel
theorem dX5_carry_30 : decode cX5_carry 30 = .ok (.aload_n 0, 1) := by decide +kernel
theorem dX5_carry_31 : decode cX5_carry 31 = .ok (.getfield 19, 3) := by decide +kernel
theorem dX5_carry_34 : decode cX5_carry 34 = .ok (.iload_n 1, 1) := by decide +kernel
theorem dX5_carry_35 : decode cX5_carry 35 = .ok (.iaload, 1) := by decide +kernel
theorem dX5_carry_36 : decode cX5_carry 36 = .ok (.iconst (-1), 1) := by decide +kernel
theorem dX5_carry_37 : decode cX5_carry 37 = .ok (.if_icmp .ne 15, 3) := by decide +kernel
theorem dX5_carry_40 : decode cX5_carry 40 = .ok (.aload_n 0, 1) := by decide +kernel
theorem dX5_carry_41 : decode cX5_carry 41 = .ok (.iload_n 2, 1) := by decide +kernel
theorem dX5_carry_42 : decode cX5_carry 42 = .ok (.invokevirtual 99, 3) := by decide +kernel
theorem dX5_carry_45 : decode cX5_carry 45 = .ok (.ifCond .eq 7, 3) := by decide +kernel
theorem dX5_carry_48 : decode cX5_carry 48 = .ok (.iconst 1, 1) := by decide +kernel
theorem dX5_carry_49 : decode cX5_carry 49 = .ok (.goto 4, 3) := by decide +kernel
theorem dX5_carry_52 : decode cX5_carry 52 = .ok (.iconst 0, 1) := by decide +kernel
theorem dX5_carry_53 : decode cX5_carry 53 = .ok (.invokevirtual 95, 3) := by decide +kernel
theorem dX5_carry_56 : decode cX5_carry 56 = .ok (.ifCond .ne 5, 3) := by decide +kernel
theorem dX5_carry_59 : decode cX5_carry 59 = .ok (.iconst 0, 1) := by decide +kernel
theorem dX5_carry_60 : decode cX5_carry 60 = .ok (.ireturn, 1) := by decide +kernel
theorem dX5_carry_61 : decode cX5_carry 61 = .ok (.aload_n 0, 1) := by decide +kernel
theorem dX5_carry_62 : decode cX5_carry 62 = .ok (.getfield 16, 3) := by decide +kernel
theorem dX5_carry_65 : decode cX5_carry 65 = .ok (.iload_n 1, 1) := by decide +kernel
theorem dX5_carry_66 : decode cX5_carry 66 = .ok (.iaload, 1) := by decide +kernel
theorem dX5_carry_67 : decode cX5_carry 67 = .ok (.istore 4, 2) := by decide +kernel
theorem dX5_carry_69 : decode cX5_carry 69 = .ok (.aload_n 0, 1) := by decide +kernel
theorem dX5_carry_70 : decode cX5_carry 70 = .ok (.getfield 16, 3) := by decide +kernel
theorem dX5_carry_73 : decode cX5_carry 73 = .ok (.iload_n 1, 1) := by decide +kernel
theorem dX5_carry_74 : decode cX5_carry 74 = .ok (.iload_n 2, 1) := by decide +kernel
theorem dX5_carry_75 : decode cX5_carry 75 = .ok (.iastore, 1) := by decide +kernel
theorem dX5_carry_76 : decode cX5_carry 76 = .ok (.iload 4, 2) := by decide +kernel
theorem dX5_carry_78 : decode cX5_carry 78 = .ok (.ireturn, 1) := by decide +kernel
set_option maxRecDepth 20000 in
theorem ggX5_placeOf_X5_isTape : GoodIn wsX5_placeOf wsX5_isTape := goodIn_r _ [7, 8, 9, 10, 6, 11, 17, 18, 19, 20, 21, 22, 23, 24, 25, 26, 27, 28, 29, 30, 31, 32, 33, 34, 35, 36, 37, 38, 39, 40, 41, 42] (by decide +kernel) (by decide +kernel)
set_option maxRecDepth 20000 in
theorem gX5_placeOf_X5_isTape : GoodIn wsX5_placeOf (wsV RX5 88 RX5 yX5_isTape wsX5_isTape) := goodIn_app (goodIn_of _ (by decide +kernel)) ggX5_placeOf_X5_isTape
set_option maxRecDepth 20000 in
theorem ggX5_placeOf_X5_may : GoodIn wsX5_placeOf wsX5_may := goodIn_r _ [15, 16, 17, 18, 19, 20, 21, 22, 23, 24, 25, 26, 27, 28, 29, 30, 31, 32, 33, 34, 35, 36, 37, 38, 39, 40, 41, 42] (by decide +kernel) (by decide +kernel)
set_option maxRecDepth 20000 in
theorem gX5_placeOf_X5_may : GoodIn wsX5_placeOf (wsV RX5 102 RX5 yX5_may wsX5_may) := goodIn_app (goodIn_of _ (by decide +kernel)) ggX5_placeOf_X5_may
theorem dX5_placeOf_0 : decode cX5_placeOf 0 = .ok (.aload_n 0, 1) := by decide +kernel
theorem dX5_placeOf_1 : decode cX5_placeOf 1 = .ok (.aload_n 0, 1) := by decide +kernel
theorem dX5_placeOf_2 : decode cX5_placeOf 2 = .ok (.iload_n 1, 1) := by decide +kernel
theorem dX5_placeOf_3 : decode cX5_placeOf 3 = .ok (.invokevirtual 88, 3) := by decide +kernel
theorem dX5_placeOf_6 : decode cX5_placeOf 6 = .ok (.invokevirtual 102, 3) := by decide +kernel
theorem dX5_placeOf_9 : decode cX5_placeOf 9 = .ok (.ifCond .ne 5, 3) := by decide +kernel
theorem dX5_placeOf_12 : decode cX5_placeOf 12 = .ok (.iconst 0, 1) := by decide +kernel
theorem dX5_placeOf_13 : decode cX5_placeOf 13 = .ok (.ireturn, 1) := by decide +kernel
theorem dX5_placeOf_14 : decode cX5_placeOf 14 = .ok (.aload_n 0, 1) := by decide +kernel
theorem dX5_placeOf_15 : decode cX5_placeOf 15 = .ok (.getfield 19, 3) := by decide +kernel
theorem dX5_placeOf_18 : decode cX5_placeOf 18 = .ok (.iload_n 1, 1) := by decide +kernel
theorem dX5_placeOf_19 : decode cX5_placeOf 19 = .ok (.iaload, 1) := by decide +kernel
theorem dX5_placeOf_20 : decode cX5_placeOf 20 = .ok (.iconst (-1), 1) := by decide +kernel
theorem dX5_placeOf_21 : decode cX5_placeOf 21 = .ok (.if_icmp .ne 12, 3) := by decide +kernel
theorem dX5_placeOf_24 : decode cX5_placeOf 24 = .ok (.aload_n 0, 1) := by decide +kernel
theorem dX5_placeOf_25 : decode cX5_placeOf 25 = .ok (.getfield 16, 3) := by decide +kernel
theorem dX5_placeOf_28 : decode cX5_placeOf 28 = .ok (.iload_n 1, 1) := by decide +kernel
theorem dX5_placeOf_29 : decode cX5_placeOf 29 = .ok (.iaload, 1) := by decide +kernel
theorem dX5_placeOf_30 : decode cX5_placeOf 30 = .ok (.goto 11, 3) := by decide +kernel
theorem dX5_placeOf_33 : decode cX5_placeOf 33 = .ok (.iconst (-1), 1) := by decide +kernel
theorem dX5_placeOf_34 : decode cX5_placeOf 34 = .ok (.aload_n 0, 1) := by decide +kernel
theorem dX5_placeOf_35 : decode cX5_placeOf 35 = .ok (.getfield 19, 3) := by decide +kernel
theorem dX5_placeOf_38 : decode cX5_placeOf 38 = .ok (.iload_n 1, 1) := by decide +kernel
theorem dX5_placeOf_39 : decode cX5_placeOf 39 = .ok (.iaload, 1) := by decide +kernel
theorem dX5_placeOf_40 : decode cX5_placeOf 40 = .ok (.isub, 1) := by decide +kernel
theorem dX5_placeOf_41 : decode cX5_placeOf 41 = .ok (.ireturn, 1) := by decide +kernel
set_option maxRecDepth 20000 in
theorem ggX5_files_X5_isTape : GoodIn wsX5_files wsX5_isTape := goodIn_r _ [6, 7, 8, 9, 5, 10, 16, 17, 18, 19, 20, 21, 22, 23, 24, 25, 26, 27, 28, 29, 30, 31, 32, 33, 34, 35, 36, 37, 38, 39, 40, 41] (by decide +kernel) (by decide +kernel)
set_option maxRecDepth 20000 in
theorem gX5_files_X5_isTape : GoodIn wsX5_files (wsV RX5 88 RX5 yX5_isTape wsX5_isTape) := goodIn_app (goodIn_of _ (by decide +kernel)) ggX5_files_X5_isTape
set_option maxRecDepth 20000 in
theorem ggX5_files_X5_may : GoodIn wsX5_files wsX5_may := goodIn_r _ [14, 15, 16, 17, 18, 19, 20, 21, 22, 23, 24, 25, 26, 27, 28, 29, 30, 31, 32, 33, 34, 35, 36, 37, 38, 39, 40, 41] (by decide +kernel) (by decide +kernel)
set_option maxRecDepth 20000 in
theorem gX5_files_X5_may : GoodIn wsX5_files (wsV RX5 102 RX5 yX5_may wsX5_may) := goodIn_app (goodIn_of _ (by decide +kernel)) ggX5_files_X5_may
theorem dX5_files_0 : decode cX5_files 0 = .ok (.aload_n 0, 1) := by decide +kernel
theorem dX5_files_1 : decode cX5_files 1 = .ok (.aload_n 0, 1) := by decide +kernel
theorem dX5_files_2 : decode cX5_files 2 = .ok (.iload_n 1, 1) := by decide +kernel
theorem dX5_files_3 : decode cX5_files 3 = .ok (.invokevirtual 88, 3) := by decide +kernel
theorem dX5_files_6 : decode cX5_files 6 = .ok (.invokevirtual 102, 3) := by decide +kernel
theorem dX5_files_9 : decode cX5_files 9 = .ok (.ifCond .eq 12, 3) := by decide +kernel
theorem dX5_files_12 : decode cX5_files 12 = .ok (.aload_n 0, 1) := by decide +kernel
theorem dX5_files_13 : decode cX5_files 13 = .ok (.getfield 26, 3) := by decide +kernel
theorem dX5_files_16 : decode cX5_files 16 = .ok (.iload_n 1, 1) := by decide +kernel
theorem dX5_files_17 : decode cX5_files 17 = .ok (.iaload, 1) := by decide +kernel
theorem dX5_files_18 : decode cX5_files 18 = .ok (.goto 4, 3) := by decide +kernel
theorem dX5_files_21 : decode cX5_files 21 = .ok (.iconst 0, 1) := by decide +kernel
theorem dX5_files_22 : decode cX5_files 22 = .ok (.ireturn, 1) := by decide +kernel
set_option maxRecDepth 20000 in
theorem ggX5_start_X5_isFile : GoodIn wsX5_start wsX5_isFile := goodIn_r _ [6, 7, 8, 9, 10, 5, 11, 12, 13, 14, 15, 21, 22, 23, 24, 25, 26, 27, 28, 29, 30, 31, 32, 33, 34, 35, 36, 37, 38, 39, 40, 41, 42, 43, 44, 45, 46] (by decide +kernel) (by decide +kernel)
set_option maxRecDepth 20000 in
theorem gX5_start_X5_isFile : GoodIn wsX5_start (wsV RX5 106 RX5 yX5_isFile wsX5_isFile) := goodIn_app (goodIn_of _ (by decide +kernel)) ggX5_start_X5_isFile
set_option maxRecDepth 20000 in
theorem ggX5_start_X5_may : GoodIn wsX5_start wsX5_may := goodIn_r _ [19, 20, 21, 22, 23, 24, 25, 26, 27, 28, 29, 30, 31, 32, 33, 34, 35, 36, 37, 38, 39, 40, 41, 42, 43, 44, 45, 46] (by decide +kernel) (by decide +kernel)
set_option maxRecDepth 20000 in
theorem gX5_start_X5_may : GoodIn wsX5_start (wsV RX5 102 RX5 yX5_may wsX5_may) := goodIn_app (goodIn_of _ (by decide +kernel)) ggX5_start_X5_may
theorem dX5_start_0 : decode cX5_start 0 = .ok (.aload_n 0, 1) := by decide +kernel
theorem dX5_start_1 : decode cX5_start 1 = .ok (.aload_n 0, 1) := by decide +kernel
theorem dX5_start_2 : decode cX5_start 2 = .ok (.iload_n 1, 1) := by decide +kernel
theorem dX5_start_3 : decode cX5_start 3 = .ok (.iload_n 2, 1) := by decide +kernel
theorem dX5_start_4 : decode cX5_start 4 = .ok (.invokevirtual 106, 3) := by decide +kernel
theorem dX5_start_7 : decode cX5_start 7 = .ok (.invokevirtual 102, 3) := by decide +kernel
theorem dX5_start_10 : decode cX5_start 10 = .ok (.ifCond .eq 17, 3) := by decide +kernel
theorem dX5_start_13 : decode cX5_start 13 = .ok (.aload_n 0, 1) := by decide +kernel
theorem dX5_start_14 : decode cX5_start 14 = .ok (.getfield 29, 3) := by decide +kernel
theorem dX5_start_17 : decode cX5_start 17 = .ok (.bipush 10, 2) := by decide +kernel
theorem dX5_start_19 : decode cX5_start 19 = .ok (.iload_n 1, 1) := by decide +kernel
theorem dX5_start_20 : decode cX5_start 20 = .ok (.imul, 1) := by decide +kernel
theorem dX5_start_21 : decode cX5_start 21 = .ok (.iload_n 2, 1) := by decide +kernel
theorem dX5_start_22 : decode cX5_start 22 = .ok (.iadd, 1) := by decide +kernel
theorem dX5_start_23 : decode cX5_start 23 = .ok (.iaload, 1) := by decide +kernel
theorem dX5_start_24 : decode cX5_start 24 = .ok (.goto 4, 3) := by decide +kernel
theorem dX5_start_27 : decode cX5_start 27 = .ok (.iconst 0, 1) := by decide +kernel
theorem dX5_start_28 : decode cX5_start 28 = .ok (.ireturn, 1) := by decide +kernel
theorem dX5_trackOf_0 : decode cX5_trackOf 0 = .ok (.iload_n 2, 1) := by decide +kernel
theorem dX5_trackOf_1 : decode cX5_trackOf 1 = .ok (.aload_n 0, 1) := by decide +kernel
theorem dX5_trackOf_2 : decode cX5_trackOf 2 = .ok (.getfield 13, 3) := by decide +kernel
theorem dX5_trackOf_5 : decode cX5_trackOf 5 = .ok (.iload_n 1, 1) := by decide +kernel
theorem dX5_trackOf_6 : decode cX5_trackOf 6 = .ok (.iaload, 1) := by decide +kernel
theorem dX5_trackOf_7 : decode cX5_trackOf 7 = .ok (.idiv, 1) := by decide +kernel
theorem dX5_trackOf_8 : decode cX5_trackOf 8 = .ok (.ireturn, 1) := by decide +kernel
set_option maxRecDepth 20000 in
theorem ggX5_alongOf_X5_trackOf : GoodIn wsX5_alongOf wsX5_trackOf := goodIn_r _ [6, 1, 7, 8, 9, 10, 11, 12, 13, 14, 15, 16, 17, 18, 19, 20, 21, 22, 23, 24, 25, 26, 27, 28, 29, 30, 31, 32] (by decide +kernel) (by decide +kernel)
set_option maxRecDepth 20000 in
theorem gX5_alongOf_X5_trackOf : GoodIn wsX5_alongOf (wsV RX5 110 RX5 yX5_trackOf wsX5_trackOf) := goodIn_app (goodIn_of _ (by decide +kernel)) ggX5_alongOf_X5_trackOf
theorem dX5_alongOf_0 : decode cX5_alongOf 0 = .ok (.iload_n 2, 1) := by decide +kernel
theorem dX5_alongOf_1 : decode cX5_alongOf 1 = .ok (.aload_n 0, 1) := by decide +kernel
theorem dX5_alongOf_2 : decode cX5_alongOf 2 = .ok (.getfield 13, 3) := by decide +kernel
theorem dX5_alongOf_5 : decode cX5_alongOf 5 = .ok (.iload_n 1, 1) := by decide +kernel
theorem dX5_alongOf_6 : decode cX5_alongOf 6 = .ok (.iaload, 1) := by decide +kernel
theorem dX5_alongOf_7 : decode cX5_alongOf 7 = .ok (.irem, 1) := by decide +kernel
theorem dX5_alongOf_8 : decode cX5_alongOf 8 = .ok (.istore_n 3, 1) := by decide +kernel
theorem dX5_alongOf_9 : decode cX5_alongOf 9 = .ok (.aload_n 0, 1) := by decide +kernel
theorem dX5_alongOf_10 : decode cX5_alongOf 10 = .ok (.iload_n 1, 1) := by decide +kernel
theorem dX5_alongOf_11 : decode cX5_alongOf 11 = .ok (.iload_n 2, 1) := by decide +kernel
theorem dX5_alongOf_12 : decode cX5_alongOf 12 = .ok (.invokevirtual 110, 3) := by decide +kernel
theorem dX5_alongOf_15 : decode cX5_alongOf 15 = .ok (.iconst 2, 1) := by decide +kernel
theorem dX5_alongOf_16 : decode cX5_alongOf 16 = .ok (.irem, 1) := by decide +kernel
theorem dX5_alongOf_17 : decode cX5_alongOf 17 = .ok (.ifCond .ne 7, 3) := by decide +kernel
theorem dX5_alongOf_20 : decode cX5_alongOf 20 = .ok (.iload_n 3, 1) := by decide +kernel
theorem dX5_alongOf_21 : decode cX5_alongOf 21 = .ok (.goto 13, 3) := by decide +kernel
theorem dX5_alongOf_24 : decode cX5_alongOf 24 = .ok (.aload_n 0, 1) := by decide +kernel
theorem dX5_alongOf_25 : decode cX5_alongOf 25 = .ok (.getfield 13, 3) := by decide +kernel
theorem dX5_alongOf_28 : decode cX5_alongOf 28 = .ok (.iload_n 1, 1) := by decide +kernel
theorem dX5_alongOf_29 : decode cX5_alongOf 29 = .ok (.iaload, 1) := by decide +kernel
theorem dX5_alongOf_30 : decode cX5_alongOf 30 = .ok (.iconst 1, 1) := by decide +kernel
theorem dX5_alongOf_31 : decode cX5_alongOf 31 = .ok (.isub, 1) := by decide +kernel
theorem dX5_alongOf_32 : decode cX5_alongOf 32 = .ok (.iload_n 3, 1) := by decide +kernel
theorem dX5_alongOf_33 : decode cX5_alongOf 33 = .ok (.isub, 1) := by decide +kernel
theorem dX5_alongOf_34 : decode cX5_alongOf 34 = .ok (.ireturn, 1) := by decide +kernel
set_option maxRecDepth 20000 in
theorem ggX5_along_X5_isTape : GoodIn wsX5_along wsX5_isTape := goodIn_r _ [7, 8, 9, 10, 6, 11, 25, 26, 27, 28, 29, 30, 31, 32, 33, 34, 35, 36, 37, 38, 39, 40, 41, 42, 43, 44, 45, 46, 47, 48, 49, 50] (by decide +kernel) (by decide +kernel)
set_option maxRecDepth 20000 in
theorem gX5_along_X5_isTape : GoodIn wsX5_along (wsV RX5 88 RX5 yX5_isTape wsX5_isTape) := goodIn_app (goodIn_of _ (by decide +kernel)) ggX5_along_X5_isTape
set_option maxRecDepth 20000 in
theorem ggX5_along_X5_may : GoodIn wsX5_along wsX5_may := goodIn_r _ [15, 16, 25, 26, 27, 28, 29, 30, 31, 32, 33, 34, 35, 36, 37, 38, 39, 40, 41, 42, 43, 44, 45, 46, 47, 48, 49, 50] (by decide +kernel) (by decide +kernel)
set_option maxRecDepth 20000 in
theorem gX5_along_X5_may : GoodIn wsX5_along (wsV RX5 102 RX5 yX5_may wsX5_may) := goodIn_app (goodIn_of _ (by decide +kernel)) ggX5_along_X5_may
set_option maxRecDepth 20000 in
theorem ggX5_along_X5_alongOf : GoodIn wsX5_along wsX5_alongOf := goodIn_r _ [20, 2, 21, 22, 23, 6, 24, 25, 26, 27, 28, 29, 30, 31, 32, 33, 34, 35, 36, 37, 38, 39, 40, 41, 42, 43, 44, 45, 46, 47, 48, 49, 50] (by decide +kernel) (by decide +kernel)
set_option maxRecDepth 20000 in
theorem gX5_along_X5_alongOf : GoodIn wsX5_along (wsV RX5 114 RX5 yX5_alongOf wsX5_alongOf) := goodIn_app (goodIn_of _ (by decide +kernel)) ggX5_along_X5_alongOf
theorem dX5_along_0 : decode cX5_along 0 = .ok (.aload_n 0, 1) := by decide +kernel
theorem dX5_along_1 : decode cX5_along 1 = .ok (.aload_n 0, 1) := by decide +kernel
theorem dX5_along_2 : decode cX5_along 2 = .ok (.iload_n 1, 1) := by decide +kernel
theorem dX5_along_3 : decode cX5_along 3 = .ok (.invokevirtual 88, 3) := by decide +kernel
theorem dX5_along_6 : decode cX5_along 6 = .ok (.ifCond .eq 28, 3) := by decide +kernel
theorem dX5_along_9 : decode cX5_along 9 = .ok (.iload_n 2, 1) := by decide +kernel
theorem dX5_along_10 : decode cX5_along 10 = .ok (.ifCond .lt 24, 3) := by decide +kernel
theorem dX5_along_13 : decode cX5_along 13 = .ok (.iload_n 2, 1) := by decide +kernel
theorem dX5_along_14 : decode cX5_along 14 = .ok (.aload_n 0, 1) := by decide +kernel
theorem dX5_along_15 : decode cX5_along 15 = .ok (.getfield 7, 3) := by decide +kernel
theorem dX5_along_18 : decode cX5_along 18 = .ok (.iload_n 1, 1) := by decide +kernel
theorem dX5_along_19 : decode cX5_along 19 = .ok (.iaload, 1) := by decide +kernel
theorem dX5_along_20 : decode cX5_along 20 = .ok (.aload_n 0, 1) := by decide +kernel
theorem dX5_along_21 : decode cX5_along 21 = .ok (.getfield 13, 3) := by decide +kernel
theorem dX5_along_24 : decode cX5_along 24 = .ok (.iload_n 1, 1) := by decide +kernel
theorem dX5_along_25 : decode cX5_along 25 = .ok (.iaload, 1) := by decide +kernel
theorem dX5_along_26 : decode cX5_along 26 = .ok (.imul, 1) := by decide +kernel
theorem dX5_along_27 : decode cX5_along 27 = .ok (.if_icmp .ge 7, 3) := by decide +kernel
theorem dX5_along_30 : decode cX5_along 30 = .ok (.iconst 1, 1) := by decide +kernel
theorem dX5_along_31 : decode cX5_along 31 = .ok (.goto 4, 3) := by decide +kernel
theorem dX5_along_34 : decode cX5_along 34 = .ok (.iconst 0, 1) := by decide +kernel
theorem dX5_along_35 : decode cX5_along 35 = .ok (.invokevirtual 102, 3) := by decide +kernel
theorem dX5_along_38 : decode cX5_along 38 = .ok (.ifCond .eq 12, 3) := by decide +kernel
theorem dX5_along_41 : decode cX5_along 41 = .ok (.aload_n 0, 1) := by decide +kernel
theorem dX5_along_42 : decode cX5_along 42 = .ok (.iload_n 1, 1) := by decide +kernel
theorem dX5_along_43 : decode cX5_along 43 = .ok (.iload_n 2, 1) := by decide +kernel
theorem dX5_along_44 : decode cX5_along 44 = .ok (.invokevirtual 114, 3) := by decide +kernel
theorem dX5_along_47 : decode cX5_along 47 = .ok (.goto 4, 3) := by decide +kernel
theorem dX5_along_50 : decode cX5_along 50 = .ok (.iconst 0, 1) := by decide +kernel
theorem dX5_along_51 : decode cX5_along 51 = .ok (.ireturn, 1) := by decide +kernel
set_option maxRecDepth 20000 in
theorem ggX5_drive_X5_isIn : GoodIn wsX5_drive wsX5_isIn := goodIn_r _ [7] (by decide +kernel) (by decide +kernel)
set_option maxRecDepth 20000 in
theorem gX5_drive_X5_isIn : GoodIn wsX5_drive (va_wsS RX5 81 yX5_isIn wsX5_isIn) := goodIn_app (goodIn_of _ (by decide +kernel)) ggX5_drive_X5_isIn
set_option maxRecDepth 20000 in
theorem ggX5_drive_X5_mayBoth : GoodIn wsX5_drive wsX5_mayBoth := goodIn_r _ [11, 12, 13, 14, 15, 16, 17, 18, 19, 20, 21, 22, 23, 24, 25, 26, 27, 28, 29, 30, 31, 32, 33, 34, 35, 36, 37, 38] (by decide +kernel) (by decide +kernel)
set_option maxRecDepth 20000 in
theorem gX5_drive_X5_mayBoth : GoodIn wsX5_drive (wsV RX5 95 RX5 yX5_mayBoth wsX5_mayBoth) := goodIn_app (goodIn_of _ (by decide +kernel)) ggX5_drive_X5_mayBoth
theorem dX5_drive_0 : decode cX5_drive 0 = .ok (.aload_n 0, 1) := by decide +kernel
theorem dX5_drive_1 : decode cX5_drive 1 = .ok (.iload_n 1, 1) := by decide +kernel
theorem dX5_drive_2 : decode cX5_drive 2 = .ok (.iconst 0, 1) := by decide +kernel
theorem dX5_drive_3 : decode cX5_drive 3 = .ok (.iconst 1, 1) := by decide +kernel
theorem dX5_drive_4 : decode cX5_drive 4 = .ok (.invokestatic 81, 3) := by decide +kernel
theorem dX5_drive_7 : decode cX5_drive 7 = .ok (.aload_n 0, 1) := by decide +kernel
theorem dX5_drive_8 : decode cX5_drive 8 = .ok (.getfield 85, 3) := by decide +kernel
theorem dX5_drive_11 : decode cX5_drive 11 = .ok (.iconst 3, 1) := by decide +kernel
theorem dX5_drive_12 : decode cX5_drive 12 = .ok (.if_icmp .ge 7, 3) := by decide +kernel
theorem dX5_drive_15 : decode cX5_drive 15 = .ok (.iconst 1, 1) := by decide +kernel
theorem dX5_drive_16 : decode cX5_drive 16 = .ok (.goto 4, 3) := by decide +kernel
theorem dX5_drive_19 : decode cX5_drive 19 = .ok (.iconst 0, 1) := by decide +kernel
theorem dX5_drive_20 : decode cX5_drive 20 = .ok (.invokevirtual 95, 3) := by decide +kernel
theorem dX5_drive_23 : decode cX5_drive 23 = .ok (.ifCond .ne 5, 3) := by decide +kernel
theorem dX5_drive_26 : decode cX5_drive 26 = .ok (.iconst 0, 1) := by decide +kernel
theorem dX5_drive_27 : decode cX5_drive 27 = .ok (.ireturn, 1) := by decide +kernel
theorem dX5_drive_28 : decode cX5_drive 28 = .ok (.aload_n 0, 1) := by decide +kernel
theorem dX5_drive_29 : decode cX5_drive 29 = .ok (.getfield 35, 3) := by decide +kernel
theorem dX5_drive_32 : decode cX5_drive 32 = .ok (.aload_n 0, 1) := by decide +kernel
theorem dX5_drive_33 : decode cX5_drive 33 = .ok (.getfield 85, 3) := by decide +kernel
theorem dX5_drive_36 : decode cX5_drive 36 = .ok (.iload_n 1, 1) := by decide +kernel
theorem dX5_drive_37 : decode cX5_drive 37 = .ok (.iastore, 1) := by decide +kernel
theorem dX5_drive_38 : decode cX5_drive 38 = .ok (.aload_n 0, 1) := by decide +kernel
theorem dX5_drive_39 : decode cX5_drive 39 = .ok (.getfield 44, 3) := by decide +kernel
theorem dX5_drive_42 : decode cX5_drive 42 = .ok (.aload_n 0, 1) := by decide +kernel
theorem dX5_drive_43 : decode cX5_drive 43 = .ok (.getfield 85, 3) := by decide +kernel
theorem dX5_drive_46 : decode cX5_drive 46 = .ok (.iconst (-1), 1) := by decide +kernel
theorem dX5_drive_47 : decode cX5_drive 47 = .ok (.iastore, 1) := by decide +kernel
theorem dX5_drive_48 : decode cX5_drive 48 = .ok (.aload_n 0, 1) := by decide +kernel
theorem dX5_drive_49 : decode cX5_drive 49 = .ok (.dup, 1) := by decide +kernel
theorem dX5_drive_50 : decode cX5_drive 50 = .ok (.getfield 85, 3) := by decide +kernel
theorem dX5_drive_53 : decode cX5_drive 53 = .ok (.iconst 1, 1) := by decide +kernel
theorem dX5_drive_54 : decode cX5_drive 54 = .ok (.iadd, 1) := by decide +kernel
theorem dX5_drive_55 : decode cX5_drive 55 = .ok (.putfield 85, 3) := by decide +kernel
theorem dX5_drive_58 : decode cX5_drive 58 = .ok (.aload_n 0, 1) := by decide +kernel
theorem dX5_drive_59 : decode cX5_drive 59 = .ok (.getfield 85, 3) := by decide +kernel
theorem dX5_drive_62 : decode cX5_drive 62 = .ok (.iconst 1, 1) := by decide +kernel
theorem dX5_drive_63 : decode cX5_drive 63 = .ok (.isub, 1) := by decide +kernel
theorem dX5_drive_64 : decode cX5_drive 64 = .ok (.ireturn, 1) := by decide +kernel
set_option maxRecDepth 20000 in
theorem ggX5_way_X5_alongOf : GoodIn wsX5_way wsX5_alongOf := goodIn_r _ [9, 3, 10, 11, 12, 8, 13, 17, 18, 19, 20, 21, 22, 23, 24, 25, 26, 27, 28, 29, 30, 31, 32, 33, 34, 35, 36, 37, 38, 39, 40, 41, 42] (by decide +kernel) (by decide +kernel)
set_option maxRecDepth 20000 in
theorem gX5_way_X5_alongOf : GoodIn wsX5_way (wsV RX5 114 RX5 yX5_alongOf wsX5_alongOf) := goodIn_app (goodIn_of _ (by decide +kernel)) ggX5_way_X5_alongOf
set_option maxRecDepth 20000 in
theorem ggX5_way_X5_size : GoodIn wsX5_way wsX5_size := goodIn_r _ [16] (by decide +kernel) (by decide +kernel)
set_option maxRecDepth 20000 in
theorem gX5_way_X5_size : GoodIn wsX5_way (va_wsS RX5 117 yX5_size wsX5_size) := goodIn_app (goodIn_of _ (by decide +kernel)) ggX5_way_X5_size
set_option maxRecDepth 20000 in
theorem ggX5_way_X5_trackOf : GoodIn wsX5_way wsX5_trackOf := goodIn_r _ [13, 3, 17, 18, 19, 20, 21, 22, 23, 24, 25, 26, 27, 28, 29, 30, 31, 32, 33, 34, 35, 36, 37, 38, 39, 40, 41, 42] (by decide +kernel) (by decide +kernel)
set_option maxRecDepth 20000 in
theorem gX5_way_X5_trackOf : GoodIn wsX5_way (wsV RX5 110 RX5 yX5_trackOf wsX5_trackOf) := goodIn_app (goodIn_of _ (by decide +kernel)) ggX5_way_X5_trackOf
theorem dX5_way_0 : decode cX5_way 0 = .ok (.aload_n 0, 1) := by decide +kernel
theorem dX5_way_1 : decode cX5_way 1 = .ok (.getfield 44, 3) := by decide +kernel
theorem dX5_way_4 : decode cX5_way 4 = .ok (.iload_n 1, 1) := by decide +kernel
theorem dX5_way_5 : decode cX5_way 5 = .ok (.iaload, 1) := by decide +kernel
theorem dX5_way_6 : decode cX5_way 6 = .ok (.istore 4, 2) := by decide +kernel
theorem dX5_way_8 : decode cX5_way 8 = .ok (.aload_n 0, 1) := by decide +kernel
theorem dX5_way_9 : decode cX5_way 9 = .ok (.getfield 7, 3) := by decide +kernel
theorem dX5_way_12 : decode cX5_way 12 = .ok (.iload 4, 2) := by decide +kernel
theorem dX5_way_14 : decode cX5_way 14 = .ok (.iaload, 1) := by decide +kernel
theorem dX5_way_15 : decode cX5_way 15 = .ok (.aload_n 0, 1) := by decide +kernel
theorem dX5_way_16 : decode cX5_way 16 = .ok (.getfield 13, 3) := by decide +kernel
theorem dX5_way_19 : decode cX5_way 19 = .ok (.iload 4, 2) := by decide +kernel
theorem dX5_way_21 : decode cX5_way 21 = .ok (.iaload, 1) := by decide +kernel
theorem dX5_way_22 : decode cX5_way 22 = .ok (.imul, 1) := by decide +kernel
theorem dX5_way_23 : decode cX5_way 23 = .ok (.istore 5, 2) := by decide +kernel
theorem dX5_way_25 : decode cX5_way 25 = .ok (.iload_n 2, 1) := by decide +kernel
theorem dX5_way_26 : decode cX5_way 26 = .ok (.iload 5, 2) := by decide +kernel
theorem dX5_way_28 : decode cX5_way 28 = .ok (.if_icmp .ne 10, 3) := by decide +kernel
theorem dX5_way_31 : decode cX5_way 31 = .ok (.iload 5, 2) := by decide +kernel
theorem dX5_way_33 : decode cX5_way 33 = .ok (.iconst 1, 1) := by decide +kernel
theorem dX5_way_34 : decode cX5_way 34 = .ok (.isub, 1) := by decide +kernel
theorem dX5_way_35 : decode cX5_way 35 = .ok (.goto 4, 3) := by decide +kernel
theorem dX5_way_38 : decode cX5_way 38 = .ok (.iload_n 2, 1) := by decide +kernel
theorem dX5_way_39 : decode cX5_way 39 = .ok (.istore 6, 2) := by decide +kernel
theorem dX5_way_41 : decode cX5_way 41 = .ok (.iload_n 3, 1) := by decide +kernel
theorem dX5_way_42 : decode cX5_way 42 = .ok (.iload 5, 2) := by decide +kernel
theorem dX5_way_44 : decode cX5_way 44 = .ok (.if_icmp .ne 10, 3) := by decide +kernel
theorem dX5_way_47 : decode cX5_way 47 = .ok (.iload 5, 2) := by decide +kernel
theorem dX5_way_49 : decode cX5_way 49 = .ok (.iconst 1, 1) := by decide +kernel
theorem dX5_way_50 : decode cX5_way 50 = .ok (.isub, 1) := by decide +kernel
theorem dX5_way_51 : decode cX5_way 51 = .ok (.goto 4, 3) := by decide +kernel
theorem dX5_way_54 : decode cX5_way 54 = .ok (.iload_n 3, 1) := by decide +kernel
theorem dX5_way_55 : decode cX5_way 55 = .ok (.istore 7, 2) := by decide +kernel
theorem dX5_way_57 : decode cX5_way 57 = .ok (.aload_n 0, 1) := by decide +kernel
theorem dX5_way_58 : decode cX5_way 58 = .ok (.iload 4, 2) := by decide +kernel
theorem dX5_way_60 : decode cX5_way 60 = .ok (.iload 6, 2) := by decide +kernel
theorem dX5_way_62 : decode cX5_way 62 = .ok (.invokevirtual 114, 3) := by decide +kernel
theorem dX5_way_65 : decode cX5_way 65 = .ok (.aload_n 0, 1) := by decide +kernel
theorem dX5_way_66 : decode cX5_way 66 = .ok (.iload 4, 2) := by decide +kernel
theorem dX5_way_68 : decode cX5_way 68 = .ok (.iload 7, 2) := by decide +kernel
theorem dX5_way_70 : decode cX5_way 70 = .ok (.invokevirtual 114, 3) := by decide +kernel
theorem dX5_way_73 : decode cX5_way 73 = .ok (.isub, 1) := by decide +kernel
theorem dX5_way_74 : decode cX5_way 74 = .ok (.invokestatic 117, 3) := by decide +kernel
theorem dX5_way_77 : decode cX5_way 77 = .ok (.istore 8, 2) := by decide +kernel
theorem dX5_way_79 : decode cX5_way 79 = .ok (.aload_n 0, 1) := by decide +kernel
theorem dX5_way_80 : decode cX5_way 80 = .ok (.iload 4, 2) := by decide +kernel
theorem dX5_way_82 : decode cX5_way 82 = .ok (.iload 6, 2) := by decide +kernel
theorem dX5_way_84 : decode cX5_way 84 = .ok (.invokevirtual 110, 3) := by decide +kernel
theorem dX5_way_87 : decode cX5_way 87 = .ok (.aload_n 0, 1) := by decide +kernel
theorem dX5_way_88 : decode cX5_way 88 = .ok (.iload 4, 2) := by decide +kernel
theorem dX5_way_90 : decode cX5_way 90 = .ok (.iload 7, 2) := by decide +kernel
theorem dX5_way_92 : decode cX5_way 92 = .ok (.invokevirtual 110, 3) := by decide +kernel
theorem dX5_way_95 : decode cX5_way 95 = .ok (.isub, 1) := by decide +kernel
theorem dX5_way_96 : decode cX5_way 96 = .ok (.invokestatic 117, 3) := by decide +kernel
theorem dX5_way_99 : decode cX5_way 99 = .ok (.istore 9, 2) := by decide +kernel
theorem dX5_way_101 : decode cX5_way 101 = .ok (.aload_n 0, 1) := by decide +kernel
theorem dX5_way_102 : decode cX5_way 102 = .ok (.getfield 35, 3) := by decide +kernel
theorem dX5_way_105 : decode cX5_way 105 = .ok (.iload_n 1, 1) := by decide +kernel
theorem dX5_way_106 : decode cX5_way 106 = .ok (.iaload, 1) := by decide +kernel
theorem dX5_way_107 : decode cX5_way 107 = .ok (.ifCond .ne 14, 3) := by decide +kernel
theorem dX5_way_110 : decode cX5_way 110 = .ok (.iload 8, 2) := by decide +kernel
theorem dX5_way_112 : decode cX5_way 112 = .ok (.bipush 9, 2) := by decide +kernel
theorem dX5_way_114 : decode cX5_way 114 = .ok (.iload 9, 2) := by decide +kernel
theorem dX5_way_116 : decode cX5_way 116 = .ok (.imul, 1) := by decide +kernel
theorem dX5_way_117 : decode cX5_way 117 = .ok (.iadd, 1) := by decide +kernel
theorem dX5_way_118 : decode cX5_way 118 = .ok (.goto 10, 3) := by decide +kernel
theorem dX5_way_121 : decode cX5_way 121 = .ok (.iconst 2, 1) := by decide +kernel
theorem dX5_way_122 : decode cX5_way 122 = .ok (.iload 8, 2) := by decide +kernel
theorem dX5_way_124 : decode cX5_way 124 = .ok (.imul, 1) := by decide +kernel
theorem dX5_way_125 : decode cX5_way 125 = .ok (.iload 9, 2) := by decide +kernel
theorem dX5_way_127 : decode cX5_way 127 = .ok (.iadd, 1) := by decide +kernel
theorem dX5_way_128 : decode cX5_way 128 = .ok (.ireturn, 1) := by decide +kernel
set_option maxRecDepth 20000 in
theorem ggX5_robot_X5_size : GoodIn wsX5_robot wsX5_size := goodIn_r _ [5] (by decide +kernel) (by decide +kernel)
set_option maxRecDepth 20000 in
theorem gX5_robot_X5_size : GoodIn wsX5_robot (va_wsS RX5 117 yX5_size wsX5_size) := goodIn_app (goodIn_of _ (by decide +kernel)) ggX5_robot_X5_size
theorem dX5_robot_0 : decode cX5_robot 0 = .ok (.bipush 20, 2) := by decide +kernel
theorem dX5_robot_2 : decode cX5_robot 2 = .ok (.iconst 2, 1) := by decide +kernel
theorem dX5_robot_3 : decode cX5_robot 3 = .ok (.iconst 4, 1) := by decide +kernel
theorem dX5_robot_4 : decode cX5_robot 4 = .ok (.iload_n 1, 1) := by decide +kernel
theorem dX5_robot_5 : decode cX5_robot 5 = .ok (.imul, 1) := by decide +kernel
theorem dX5_robot_6 : decode cX5_robot 6 = .ok (.aload_n 0, 1) := by decide +kernel
theorem dX5_robot_7 : decode cX5_robot 7 = .ok (.getfield 16, 3) := by decide +kernel
theorem dX5_robot_10 : decode cX5_robot 10 = .ok (.iload_n 2, 1) := by decide +kernel
theorem dX5_robot_11 : decode cX5_robot 11 = .ok (.iaload, 1) := by decide +kernel
theorem dX5_robot_12 : decode cX5_robot 12 = .ok (.isub, 1) := by decide +kernel
theorem dX5_robot_13 : decode cX5_robot 13 = .ok (.invokestatic 117, 3) := by decide +kernel
theorem dX5_robot_16 : decode cX5_robot 16 = .ok (.imul, 1) := by decide +kernel
theorem dX5_robot_17 : decode cX5_robot 17 = .ok (.iadd, 1) := by decide +kernel
theorem dX5_robot_18 : decode cX5_robot 18 = .ok (.ireturn, 1) := by decide +kernel
set_option maxRecDepth 20000 in
theorem ggX5_mount_X5_isDrive : GoodIn wsX5_mount wsX5_isDrive := goodIn_r _ [10, 11, 12, 13, 9, 14, 33, 34, 35, 36, 37, 38, 39, 40, 41, 42, 43, 44, 45, 46, 47, 48, 49, 50, 51, 52, 53, 54, 55, 56, 57, 58] (by decide +kernel) (by decide +kernel)
set_option maxRecDepth 20000 in
theorem gX5_mount_X5_isDrive : GoodIn wsX5_mount (wsV RX5 92 RX5 yX5_isDrive wsX5_isDrive) := goodIn_app (goodIn_of _ (by decide +kernel)) ggX5_mount_X5_isDrive
set_option maxRecDepth 20000 in
theorem ggX5_mount_X5_isTape : GoodIn wsX5_mount wsX5_isTape := goodIn_r _ [18, 19, 12, 13, 9, 14, 33, 34, 35, 36, 37, 38, 39, 40, 41, 42, 43, 44, 45, 46, 47, 48, 49, 50, 51, 52, 53, 54, 55, 56, 57, 58] (by decide +kernel) (by decide +kernel)
set_option maxRecDepth 20000 in
theorem gX5_mount_X5_isTape : GoodIn wsX5_mount (wsV RX5 88 RX5 yX5_isTape wsX5_isTape) := goodIn_app (goodIn_of _ (by decide +kernel)) ggX5_mount_X5_isTape
set_option maxRecDepth 20000 in
theorem ggX5_mount_X5_mayBoth : GoodIn wsX5_mount wsX5_mayBoth := goodIn_r _ [23, 24, 33, 34, 35, 36, 37, 38, 39, 40, 41, 42, 43, 44, 45, 46, 47, 48, 49, 50, 51, 52, 53, 54, 55, 56, 57, 58] (by decide +kernel) (by decide +kernel)
set_option maxRecDepth 20000 in
theorem gX5_mount_X5_mayBoth : GoodIn wsX5_mount (wsV RX5 95 RX5 yX5_mayBoth wsX5_mayBoth) := goodIn_app (goodIn_of _ (by decide +kernel)) ggX5_mount_X5_mayBoth
set_option maxRecDepth 20000 in
theorem ggX5_mount_X5_robot : GoodIn wsX5_mount wsX5_robot := goodIn_r _ [28, 29, 30, 31, 9, 32, 33, 34, 35, 36, 37, 38, 39, 40, 41, 42, 43, 44, 45, 46, 47, 48, 49, 50, 51, 52, 53, 54, 55, 56, 57, 58] (by decide +kernel) (by decide +kernel)
set_option maxRecDepth 20000 in
theorem gX5_mount_X5_robot : GoodIn wsX5_mount (wsV RX5 121 RX5 yX5_robot wsX5_robot) := goodIn_app (goodIn_of _ (by decide +kernel)) ggX5_mount_X5_robot
theorem dX5_mount_0 : decode cX5_mount 0 = .ok (.aload_n 0, 1) := by decide +kernel
theorem dX5_mount_1 : decode cX5_mount 1 = .ok (.iload_n 1, 1) := by decide +kernel
theorem dX5_mount_2 : decode cX5_mount 2 = .ok (.invokevirtual 92, 3) := by decide +kernel
theorem dX5_mount_5 : decode cX5_mount 5 = .ok (.ifCond .eq 15, 3) := by decide +kernel
theorem dX5_mount_8 : decode cX5_mount 8 = .ok (.aload_n 0, 1) := by decide +kernel
theorem dX5_mount_9 : decode cX5_mount 9 = .ok (.iload_n 2, 1) := by decide +kernel
theorem dX5_mount_10 : decode cX5_mount 10 = .ok (.invokevirtual 88, 3) := by decide +kernel
theorem dX5_mount_13 : decode cX5_mount 13 = .ok (.ifCond .eq 7, 3) := by decide +kernel
theorem dX5_mount_16 : decode cX5_mount 16 = .ok (.iconst 1, 1) := by decide +kernel
theorem dX5_mount_17 : decode cX5_mount 17 = .ok (.goto 4, 3) := by decide +kernel
theorem dX5_mount_20 : decode cX5_mount 20 = .ok (.iconst 0, 1) := by decide +kernel
theorem dX5_mount_21 : decode cX5_mount 21 = .ok (.istore_n 3, 1) := by decide +kernel
theorem dX5_mount_22 : decode cX5_mount 22 = .ok (.aload_n 0, 1) := by decide +kernel
theorem dX5_mount_23 : decode cX5_mount 23 = .ok (.iload_n 3, 1) := by decide +kernel
theorem dX5_mount_24 : decode cX5_mount 24 = .ok (.iload_n 3, 1) := by decide +kernel
theorem dX5_mount_25 : decode cX5_mount 25 = .ok (.ifCond .eq 36, 3) := by decide +kernel
theorem dX5_mount_28 : decode cX5_mount 28 = .ok (.aload_n 0, 1) := by decide +kernel
theorem dX5_mount_29 : decode cX5_mount 29 = .ok (.getfield 44, 3) := by decide +kernel
theorem dX5_mount_32 : decode cX5_mount 32 = .ok (.iload_n 1, 1) := by decide +kernel
theorem dX5_mount_33 : decode cX5_mount 33 = .ok (.iaload, 1) := by decide +kernel
theorem dX5_mount_34 : decode cX5_mount 34 = .ok (.iconst (-1), 1) := by decide +kernel
theorem dX5_mount_35 : decode cX5_mount 35 = .ok (.if_icmp .ne 26, 3) := by decide +kernel
theorem dX5_mount_38 : decode cX5_mount 38 = .ok (.aload_n 0, 1) := by decide +kernel
theorem dX5_mount_39 : decode cX5_mount 39 = .ok (.getfield 19, 3) := by decide +kernel
theorem dX5_mount_42 : decode cX5_mount 42 = .ok (.iload_n 2, 1) := by decide +kernel
theorem dX5_mount_43 : decode cX5_mount 43 = .ok (.iaload, 1) := by decide +kernel
theorem dX5_mount_44 : decode cX5_mount 44 = .ok (.iconst (-1), 1) := by decide +kernel
theorem dX5_mount_45 : decode cX5_mount 45 = .ok (.if_icmp .ne 16, 3) := by decide +kernel
theorem dX5_mount_48 : decode cX5_mount 48 = .ok (.aload_n 0, 1) := by decide +kernel
theorem dX5_mount_49 : decode cX5_mount 49 = .ok (.getfield 22, 3) := by decide +kernel
theorem dX5_mount_52 : decode cX5_mount 52 = .ok (.iload_n 2, 1) := by decide +kernel
theorem dX5_mount_53 : decode cX5_mount 53 = .ok (.baload, 1) := by decide +kernel
theorem dX5_mount_54 : decode cX5_mount 54 = .ok (.ifCond .ne 7, 3) := by decide +kernel
theorem dX5_mount_57 : decode cX5_mount 57 = .ok (.iconst 1, 1) := by decide +kernel
theorem dX5_mount_58 : decode cX5_mount 58 = .ok (.goto 4, 3) := by decide +kernel
theorem dX5_mount_61 : decode cX5_mount 61 = .ok (.iconst 0, 1) := by decide +kernel
theorem dX5_mount_62 : decode cX5_mount 62 = .ok (.invokevirtual 95, 3) := by decide +kernel
theorem dX5_mount_65 : decode cX5_mount 65 = .ok (.ifCond .ne 5, 3) := by decide +kernel
theorem dX5_mount_68 : decode cX5_mount 68 = .ok (.iconst 0, 1) := by decide +kernel
theorem dX5_mount_69 : decode cX5_mount 69 = .ok (.ireturn, 1) := by decide +kernel
theorem dX5_mount_70 : decode cX5_mount 70 = .ok (.aload_n 0, 1) := by decide +kernel
theorem dX5_mount_71 : decode cX5_mount 71 = .ok (.getfield 44, 3) := by decide +kernel
theorem dX5_mount_74 : decode cX5_mount 74 = .ok (.iload_n 1, 1) := by decide +kernel
theorem dX5_mount_75 : decode cX5_mount 75 = .ok (.iload_n 2, 1) := by decide +kernel
theorem dX5_mount_76 : decode cX5_mount 76 = .ok (.iastore, 1) := by decide +kernel
theorem dX5_mount_77 : decode cX5_mount 77 = .ok (.aload_n 0, 1) := by decide +kernel
theorem dX5_mount_78 : decode cX5_mount 78 = .ok (.getfield 19, 3) := by decide +kernel
theorem dX5_mount_81 : decode cX5_mount 81 = .ok (.iload_n 2, 1) := by decide +kernel
theorem dX5_mount_82 : decode cX5_mount 82 = .ok (.iload_n 1, 1) := by decide +kernel
theorem dX5_mount_83 : decode cX5_mount 83 = .ok (.iastore, 1) := by decide +kernel
theorem dX5_mount_84 : decode cX5_mount 84 = .ok (.aload_n 0, 1) := by decide +kernel
theorem dX5_mount_85 : decode cX5_mount 85 = .ok (.getfield 47, 3) := by decide +kernel
theorem dX5_mount_88 : decode cX5_mount 88 = .ok (.iload_n 1, 1) := by decide +kernel
theorem dX5_mount_89 : decode cX5_mount 89 = .ok (.iconst 0, 1) := by decide +kernel
theorem dX5_mount_90 : decode cX5_mount 90 = .ok (.iastore, 1) := by decide +kernel
theorem dX5_mount_91 : decode cX5_mount 91 = .ok (.aload_n 0, 1) := by decide +kernel
theorem dX5_mount_92 : decode cX5_mount 92 = .ok (.iload_n 1, 1) := by decide +kernel
theorem dX5_mount_93 : decode cX5_mount 93 = .ok (.iload_n 2, 1) := by decide +kernel
theorem dX5_mount_94 : decode cX5_mount 94 = .ok (.invokevirtual 121, 3) := by decide +kernel
theorem dX5_mount_97 : decode cX5_mount 97 = .ok (.istore 4, 2) := by decide +kernel
theorem dX5_mount_99 : decode cX5_mount 99 = .ok (.aload_n 0, 1) := by decide +kernel
theorem dX5_mount_100 : decode cX5_mount 100 = .ok (.getfield 38, 3) := by decide +kernel
theorem dX5_mount_103 : decode cX5_mount 103 = .ok (.iload_n 1, 1) := by decide +kernel
theorem dX5_mount_104 : decode cX5_mount 104 = .ok (.dup2, 1) := by decide +kernel
theorem dX5_mount_105 : decode cX5_mount 105 = .ok (.iaload, 1) := by decide +kernel
theorem dX5_mount_106 : decode cX5_mount 106 = .ok (.iload 4, 2) := by decide +kernel
theorem dX5_mount_108 : decode cX5_mount 108 = .ok (.iadd, 1) := by decide +kernel
theorem dX5_mount_109 : decode cX5_mount 109 = .ok (.iastore, 1) := by decide +kernel
theorem dX5_mount_110 : decode cX5_mount 110 = .ok (.iload 4, 2) := by decide +kernel
theorem dX5_mount_112 : decode cX5_mount 112 = .ok (.ireturn, 1) := by decide +kernel
set_option maxRecDepth 20000 in
theorem ggX5_unmount_X5_isDrive : GoodIn wsX5_unmount wsX5_isDrive := goodIn_r _ [9, 10, 11, 12, 8, 13, 46, 47, 48, 49, 50, 51, 52, 53, 54, 55, 56, 57, 58, 59, 60, 61, 62, 63, 64, 65, 66, 67, 68, 69, 70, 71] (by decide +kernel) (by decide +kernel)
set_option maxRecDepth 20000 in
theorem gX5_unmount_X5_isDrive : GoodIn wsX5_unmount (wsV RX5 92 RX5 yX5_isDrive wsX5_isDrive) := goodIn_app (goodIn_of _ (by decide +kernel)) ggX5_unmount_X5_isDrive
set_option maxRecDepth 20000 in
theorem ggX5_unmount_X5_hasTape : GoodIn wsX5_unmount wsX5_hasTape := goodIn_r _ [17, 2, 5, 6, 7, 8, 9, 10, 11, 12, 13, 46, 47, 48, 49, 50, 51, 52, 53, 54, 55, 56, 57, 58, 59, 60, 61, 62, 63, 64, 65, 66, 67, 68, 69, 70, 71] (by decide +kernel) (by decide +kernel)
set_option maxRecDepth 20000 in
theorem gX5_unmount_X5_hasTape : GoodIn wsX5_unmount (wsV RX5 124 RX5 yX5_hasTape wsX5_hasTape) := goodIn_app (goodIn_of _ (by decide +kernel)) ggX5_unmount_X5_hasTape
set_option maxRecDepth 20000 in
theorem ggX5_unmount_X5_mayBoth : GoodIn wsX5_unmount wsX5_mayBoth := goodIn_r _ [21, 22, 46, 47, 48, 49, 50, 51, 52, 53, 54, 55, 56, 57, 58, 59, 60, 61, 62, 63, 64, 65, 66, 67, 68, 69, 70, 71] (by decide +kernel) (by decide +kernel)
set_option maxRecDepth 20000 in
theorem gX5_unmount_X5_mayBoth : GoodIn wsX5_unmount (wsV RX5 95 RX5 yX5_mayBoth wsX5_mayBoth) := goodIn_app (goodIn_of _ (by decide +kernel)) ggX5_unmount_X5_mayBoth
set_option maxRecDepth 20000 in
theorem ggX5_unmount_X5_way : GoodIn wsX5_unmount wsX5_way := goodIn_r _ [26, 2, 27, 28, 29, 30, 31, 32, 8, 33, 34, 35, 36, 37, 38, 39, 40, 46, 47, 48, 49, 50, 51, 52, 53, 54, 55, 56, 57, 58, 59, 60, 61, 62, 63, 64, 65, 66, 67, 68, 69, 70, 71] (by decide +kernel) (by decide +kernel)
set_option maxRecDepth 20000 in
theorem gX5_unmount_X5_way : GoodIn wsX5_unmount (wsV RX5 127 RX5 yX5_way wsX5_way) := goodIn_app (goodIn_of _ (by decide +kernel)) ggX5_unmount_X5_way
set_option maxRecDepth 20000 in
theorem ggX5_unmount_X5_robot : GoodIn wsX5_unmount wsX5_robot := goodIn_r _ [44, 45, 38, 39, 8, 40, 46, 47, 48, 49, 50, 51, 52, 53, 54, 55, 56, 57, 58, 59, 60, 61, 62, 63, 64, 65, 66, 67, 68, 69, 70, 71] (by decide +kernel) (by decide +kernel)
set_option maxRecDepth 20000 in
theorem gX5_unmount_X5_robot : GoodIn wsX5_unmount (wsV RX5 121 RX5 yX5_robot wsX5_robot) := goodIn_app (goodIn_of _ (by decide +kernel)) ggX5_unmount_X5_robot
theorem dX5_unmount_0 : decode cX5_unmount 0 = .ok (.aload_n 0, 1) := by decide +kernel
theorem dX5_unmount_1 : decode cX5_unmount 1 = .ok (.aload_n 0, 1) := by decide +kernel
theorem dX5_unmount_2 : decode cX5_unmount 2 = .ok (.iload_n 1, 1) := by decide +kernel
theorem dX5_unmount_3 : decode cX5_unmount 3 = .ok (.invokevirtual 92, 3) := by decide +kernel
theorem dX5_unmount_6 : decode cX5_unmount 6 = .ok (.aload_n 0, 1) := by decide +kernel
theorem dX5_unmount_7 : decode cX5_unmount 7 = .ok (.iload_n 1, 1) := by decide +kernel
theorem dX5_unmount_8 : decode cX5_unmount 8 = .ok (.invokevirtual 124, 3) := by decide +kernel
theorem dX5_unmount_11 : decode cX5_unmount 11 = .ok (.invokevirtual 95, 3) := by decide +kernel
theorem dX5_unmount_14 : decode cX5_unmount 14 = .ok (.ifCond .ne 5, 3) := by decide +kernel
theorem dX5_unmount_17 : decode cX5_unmount 17 = .ok (.iconst 0, 1) := by decide +kernel
theorem dX5_unmount_18 : decode cX5_unmount 18 = .ok (.ireturn, 1) := by decide +kernel
theorem dX5_unmount_19 : decode cX5_unmount 19 = .ok (.aload_n 0, 1) := by decide +kernel
theorem dX5_unmount_20 : decode cX5_unmount 20 = .ok (.iload_n 1, 1) := by decide +kernel
theorem dX5_unmount_21 : decode cX5_unmount 21 = .ok (.aload_n 0, 1) := by decide +kernel
theorem dX5_unmount_22 : decode cX5_unmount 22 = .ok (.getfield 47, 3) := by decide +kernel
theorem dX5_unmount_25 : decode cX5_unmount 25 = .ok (.iload_n 1, 1) := by decide +kernel
theorem dX5_unmount_26 : decode cX5_unmount 26 = .ok (.iaload, 1) := by decide +kernel
theorem dX5_unmount_27 : decode cX5_unmount 27 = .ok (.iconst 0, 1) := by decide +kernel
theorem dX5_unmount_28 : decode cX5_unmount 28 = .ok (.invokevirtual 127, 3) := by decide +kernel
theorem dX5_unmount_31 : decode cX5_unmount 31 = .ok (.aload_n 0, 1) := by decide +kernel
theorem dX5_unmount_32 : decode cX5_unmount 32 = .ok (.iload_n 1, 1) := by decide +kernel
theorem dX5_unmount_33 : decode cX5_unmount 33 = .ok (.aload_n 0, 1) := by decide +kernel
theorem dX5_unmount_34 : decode cX5_unmount 34 = .ok (.getfield 44, 3) := by decide +kernel
theorem dX5_unmount_37 : decode cX5_unmount 37 = .ok (.iload_n 1, 1) := by decide +kernel
theorem dX5_unmount_38 : decode cX5_unmount 38 = .ok (.iaload, 1) := by decide +kernel
theorem dX5_unmount_39 : decode cX5_unmount 39 = .ok (.invokevirtual 121, 3) := by decide +kernel
theorem dX5_unmount_42 : decode cX5_unmount 42 = .ok (.iadd, 1) := by decide +kernel
theorem dX5_unmount_43 : decode cX5_unmount 43 = .ok (.istore_n 2, 1) := by decide +kernel
theorem dX5_unmount_44 : decode cX5_unmount 44 = .ok (.aload_n 0, 1) := by decide +kernel
theorem dX5_unmount_45 : decode cX5_unmount 45 = .ok (.getfield 38, 3) := by decide +kernel
theorem dX5_unmount_48 : decode cX5_unmount 48 = .ok (.iload_n 1, 1) := by decide +kernel
theorem dX5_unmount_49 : decode cX5_unmount 49 = .ok (.dup2, 1) := by decide +kernel
theorem dX5_unmount_50 : decode cX5_unmount 50 = .ok (.iaload, 1) := by decide +kernel
theorem dX5_unmount_51 : decode cX5_unmount 51 = .ok (.iload_n 2, 1) := by decide +kernel
theorem dX5_unmount_52 : decode cX5_unmount 52 = .ok (.iadd, 1) := by decide +kernel
theorem dX5_unmount_53 : decode cX5_unmount 53 = .ok (.iastore, 1) := by decide +kernel
theorem dX5_unmount_54 : decode cX5_unmount 54 = .ok (.aload_n 0, 1) := by decide +kernel
theorem dX5_unmount_55 : decode cX5_unmount 55 = .ok (.getfield 19, 3) := by decide +kernel
theorem dX5_unmount_58 : decode cX5_unmount 58 = .ok (.aload_n 0, 1) := by decide +kernel
theorem dX5_unmount_59 : decode cX5_unmount 59 = .ok (.getfield 44, 3) := by decide +kernel
theorem dX5_unmount_62 : decode cX5_unmount 62 = .ok (.iload_n 1, 1) := by decide +kernel
theorem dX5_unmount_63 : decode cX5_unmount 63 = .ok (.iaload, 1) := by decide +kernel
theorem dX5_unmount_64 : decode cX5_unmount 64 = .ok (.iconst (-1), 1) := by decide +kernel
theorem dX5_unmount_65 : decode cX5_unmount 65 = .ok (.iastore, 1) := by decide +kernel
theorem dX5_unmount_66 : decode cX5_unmount 66 = .ok (.aload_n 0, 1) := by decide +kernel
theorem dX5_unmount_67 : decode cX5_unmount 67 = .ok (.getfield 44, 3) := by decide +kernel
theorem dX5_unmount_70 : decode cX5_unmount 70 = .ok (.iload_n 1, 1) := by decide +kernel
theorem dX5_unmount_71 : decode cX5_unmount 71 = .ok (.iconst (-1), 1) := by decide +kernel
theorem dX5_unmount_72 : decode cX5_unmount 72 = .ok (.iastore, 1) := by decide +kernel
theorem dX5_unmount_73 : decode cX5_unmount 73 = .ok (.iload_n 2, 1) := by decide +kernel
theorem dX5_unmount_74 : decode cX5_unmount 74 = .ok (.ireturn, 1) := by decide +kernel
set_option maxRecDepth 20000 in
theorem ggX5_run_X5_way : GoodIn wsX5_run wsX5_way := goodIn_r _ [8, 9, 10, 11, 12, 13, 14, 15, 7, 16, 17, 18, 19, 20, 21, 22, 23, 24, 25, 26, 27, 28, 29, 30, 31, 32, 33, 34, 35, 36, 37, 38, 39, 40, 41, 42, 43, 44, 45, 46, 47, 48, 49] (by decide +kernel) (by decide +kernel)
set_option maxRecDepth 20000 in
theorem gX5_run_X5_way : GoodIn wsX5_run (wsV RX5 127 RX5 yX5_way wsX5_way) := goodIn_app (goodIn_of _ (by decide +kernel)) ggX5_run_X5_way
theorem dX5_run_0 : decode cX5_run 0 = .ok (.aload_n 0, 1) := by decide +kernel
theorem dX5_run_1 : decode cX5_run 1 = .ok (.iload_n 1, 1) := by decide +kernel
theorem dX5_run_2 : decode cX5_run 2 = .ok (.aload_n 0, 1) := by decide +kernel
theorem dX5_run_3 : decode cX5_run 3 = .ok (.getfield 47, 3) := by decide +kernel
theorem dX5_run_6 : decode cX5_run 6 = .ok (.iload_n 1, 1) := by decide +kernel
theorem dX5_run_7 : decode cX5_run 7 = .ok (.iaload, 1) := by decide +kernel
theorem dX5_run_8 : decode cX5_run 8 = .ok (.iload_n 2, 1) := by decide +kernel
theorem dX5_run_9 : decode cX5_run 9 = .ok (.invokevirtual 127, 3) := by decide +kernel
theorem dX5_run_12 : decode cX5_run 12 = .ok (.iconst 3, 1) := by decide +kernel
theorem dX5_run_13 : decode cX5_run 13 = .ok (.iload_n 3, 1) := by decide +kernel
theorem dX5_run_14 : decode cX5_run 14 = .ok (.imul, 1) := by decide +kernel
theorem dX5_run_15 : decode cX5_run 15 = .ok (.iadd, 1) := by decide +kernel
theorem dX5_run_16 : decode cX5_run 16 = .ok (.istore 4, 2) := by decide +kernel
theorem dX5_run_18 : decode cX5_run 18 = .ok (.aload_n 0, 1) := by decide +kernel
theorem dX5_run_19 : decode cX5_run 19 = .ok (.getfield 47, 3) := by decide +kernel
theorem dX5_run_22 : decode cX5_run 22 = .ok (.iload_n 1, 1) := by decide +kernel
theorem dX5_run_23 : decode cX5_run 23 = .ok (.iload_n 2, 1) := by decide +kernel
theorem dX5_run_24 : decode cX5_run 24 = .ok (.iload_n 3, 1) := by decide +kernel
theorem dX5_run_25 : decode cX5_run 25 = .ok (.iadd, 1) := by decide +kernel
theorem dX5_run_26 : decode cX5_run 26 = .ok (.iastore, 1) := by decide +kernel
theorem dX5_run_27 : decode cX5_run 27 = .ok (.aload_n 0, 1) := by decide +kernel
theorem dX5_run_28 : decode cX5_run 28 = .ok (.getfield 38, 3) := by decide +kernel
theorem dX5_run_31 : decode cX5_run 31 = .ok (.iload_n 1, 1) := by decide +kernel
theorem dX5_run_32 : decode cX5_run 32 = .ok (.dup2, 1) := by decide +kernel
theorem dX5_run_33 : decode cX5_run 33 = .ok (.iaload, 1) := by decide +kernel
theorem dX5_run_34 : decode cX5_run 34 = .ok (.iload 4, 2) := by decide +kernel
theorem dX5_run_36 : decode cX5_run 36 = .ok (.iadd, 1) := by decide +kernel
theorem dX5_run_37 : decode cX5_run 37 = .ok (.iastore, 1) := by decide +kernel
theorem dX5_run_38 : decode cX5_run 38 = .ok (.aload_n 0, 1) := by decide +kernel
theorem dX5_run_39 : decode cX5_run 39 = .ok (.getfield 41, 3) := by decide +kernel
theorem dX5_run_42 : decode cX5_run 42 = .ok (.iload_n 1, 1) := by decide +kernel
theorem dX5_run_43 : decode cX5_run 43 = .ok (.dup2, 1) := by decide +kernel
theorem dX5_run_44 : decode cX5_run 44 = .ok (.iaload, 1) := by decide +kernel
theorem dX5_run_45 : decode cX5_run 45 = .ok (.iconst 1, 1) := by decide +kernel
theorem dX5_run_46 : decode cX5_run 46 = .ok (.iadd, 1) := by decide +kernel
theorem dX5_run_47 : decode cX5_run 47 = .ok (.iastore, 1) := by decide +kernel
theorem dX5_run_48 : decode cX5_run 48 = .ok (.iload 4, 2) := by decide +kernel
theorem dX5_run_50 : decode cX5_run 50 = .ok (.ireturn, 1) := by decide +kernel
theorem dX5_behind_0 : decode cX5_behind 0 = .ok (.bipush 10, 2) := by decide +kernel
theorem dX5_behind_2 : decode cX5_behind 2 = .ok (.iload_n 1, 1) := by decide +kernel
theorem dX5_behind_3 : decode cX5_behind 3 = .ok (.imul, 1) := by decide +kernel
theorem dX5_behind_4 : decode cX5_behind 4 = .ok (.aload_n 0, 1) := by decide +kernel
theorem dX5_behind_5 : decode cX5_behind 5 = .ok (.getfield 26, 3) := by decide +kernel
theorem dX5_behind_8 : decode cX5_behind 8 = .ok (.iload_n 1, 1) := by decide +kernel
theorem dX5_behind_9 : decode cX5_behind 9 = .ok (.iaload, 1) := by decide +kernel
theorem dX5_behind_10 : decode cX5_behind 10 = .ok (.iadd, 1) := by decide +kernel
theorem dX5_behind_11 : decode cX5_behind 11 = .ok (.iconst 1, 1) := by decide +kernel
theorem dX5_behind_12 : decode cX5_behind 12 = .ok (.isub, 1) := by decide +kernel
theorem dX5_behind_13 : decode cX5_behind 13 = .ok (.istore_n 2, 1) := by decide +kernel
theorem dX5_behind_14 : decode cX5_behind 14 = .ok (.aload_n 0, 1) := by decide +kernel
theorem dX5_behind_15 : decode cX5_behind 15 = .ok (.getfield 26, 3) := by decide +kernel
theorem dX5_behind_18 : decode cX5_behind 18 = .ok (.iload_n 1, 1) := by decide +kernel
theorem dX5_behind_19 : decode cX5_behind 19 = .ok (.iaload, 1) := by decide +kernel
theorem dX5_behind_20 : decode cX5_behind 20 = .ok (.ifCond .ne 7, 3) := by decide +kernel
theorem dX5_behind_23 : decode cX5_behind 23 = .ok (.iconst 0, 1) := by decide +kernel
theorem dX5_behind_24 : decode cX5_behind 24 = .ok (.goto 16, 3) := by decide +kernel
theorem dX5_behind_27 : decode cX5_behind 27 = .ok (.aload_n 0, 1) := by decide +kernel
theorem dX5_behind_28 : decode cX5_behind 28 = .ok (.getfield 29, 3) := by decide +kernel
theorem dX5_behind_31 : decode cX5_behind 31 = .ok (.iload_n 2, 1) := by decide +kernel
theorem dX5_behind_32 : decode cX5_behind 32 = .ok (.iaload, 1) := by decide +kernel
theorem dX5_behind_33 : decode cX5_behind 33 = .ok (.aload_n 0, 1) := by decide +kernel
theorem dX5_behind_34 : decode cX5_behind 34 = .ok (.getfield 32, 3) := by decide +kernel
theorem dX5_behind_37 : decode cX5_behind 37 = .ok (.iload_n 2, 1) := by decide +kernel
theorem dX5_behind_38 : decode cX5_behind 38 = .ok (.iaload, 1) := by decide +kernel
theorem dX5_behind_39 : decode cX5_behind 39 = .ok (.iadd, 1) := by decide +kernel
theorem dX5_behind_40 : decode cX5_behind 40 = .ok (.ireturn, 1) := by decide +kernel
set_option maxRecDepth 20000 in
theorem ggX5_write_X5_hasTape : GoodIn wsX5_write wsX5_hasTape := goodIn_r _ [11, 1, 12, 13, 14, 10, 15, 16, 17, 18, 19, 56, 57, 58, 59, 60, 61, 62, 63, 64, 65, 66, 67, 68, 69, 70, 71, 72, 73, 74, 75, 76, 77, 78, 79, 80, 81] (by decide +kernel) (by decide +kernel)
set_option maxRecDepth 20000 in
theorem gX5_write_X5_hasTape : GoodIn wsX5_write (wsV RX5 124 RX5 yX5_hasTape wsX5_hasTape) := goodIn_app (goodIn_of _ (by decide +kernel)) ggX5_write_X5_hasTape
set_option maxRecDepth 20000 in
theorem ggX5_write_X5_isClean : GoodIn wsX5_write wsX5_isClean := goodIn_r _ [23, 24, 56, 57, 58, 59, 60, 61, 62, 63, 64, 65, 66, 67, 68, 69, 70, 71, 72, 73, 74, 75, 76, 77, 78, 79, 80, 81] (by decide +kernel) (by decide +kernel)
set_option maxRecDepth 20000 in
theorem gX5_write_X5_isClean : GoodIn wsX5_write (wsV RX5 131 RX5 yX5_isClean wsX5_isClean) := goodIn_app (goodIn_of _ (by decide +kernel)) ggX5_write_X5_isClean
set_option maxRecDepth 20000 in
theorem ggX5_write_X5_behind : GoodIn wsX5_write wsX5_behind := goodIn_r _ [28, 2, 5, 6, 56, 57, 58, 59, 60, 61, 62, 63, 64, 65, 66, 67, 68, 69, 70, 71, 72, 73, 74, 75, 76, 77, 78, 79, 80, 81] (by decide +kernel) (by decide +kernel)
set_option maxRecDepth 20000 in
theorem gX5_write_X5_behind : GoodIn wsX5_write (wsV RX5 134 RX5 yX5_behind wsX5_behind) := goodIn_app (goodIn_of _ (by decide +kernel)) ggX5_write_X5_behind
set_option maxRecDepth 20000 in
theorem ggX5_write_X5_isDrive : GoodIn wsX5_write wsX5_isDrive := goodIn_r _ [15, 16, 17, 18, 10, 19, 56, 57, 58, 59, 60, 61, 62, 63, 64, 65, 66, 67, 68, 69, 70, 71, 72, 73, 74, 75, 76, 77, 78, 79, 80, 81] (by decide +kernel) (by decide +kernel)
set_option maxRecDepth 20000 in
theorem gX5_write_X5_isDrive : GoodIn wsX5_write (wsV RX5 92 RX5 yX5_isDrive wsX5_isDrive) := goodIn_app (goodIn_of _ (by decide +kernel)) ggX5_write_X5_isDrive
set_option maxRecDepth 20000 in
theorem ggX5_write_X5_isIn : GoodIn wsX5_write wsX5_isIn := goodIn_r _ [19] (by decide +kernel) (by decide +kernel)
set_option maxRecDepth 20000 in
theorem gX5_write_X5_isIn : GoodIn wsX5_write (va_wsS RX5 81 yX5_isIn wsX5_isIn) := goodIn_app (goodIn_of _ (by decide +kernel)) ggX5_write_X5_isIn
set_option maxRecDepth 20000 in
theorem ggX5_write_X5_mayAll : GoodIn wsX5_write wsX5_mayAll := goodIn_r _ [32, 33, 56, 57, 58, 59, 60, 61, 62, 63, 64, 65, 66, 67, 68, 69, 70, 71, 72, 73, 74, 75, 76, 77, 78, 79, 80, 81] (by decide +kernel) (by decide +kernel)
set_option maxRecDepth 20000 in
theorem gX5_write_X5_mayAll : GoodIn wsX5_write (wsV RX5 137 RX5 yX5_mayAll wsX5_mayAll) := goodIn_app (goodIn_of _ (by decide +kernel)) ggX5_write_X5_mayAll
set_option maxRecDepth 20000 in
theorem ggX5_write_X5_run : GoodIn wsX5_write wsX5_run := goodIn_r _ [37, 38, 39, 24, 40, 41, 42, 10, 43, 1, 3, 4, 44, 45, 46, 47, 48, 49, 50, 51, 52, 53, 54, 55, 56, 57, 58, 59, 60, 61, 62, 63, 64, 65, 66, 67, 68, 69, 70, 71, 72, 73, 74, 75, 76, 77, 78, 79, 80, 81] (by decide +kernel) (by decide +kernel)
set_option maxRecDepth 20000 in
theorem gX5_write_X5_run : GoodIn wsX5_write (wsV RX5 141 RX5 yX5_run wsX5_run) := goodIn_app (goodIn_of _ (by decide +kernel)) ggX5_write_X5_run
theorem dX5_write_0 : decode cX5_write 0 = .ok (.aload_n 0, 1) := by decide +kernel
theorem dX5_write_1 : decode cX5_write 1 = .ok (.iload_n 1, 1) := by decide +kernel
theorem dX5_write_2 : decode cX5_write 2 = .ok (.invokevirtual 124, 3) := by decide +kernel
theorem dX5_write_5 : decode cX5_write 5 = .ok (.istore_n 3, 1) := by decide +kernel
theorem dX5_write_6 : decode cX5_write 6 = .ok (.iload_n 3, 1) := by decide +kernel
theorem dX5_write_7 : decode cX5_write 7 = .ok (.ifCond .eq 12, 3) := by decide +kernel
theorem dX5_write_10 : decode cX5_write 10 = .ok (.aload_n 0, 1) := by decide +kernel
theorem dX5_write_11 : decode cX5_write 11 = .ok (.getfield 44, 3) := by decide +kernel
theorem dX5_write_14 : decode cX5_write 14 = .ok (.iload_n 1, 1) := by decide +kernel
theorem dX5_write_15 : decode cX5_write 15 = .ok (.iaload, 1) := by decide +kernel
theorem dX5_write_16 : decode cX5_write 16 = .ok (.goto 4, 3) := by decide +kernel
theorem dX5_write_19 : decode cX5_write 19 = .ok (.iconst 0, 1) := by decide +kernel
theorem dX5_write_20 : decode cX5_write 20 = .ok (.istore 4, 2) := by decide +kernel
theorem dX5_write_22 : decode cX5_write 22 = .ok (.iload_n 3, 1) := by decide +kernel
theorem dX5_write_23 : decode cX5_write 23 = .ok (.ifCond .eq 57, 3) := by decide +kernel
theorem dX5_write_26 : decode cX5_write 26 = .ok (.aload_n 0, 1) := by decide +kernel
theorem dX5_write_27 : decode cX5_write 27 = .ok (.iload_n 1, 1) := by decide +kernel
theorem dX5_write_28 : decode cX5_write 28 = .ok (.invokevirtual 131, 3) := by decide +kernel
theorem dX5_write_31 : decode cX5_write 31 = .ok (.ifCond .eq 49, 3) := by decide +kernel
theorem dX5_write_34 : decode cX5_write 34 = .ok (.aload_n 0, 1) := by decide +kernel
theorem dX5_write_35 : decode cX5_write 35 = .ok (.getfield 26, 3) := by decide +kernel
theorem dX5_write_38 : decode cX5_write 38 = .ok (.iload 4, 2) := by decide +kernel
theorem dX5_write_40 : decode cX5_write 40 = .ok (.iaload, 1) := by decide +kernel
theorem dX5_write_41 : decode cX5_write 41 = .ok (.bipush 10, 2) := by decide +kernel
theorem dX5_write_43 : decode cX5_write 43 = .ok (.if_icmp .ge 37, 3) := by decide +kernel
theorem dX5_write_46 : decode cX5_write 46 = .ok (.aload_n 0, 1) := by decide +kernel
theorem dX5_write_47 : decode cX5_write 47 = .ok (.iload 4, 2) := by decide +kernel
theorem dX5_write_49 : decode cX5_write 49 = .ok (.invokevirtual 134, 3) := by decide +kernel
theorem dX5_write_52 : decode cX5_write 52 = .ok (.i2l, 1) := by decide +kernel
theorem dX5_write_53 : decode cX5_write 53 = .ok (.iload_n 2, 1) := by decide +kernel
theorem dX5_write_54 : decode cX5_write 54 = .ok (.i2l, 1) := by decide +kernel
theorem dX5_write_55 : decode cX5_write 55 = .ok (.ladd, 1) := by decide +kernel
theorem dX5_write_56 : decode cX5_write 56 = .ok (.aload_n 0, 1) := by decide +kernel
theorem dX5_write_57 : decode cX5_write 57 = .ok (.getfield 7, 3) := by decide +kernel
theorem dX5_write_60 : decode cX5_write 60 = .ok (.iload 4, 2) := by decide +kernel
theorem dX5_write_62 : decode cX5_write 62 = .ok (.iaload, 1) := by decide +kernel
theorem dX5_write_63 : decode cX5_write 63 = .ok (.aload_n 0, 1) := by decide +kernel
theorem dX5_write_64 : decode cX5_write 64 = .ok (.getfield 13, 3) := by decide +kernel
theorem dX5_write_67 : decode cX5_write 67 = .ok (.iload 4, 2) := by decide +kernel
theorem dX5_write_69 : decode cX5_write 69 = .ok (.iaload, 1) := by decide +kernel
theorem dX5_write_70 : decode cX5_write 70 = .ok (.imul, 1) := by decide +kernel
theorem dX5_write_71 : decode cX5_write 71 = .ok (.i2l, 1) := by decide +kernel
theorem dX5_write_72 : decode cX5_write 72 = .ok (.lcmp, 1) := by decide +kernel
theorem dX5_write_73 : decode cX5_write 73 = .ok (.ifCond .gt 7, 3) := by decide +kernel
theorem dX5_write_76 : decode cX5_write 76 = .ok (.iconst 1, 1) := by decide +kernel
theorem dX5_write_77 : decode cX5_write 77 = .ok (.goto 4, 3) := by decide +kernel
theorem dX5_write_80 : decode cX5_write 80 = .ok (.iconst 0, 1) := by decide +kernel
theorem dX5_write_81 : decode cX5_write 81 = .ok (.istore 5, 2) := by decide +kernel
theorem dX5_write_83 : decode cX5_write 83 = .ok (.aload_n 0, 1) := by decide +kernel
theorem dX5_write_84 : decode cX5_write 84 = .ok (.aload_n 0, 1) := by decide +kernel
theorem dX5_write_85 : decode cX5_write 85 = .ok (.iload_n 1, 1) := by decide +kernel
theorem dX5_write_86 : decode cX5_write 86 = .ok (.invokevirtual 92, 3) := by decide +kernel
theorem dX5_write_89 : decode cX5_write 89 = .ok (.iload_n 2, 1) := by decide +kernel
theorem dX5_write_90 : decode cX5_write 90 = .ok (.iconst 1, 1) := by decide +kernel
theorem dX5_write_91 : decode cX5_write 91 = .ok (.bipush 100, 2) := by decide +kernel
theorem dX5_write_93 : decode cX5_write 93 = .ok (.invokestatic 81, 3) := by decide +kernel
theorem dX5_write_96 : decode cX5_write 96 = .ok (.iload 5, 2) := by decide +kernel
theorem dX5_write_98 : decode cX5_write 98 = .ok (.invokevirtual 137, 3) := by decide +kernel
theorem dX5_write_101 : decode cX5_write 101 = .ok (.ifCond .ne 5, 3) := by decide +kernel
theorem dX5_write_104 : decode cX5_write 104 = .ok (.iconst 0, 1) := by decide +kernel
theorem dX5_write_105 : decode cX5_write 105 = .ok (.ireturn, 1) := by decide +kernel
theorem dX5_write_106 : decode cX5_write 106 = .ok (.aload_n 0, 1) := by decide +kernel
theorem dX5_write_107 : decode cX5_write 107 = .ok (.iload 4, 2) := by decide +kernel
theorem dX5_write_109 : decode cX5_write 109 = .ok (.invokevirtual 134, 3) := by decide +kernel
theorem dX5_write_112 : decode cX5_write 112 = .ok (.istore 6, 2) := by decide +kernel
theorem dX5_write_114 : decode cX5_write 114 = .ok (.aload_n 0, 1) := by decide +kernel
theorem dX5_write_115 : decode cX5_write 115 = .ok (.getfield 29, 3) := by decide +kernel
theorem dX5_write_118 : decode cX5_write 118 = .ok (.bipush 10, 2) := by decide +kernel
theorem dX5_write_120 : decode cX5_write 120 = .ok (.iload 4, 2) := by decide +kernel
theorem dX5_write_122 : decode cX5_write 122 = .ok (.imul, 1) := by decide +kernel
theorem dX5_write_123 : decode cX5_write 123 = .ok (.aload_n 0, 1) := by decide +kernel
theorem dX5_write_124 : decode cX5_write 124 = .ok (.getfield 26, 3) := by decide +kernel
theorem dX5_write_127 : decode cX5_write 127 = .ok (.iload 4, 2) := by decide +kernel
theorem dX5_write_129 : decode cX5_write 129 = .ok (.iaload, 1) := by decide +kernel
theorem dX5_write_130 : decode cX5_write 130 = .ok (.iadd, 1) := by decide +kernel
theorem dX5_write_131 : decode cX5_write 131 = .ok (.iload 6, 2) := by decide +kernel
theorem dX5_write_133 : decode cX5_write 133 = .ok (.iastore, 1) := by decide +kernel
theorem dX5_write_134 : decode cX5_write 134 = .ok (.aload_n 0, 1) := by decide +kernel
theorem dX5_write_135 : decode cX5_write 135 = .ok (.getfield 32, 3) := by decide +kernel
theorem dX5_write_138 : decode cX5_write 138 = .ok (.bipush 10, 2) := by decide +kernel
theorem dX5_write_140 : decode cX5_write 140 = .ok (.iload 4, 2) := by decide +kernel
theorem dX5_write_142 : decode cX5_write 142 = .ok (.imul, 1) := by decide +kernel
theorem dX5_write_143 : decode cX5_write 143 = .ok (.aload_n 0, 1) := by decide +kernel
theorem dX5_write_144 : decode cX5_write 144 = .ok (.getfield 26, 3) := by decide +kernel
theorem dX5_write_147 : decode cX5_write 147 = .ok (.iload 4, 2) := by decide +kernel
theorem dX5_write_149 : decode cX5_write 149 = .ok (.iaload, 1) := by decide +kernel
theorem dX5_write_150 : decode cX5_write 150 = .ok (.iadd, 1) := by decide +kernel
theorem dX5_write_151 : decode cX5_write 151 = .ok (.iload_n 2, 1) := by decide +kernel
theorem dX5_write_152 : decode cX5_write 152 = .ok (.iastore, 1) := by decide +kernel
theorem dX5_write_153 : decode cX5_write 153 = .ok (.aload_n 0, 1) := by decide +kernel
theorem dX5_write_154 : decode cX5_write 154 = .ok (.getfield 26, 3) := by decide +kernel
theorem dX5_write_157 : decode cX5_write 157 = .ok (.iload 4, 2) := by decide +kernel
theorem dX5_write_159 : decode cX5_write 159 = .ok (.dup2, 1) := by decide +kernel
theorem dX5_write_160 : decode cX5_write 160 = .ok (.iaload, 1) := by decide +kernel
theorem dX5_write_161 : decode cX5_write 161 = .ok (.iconst 1, 1) := by decide +kernel
theorem dX5_write_162 : decode cX5_write 162 = .ok (.iadd, 1) := by decide +kernel
theorem dX5_write_163 : decode cX5_write 163 = .ok (.iastore, 1) := by decide +kernel
theorem dX5_write_164 : decode cX5_write 164 = .ok (.aload_n 0, 1) := by decide +kernel
theorem dX5_write_165 : decode cX5_write 165 = .ok (.iload_n 1, 1) := by decide +kernel
theorem dX5_write_166 : decode cX5_write 166 = .ok (.iload 6, 2) := by decide +kernel
theorem dX5_write_168 : decode cX5_write 168 = .ok (.iload_n 2, 1) := by decide +kernel
theorem dX5_write_169 : decode cX5_write 169 = .ok (.invokevirtual 141, 3) := by decide +kernel
theorem dX5_write_172 : decode cX5_write 172 = .ok (.ireturn, 1) := by decide +kernel
set_option maxRecDepth 20000 in
theorem ggX5_read_X5_hasTape : GoodIn wsX5_read wsX5_hasTape := goodIn_r _ [8, 1, 9, 10, 11, 7, 12, 13, 14, 15, 16, 61, 62, 63, 64, 65, 66, 67, 68, 69, 70, 71, 72, 73, 74, 75, 76, 77, 78, 79, 80, 81, 82, 83, 84, 85, 86] (by decide +kernel) (by decide +kernel)
set_option maxRecDepth 20000 in
theorem gX5_read_X5_hasTape : GoodIn wsX5_read (wsV RX5 124 RX5 yX5_hasTape wsX5_hasTape) := goodIn_app (goodIn_of _ (by decide +kernel)) ggX5_read_X5_hasTape
set_option maxRecDepth 20000 in
theorem ggX5_read_X5_isDrive : GoodIn wsX5_read wsX5_isDrive := goodIn_r _ [12, 13, 14, 15, 7, 16, 61, 62, 63, 64, 65, 66, 67, 68, 69, 70, 71, 72, 73, 74, 75, 76, 77, 78, 79, 80, 81, 82, 83, 84, 85, 86] (by decide +kernel) (by decide +kernel)
set_option maxRecDepth 20000 in
theorem gX5_read_X5_isDrive : GoodIn wsX5_read (wsV RX5 92 RX5 yX5_isDrive wsX5_isDrive) := goodIn_app (goodIn_of _ (by decide +kernel)) ggX5_read_X5_isDrive
set_option maxRecDepth 20000 in
theorem ggX5_read_X5_isFile : GoodIn wsX5_read wsX5_isFile := goodIn_r _ [20, 21, 22, 23, 24, 7, 25, 26, 14, 15, 16, 61, 62, 63, 64, 65, 66, 67, 68, 69, 70, 71, 72, 73, 74, 75, 76, 77, 78, 79, 80, 81, 82, 83, 84, 85, 86] (by decide +kernel) (by decide +kernel)
set_option maxRecDepth 20000 in
theorem gX5_read_X5_isFile : GoodIn wsX5_read (wsV RX5 106 RX5 yX5_isFile wsX5_isFile) := goodIn_app (goodIn_of _ (by decide +kernel)) ggX5_read_X5_isFile
set_option maxRecDepth 20000 in
theorem ggX5_read_X5_isClean : GoodIn wsX5_read wsX5_isClean := goodIn_r _ [30, 31, 61, 62, 63, 64, 65, 66, 67, 68, 69, 70, 71, 72, 73, 74, 75, 76, 77, 78, 79, 80, 81, 82, 83, 84, 85, 86] (by decide +kernel) (by decide +kernel)
set_option maxRecDepth 20000 in
theorem gX5_read_X5_isClean : GoodIn wsX5_read (wsV RX5 131 RX5 yX5_isClean wsX5_isClean) := goodIn_app (goodIn_of _ (by decide +kernel)) ggX5_read_X5_isClean
set_option maxRecDepth 20000 in
theorem ggX5_read_X5_mayBoth : GoodIn wsX5_read wsX5_mayBoth := goodIn_r _ [35, 36, 61, 62, 63, 64, 65, 66, 67, 68, 69, 70, 71, 72, 73, 74, 75, 76, 77, 78, 79, 80, 81, 82, 83, 84, 85, 86] (by decide +kernel) (by decide +kernel)
set_option maxRecDepth 20000 in
theorem gX5_read_X5_mayBoth : GoodIn wsX5_read (wsV RX5 95 RX5 yX5_mayBoth wsX5_mayBoth) := goodIn_app (goodIn_of _ (by decide +kernel)) ggX5_read_X5_mayBoth
set_option maxRecDepth 20000 in
theorem ggX5_read_X5_run : GoodIn wsX5_read wsX5_run := goodIn_r _ [40, 41, 42, 31, 43, 44, 45, 7, 46, 1, 47, 48, 49, 50, 51, 52, 53, 54, 55, 56, 57, 58, 59, 60, 61, 62, 63, 64, 65, 66, 67, 68, 69, 70, 71, 72, 73, 74, 75, 76, 77, 78, 79, 80, 81, 82, 83, 84, 85, 86] (by decide +kernel) (by decide +kernel)
set_option maxRecDepth 20000 in
theorem gX5_read_X5_run : GoodIn wsX5_read (wsV RX5 141 RX5 yX5_run wsX5_run) := goodIn_app (goodIn_of _ (by decide +kernel)) ggX5_read_X5_run
theorem dX5_read_0 : decode cX5_read 0 = .ok (.aload_n 0, 1) := by decide +kernel
theorem dX5_read_1 : decode cX5_read 1 = .ok (.iload_n 1, 1) := by decide +kernel
theorem dX5_read_2 : decode cX5_read 2 = .ok (.invokevirtual 124, 3) := by decide +kernel
theorem dX5_read_5 : decode cX5_read 5 = .ok (.istore_n 3, 1) := by decide +kernel
theorem dX5_read_6 : decode cX5_read 6 = .ok (.aload_n 0, 1) := by decide +kernel
theorem dX5_read_7 : decode cX5_read 7 = .ok (.aload_n 0, 1) := by decide +kernel
theorem dX5_read_8 : decode cX5_read 8 = .ok (.iload_n 1, 1) := by decide +kernel
theorem dX5_read_9 : decode cX5_read 9 = .ok (.invokevirtual 92, 3) := by decide +kernel
theorem dX5_read_12 : decode cX5_read 12 = .ok (.ifCond .eq 25, 3) := by decide +kernel
theorem dX5_read_15 : decode cX5_read 15 = .ok (.iload_n 3, 1) := by decide +kernel
theorem dX5_read_16 : decode cX5_read 16 = .ok (.ifCond .eq 17, 3) := by decide +kernel
theorem dX5_read_19 : decode cX5_read 19 = .ok (.aload_n 0, 1) := by decide +kernel
theorem dX5_read_20 : decode cX5_read 20 = .ok (.aload_n 0, 1) := by decide +kernel
theorem dX5_read_21 : decode cX5_read 21 = .ok (.getfield 44, 3) := by decide +kernel
theorem dX5_read_24 : decode cX5_read 24 = .ok (.iload_n 1, 1) := by decide +kernel
theorem dX5_read_25 : decode cX5_read 25 = .ok (.iaload, 1) := by decide +kernel
theorem dX5_read_26 : decode cX5_read 26 = .ok (.iload_n 2, 1) := by decide +kernel
theorem dX5_read_27 : decode cX5_read 27 = .ok (.invokevirtual 106, 3) := by decide +kernel
theorem dX5_read_30 : decode cX5_read 30 = .ok (.ifCond .eq 7, 3) := by decide +kernel
theorem dX5_read_33 : decode cX5_read 33 = .ok (.iconst 1, 1) := by decide +kernel
theorem dX5_read_34 : decode cX5_read 34 = .ok (.goto 4, 3) := by decide +kernel
theorem dX5_read_37 : decode cX5_read 37 = .ok (.iconst 0, 1) := by decide +kernel
theorem dX5_read_38 : decode cX5_read 38 = .ok (.iload_n 3, 1) := by decide +kernel
theorem dX5_read_39 : decode cX5_read 39 = .ok (.ifCond .eq 15, 3) := by decide +kernel
theorem dX5_read_42 : decode cX5_read 42 = .ok (.aload_n 0, 1) := by decide +kernel
theorem dX5_read_43 : decode cX5_read 43 = .ok (.iload_n 1, 1) := by decide +kernel
theorem dX5_read_44 : decode cX5_read 44 = .ok (.invokevirtual 131, 3) := by decide +kernel
theorem dX5_read_47 : decode cX5_read 47 = .ok (.ifCond .eq 7, 3) := by decide +kernel
theorem dX5_read_50 : decode cX5_read 50 = .ok (.iconst 1, 1) := by decide +kernel
theorem dX5_read_51 : decode cX5_read 51 = .ok (.goto 4, 3) := by decide +kernel
theorem dX5_read_54 : decode cX5_read 54 = .ok (.iconst 0, 1) := by decide +kernel
theorem dX5_read_55 : decode cX5_read 55 = .ok (.invokevirtual 95, 3) := by decide +kernel
theorem dX5_read_58 : decode cX5_read 58 = .ok (.ifCond .ne 5, 3) := by decide +kernel
theorem dX5_read_61 : decode cX5_read 61 = .ok (.iconst 0, 1) := by decide +kernel
theorem dX5_read_62 : decode cX5_read 62 = .ok (.ireturn, 1) := by decide +kernel
theorem dX5_read_63 : decode cX5_read 63 = .ok (.bipush 10, 2) := by decide +kernel
theorem dX5_read_65 : decode cX5_read 65 = .ok (.aload_n 0, 1) := by decide +kernel
theorem dX5_read_66 : decode cX5_read 66 = .ok (.getfield 44, 3) := by decide +kernel
theorem dX5_read_69 : decode cX5_read 69 = .ok (.iload_n 1, 1) := by decide +kernel
theorem dX5_read_70 : decode cX5_read 70 = .ok (.iaload, 1) := by decide +kernel
theorem dX5_read_71 : decode cX5_read 71 = .ok (.imul, 1) := by decide +kernel
theorem dX5_read_72 : decode cX5_read 72 = .ok (.iload_n 2, 1) := by decide +kernel
theorem dX5_read_73 : decode cX5_read 73 = .ok (.iadd, 1) := by decide +kernel
theorem dX5_read_74 : decode cX5_read 74 = .ok (.istore 4, 2) := by decide +kernel
theorem dX5_read_76 : decode cX5_read 76 = .ok (.aload_n 0, 1) := by decide +kernel
theorem dX5_read_77 : decode cX5_read 77 = .ok (.iload_n 1, 1) := by decide +kernel
theorem dX5_read_78 : decode cX5_read 78 = .ok (.aload_n 0, 1) := by decide +kernel
theorem dX5_read_79 : decode cX5_read 79 = .ok (.getfield 29, 3) := by decide +kernel
theorem dX5_read_82 : decode cX5_read 82 = .ok (.iload 4, 2) := by decide +kernel
theorem dX5_read_84 : decode cX5_read 84 = .ok (.iaload, 1) := by decide +kernel
theorem dX5_read_85 : decode cX5_read 85 = .ok (.aload_n 0, 1) := by decide +kernel
theorem dX5_read_86 : decode cX5_read 86 = .ok (.getfield 32, 3) := by decide +kernel
theorem dX5_read_89 : decode cX5_read 89 = .ok (.iload 4, 2) := by decide +kernel
theorem dX5_read_91 : decode cX5_read 91 = .ok (.iaload, 1) := by decide +kernel
theorem dX5_read_92 : decode cX5_read 92 = .ok (.invokevirtual 141, 3) := by decide +kernel
theorem dX5_read_95 : decode cX5_read 95 = .ok (.ireturn, 1) := by decide +kernel
set_option maxRecDepth 20000 in
theorem ggX5_clean_X5_isDrive : GoodIn wsX5_clean wsX5_isDrive := goodIn_r _ [7, 8, 9, 10, 6, 11, 22, 23, 24, 25, 26, 27, 28, 29, 30, 31, 32, 33, 34, 35, 36, 37, 38, 39, 40, 41, 42, 43, 44, 45, 46, 47] (by decide +kernel) (by decide +kernel)
set_option maxRecDepth 20000 in
theorem gX5_clean_X5_isDrive : GoodIn wsX5_clean (wsV RX5 92 RX5 yX5_isDrive wsX5_isDrive) := goodIn_app (goodIn_of _ (by decide +kernel)) ggX5_clean_X5_isDrive
set_option maxRecDepth 20000 in
theorem ggX5_clean_X5_hasTape : GoodIn wsX5_clean wsX5_hasTape := goodIn_r _ [15, 16, 3, 4, 5, 6, 7, 8, 9, 10, 11, 22, 23, 24, 25, 26, 27, 28, 29, 30, 31, 32, 33, 34, 35, 36, 37, 38, 39, 40, 41, 42, 43, 44, 45, 46, 47] (by decide +kernel) (by decide +kernel)
set_option maxRecDepth 20000 in
theorem gX5_clean_X5_hasTape : GoodIn wsX5_clean (wsV RX5 124 RX5 yX5_hasTape wsX5_hasTape) := goodIn_app (goodIn_of _ (by decide +kernel)) ggX5_clean_X5_hasTape
set_option maxRecDepth 20000 in
theorem ggX5_clean_X5_mayBoth : GoodIn wsX5_clean wsX5_mayBoth := goodIn_r _ [20, 21, 22, 23, 24, 25, 26, 27, 28, 29, 30, 31, 32, 33, 34, 35, 36, 37, 38, 39, 40, 41, 42, 43, 44, 45, 46, 47] (by decide +kernel) (by decide +kernel)
set_option maxRecDepth 20000 in
theorem gX5_clean_X5_mayBoth : GoodIn wsX5_clean (wsV RX5 95 RX5 yX5_mayBoth wsX5_mayBoth) := goodIn_app (goodIn_of _ (by decide +kernel)) ggX5_clean_X5_mayBoth
theorem dX5_clean_0 : decode cX5_clean 0 = .ok (.aload_n 0, 1) := by decide +kernel
theorem dX5_clean_1 : decode cX5_clean 1 = .ok (.aload_n 0, 1) := by decide +kernel
theorem dX5_clean_2 : decode cX5_clean 2 = .ok (.iload_n 1, 1) := by decide +kernel
theorem dX5_clean_3 : decode cX5_clean 3 = .ok (.invokevirtual 92, 3) := by decide +kernel
theorem dX5_clean_6 : decode cX5_clean 6 = .ok (.aload_n 0, 1) := by decide +kernel
theorem dX5_clean_7 : decode cX5_clean 7 = .ok (.iload_n 1, 1) := by decide +kernel
theorem dX5_clean_8 : decode cX5_clean 8 = .ok (.invokevirtual 124, 3) := by decide +kernel
theorem dX5_clean_11 : decode cX5_clean 11 = .ok (.ifCond .ne 7, 3) := by decide +kernel
theorem dX5_clean_14 : decode cX5_clean 14 = .ok (.iconst 1, 1) := by decide +kernel
theorem dX5_clean_15 : decode cX5_clean 15 = .ok (.goto 4, 3) := by decide +kernel
theorem dX5_clean_18 : decode cX5_clean 18 = .ok (.iconst 0, 1) := by decide +kernel
theorem dX5_clean_19 : decode cX5_clean 19 = .ok (.invokevirtual 95, 3) := by decide +kernel
theorem dX5_clean_22 : decode cX5_clean 22 = .ok (.ifCond .ne 5, 3) := by decide +kernel
theorem dX5_clean_25 : decode cX5_clean 25 = .ok (.iconst 0, 1) := by decide +kernel
theorem dX5_clean_26 : decode cX5_clean 26 = .ok (.ireturn, 1) := by decide +kernel
theorem dX5_clean_27 : decode cX5_clean 27 = .ok (.aload_n 0, 1) := by decide +kernel
theorem dX5_clean_28 : decode cX5_clean 28 = .ok (.getfield 41, 3) := by decide +kernel
theorem dX5_clean_31 : decode cX5_clean 31 = .ok (.iload_n 1, 1) := by decide +kernel
theorem dX5_clean_32 : decode cX5_clean 32 = .ok (.iaload, 1) := by decide +kernel
theorem dX5_clean_33 : decode cX5_clean 33 = .ok (.istore_n 2, 1) := by decide +kernel
theorem dX5_clean_34 : decode cX5_clean 34 = .ok (.aload_n 0, 1) := by decide +kernel
theorem dX5_clean_35 : decode cX5_clean 35 = .ok (.getfield 41, 3) := by decide +kernel
theorem dX5_clean_38 : decode cX5_clean 38 = .ok (.iload_n 1, 1) := by decide +kernel
theorem dX5_clean_39 : decode cX5_clean 39 = .ok (.iconst 0, 1) := by decide +kernel
theorem dX5_clean_40 : decode cX5_clean 40 = .ok (.iastore, 1) := by decide +kernel
theorem dX5_clean_41 : decode cX5_clean 41 = .ok (.aload_n 0, 1) := by decide +kernel
theorem dX5_clean_42 : decode cX5_clean 42 = .ok (.getfield 38, 3) := by decide +kernel
theorem dX5_clean_45 : decode cX5_clean 45 = .ok (.iload_n 1, 1) := by decide +kernel
theorem dX5_clean_46 : decode cX5_clean 46 = .ok (.dup2, 1) := by decide +kernel
theorem dX5_clean_47 : decode cX5_clean 47 = .ok (.iaload, 1) := by decide +kernel
theorem dX5_clean_48 : decode cX5_clean 48 = .ok (.bipush 50, 2) := by decide +kernel
theorem dX5_clean_50 : decode cX5_clean 50 = .ok (.iadd, 1) := by decide +kernel
theorem dX5_clean_51 : decode cX5_clean 51 = .ok (.iastore, 1) := by decide +kernel
theorem dX5_clean_52 : decode cX5_clean 52 = .ok (.iload_n 2, 1) := by decide +kernel
theorem dX5_clean_53 : decode cX5_clean 53 = .ok (.ireturn, 1) := by decide +kernel
set_option maxRecDepth 20000 in
theorem ggX5_clock_X5_isDrive : GoodIn wsX5_clock wsX5_isDrive := goodIn_r _ [6, 7, 8, 9, 5, 10, 16, 17, 18, 19, 20, 21, 22, 23, 24, 25, 26, 27, 28, 29, 30, 31, 32, 33, 34, 35, 36, 37, 38, 39, 40, 41] (by decide +kernel) (by decide +kernel)
set_option maxRecDepth 20000 in
theorem gX5_clock_X5_isDrive : GoodIn wsX5_clock (wsV RX5 92 RX5 yX5_isDrive wsX5_isDrive) := goodIn_app (goodIn_of _ (by decide +kernel)) ggX5_clock_X5_isDrive
set_option maxRecDepth 20000 in
theorem ggX5_clock_X5_may : GoodIn wsX5_clock wsX5_may := goodIn_r _ [14, 15, 16, 17, 18, 19, 20, 21, 22, 23, 24, 25, 26, 27, 28, 29, 30, 31, 32, 33, 34, 35, 36, 37, 38, 39, 40, 41] (by decide +kernel) (by decide +kernel)
set_option maxRecDepth 20000 in
theorem gX5_clock_X5_may : GoodIn wsX5_clock (wsV RX5 102 RX5 yX5_may wsX5_may) := goodIn_app (goodIn_of _ (by decide +kernel)) ggX5_clock_X5_may
theorem dX5_clock_0 : decode cX5_clock 0 = .ok (.aload_n 0, 1) := by decide +kernel
theorem dX5_clock_1 : decode cX5_clock 1 = .ok (.aload_n 0, 1) := by decide +kernel
theorem dX5_clock_2 : decode cX5_clock 2 = .ok (.iload_n 1, 1) := by decide +kernel
theorem dX5_clock_3 : decode cX5_clock 3 = .ok (.invokevirtual 92, 3) := by decide +kernel
theorem dX5_clock_6 : decode cX5_clock 6 = .ok (.invokevirtual 102, 3) := by decide +kernel
theorem dX5_clock_9 : decode cX5_clock 9 = .ok (.ifCond .eq 12, 3) := by decide +kernel
theorem dX5_clock_12 : decode cX5_clock 12 = .ok (.aload_n 0, 1) := by decide +kernel
theorem dX5_clock_13 : decode cX5_clock 13 = .ok (.getfield 38, 3) := by decide +kernel
theorem dX5_clock_16 : decode cX5_clock 16 = .ok (.iload_n 1, 1) := by decide +kernel
theorem dX5_clock_17 : decode cX5_clock 17 = .ok (.iaload, 1) := by decide +kernel
theorem dX5_clock_18 : decode cX5_clock 18 = .ok (.goto 4, 3) := by decide +kernel
theorem dX5_clock_21 : decode cX5_clock 21 = .ok (.iconst 0, 1) := by decide +kernel
theorem dX5_clock_22 : decode cX5_clock 22 = .ok (.ireturn, 1) := by decide +kernel
set_option maxRecDepth 20000 in
theorem ggX5_stands_X5_isDrive : GoodIn wsX5_stands wsX5_isDrive := goodIn_r _ [7, 8, 9, 10, 6, 11, 17, 18, 19, 20, 21, 22, 23, 24, 25, 26, 27, 28, 29, 30, 31, 32, 33, 34, 35, 36, 37, 38, 39, 40, 41, 42] (by decide +kernel) (by decide +kernel)
set_option maxRecDepth 20000 in
theorem gX5_stands_X5_isDrive : GoodIn wsX5_stands (wsV RX5 92 RX5 yX5_isDrive wsX5_isDrive) := goodIn_app (goodIn_of _ (by decide +kernel)) ggX5_stands_X5_isDrive
set_option maxRecDepth 20000 in
theorem ggX5_stands_X5_may : GoodIn wsX5_stands wsX5_may := goodIn_r _ [15, 16, 17, 18, 19, 20, 21, 22, 23, 24, 25, 26, 27, 28, 29, 30, 31, 32, 33, 34, 35, 36, 37, 38, 39, 40, 41, 42] (by decide +kernel) (by decide +kernel)
set_option maxRecDepth 20000 in
theorem gX5_stands_X5_may : GoodIn wsX5_stands (wsV RX5 102 RX5 yX5_may wsX5_may) := goodIn_app (goodIn_of _ (by decide +kernel)) ggX5_stands_X5_may
theorem dX5_stands_0 : decode cX5_stands 0 = .ok (.aload_n 0, 1) := by decide +kernel
theorem dX5_stands_1 : decode cX5_stands 1 = .ok (.aload_n 0, 1) := by decide +kernel
theorem dX5_stands_2 : decode cX5_stands 2 = .ok (.iload_n 1, 1) := by decide +kernel
theorem dX5_stands_3 : decode cX5_stands 3 = .ok (.invokevirtual 92, 3) := by decide +kernel
theorem dX5_stands_6 : decode cX5_stands 6 = .ok (.invokevirtual 102, 3) := by decide +kernel
theorem dX5_stands_9 : decode cX5_stands 9 = .ok (.ifCond .ne 5, 3) := by decide +kernel
theorem dX5_stands_12 : decode cX5_stands 12 = .ok (.iconst 0, 1) := by decide +kernel
theorem dX5_stands_13 : decode cX5_stands 13 = .ok (.ireturn, 1) := by decide +kernel
theorem dX5_stands_14 : decode cX5_stands 14 = .ok (.aload_n 0, 1) := by decide +kernel
theorem dX5_stands_15 : decode cX5_stands 15 = .ok (.getfield 44, 3) := by decide +kernel
theorem dX5_stands_18 : decode cX5_stands 18 = .ok (.iload_n 1, 1) := by decide +kernel
theorem dX5_stands_19 : decode cX5_stands 19 = .ok (.iaload, 1) := by decide +kernel
theorem dX5_stands_20 : decode cX5_stands 20 = .ok (.iconst (-1), 1) := by decide +kernel
theorem dX5_stands_21 : decode cX5_stands 21 = .ok (.if_icmp .ne 7, 3) := by decide +kernel
theorem dX5_stands_24 : decode cX5_stands 24 = .ok (.iconst (-1), 1) := by decide +kernel
theorem dX5_stands_25 : decode cX5_stands 25 = .ok (.goto 9, 3) := by decide +kernel
theorem dX5_stands_28 : decode cX5_stands 28 = .ok (.aload_n 0, 1) := by decide +kernel
theorem dX5_stands_29 : decode cX5_stands 29 = .ok (.getfield 47, 3) := by decide +kernel
theorem dX5_stands_32 : decode cX5_stands 32 = .ok (.iload_n 1, 1) := by decide +kernel
theorem dX5_stands_33 : decode cX5_stands 33 = .ok (.iaload, 1) := by decide +kernel
theorem dX5_stands_34 : decode cX5_stands 34 = .ok (.ireturn, 1) := by decide +kernel
theorem dX5_waits_0 : decode cX5_waits 0 = .ok (.aload_n 0, 1) := by decide +kernel
theorem dX5_waits_1 : decode cX5_waits 1 = .ok (.getfield 59, 3) := by decide +kernel
theorem dX5_waits_4 : decode cX5_waits 4 = .ok (.iload_n 1, 1) := by decide +kernel
theorem dX5_waits_5 : decode cX5_waits 5 = .ok (.baload, 1) := by decide +kernel
theorem dX5_waits_6 : decode cX5_waits 6 = .ok (.ifCond .ne 17, 3) := by decide +kernel
theorem dX5_waits_9 : decode cX5_waits 9 = .ok (.aload_n 0, 1) := by decide +kernel
theorem dX5_waits_10 : decode cX5_waits 10 = .ok (.getfield 50, 3) := by decide +kernel
theorem dX5_waits_13 : decode cX5_waits 13 = .ok (.iload_n 1, 1) := by decide +kernel
theorem dX5_waits_14 : decode cX5_waits 14 = .ok (.iaload, 1) := by decide +kernel
theorem dX5_waits_15 : decode cX5_waits 15 = .ok (.iload_n 2, 1) := by decide +kernel
theorem dX5_waits_16 : decode cX5_waits 16 = .ok (.if_icmp .ne 7, 3) := by decide +kernel
theorem dX5_waits_19 : decode cX5_waits 19 = .ok (.iconst 1, 1) := by decide +kernel
theorem dX5_waits_20 : decode cX5_waits 20 = .ok (.goto 4, 3) := by decide +kernel
theorem dX5_waits_23 : decode cX5_waits 23 = .ok (.iconst 0, 1) := by decide +kernel
theorem dX5_waits_24 : decode cX5_waits 24 = .ok (.ireturn, 1) := by decide +kernel
set_option maxRecDepth 20000 in
theorem ggX5_waitingAt_X5_waits : GoodIn wsX5_waitingAt wsX5_waits := goodIn_r _ [6, 7, 8, 9, 10, 11, 12, 13, 14, 15, 16, 17, 18, 19, 20, 21, 22, 23, 24, 25, 26, 27, 28, 29, 30, 31, 32, 33, 34] (by decide +kernel) (by decide +kernel)
set_option maxRecDepth 20000 in
theorem gX5_waitingAt_X5_waits : GoodIn wsX5_waitingAt (wsV RX5 147 RX5 yX5_waits wsX5_waits) := goodIn_app (goodIn_of _ (by decide +kernel)) ggX5_waitingAt_X5_waits
theorem dX5_waitingAt_0 : decode cX5_waitingAt 0 = .ok (.iconst 0, 1) := by decide +kernel
theorem dX5_waitingAt_1 : decode cX5_waitingAt 1 = .ok (.istore_n 2, 1) := by decide +kernel
theorem dX5_waitingAt_2 : decode cX5_waitingAt 2 = .ok (.iconst 0, 1) := by decide +kernel
theorem dX5_waitingAt_3 : decode cX5_waitingAt 3 = .ok (.istore_n 3, 1) := by decide +kernel
theorem dX5_waitingAt_4 : decode cX5_waitingAt 4 = .ok (.iload_n 3, 1) := by decide +kernel
theorem dX5_waitingAt_5 : decode cX5_waitingAt 5 = .ok (.aload_n 0, 1) := by decide +kernel
theorem dX5_waitingAt_6 : decode cX5_waitingAt 6 = .ok (.getfield 144, 3) := by decide +kernel
theorem dX5_waitingAt_9 : decode cX5_waitingAt 9 = .ok (.if_icmp .ge 26, 3) := by decide +kernel
theorem dX5_waitingAt_12 : decode cX5_waitingAt 12 = .ok (.iload_n 2, 1) := by decide +kernel
theorem dX5_waitingAt_13 : decode cX5_waitingAt 13 = .ok (.aload_n 0, 1) := by decide +kernel
theorem dX5_waitingAt_14 : decode cX5_waitingAt 14 = .ok (.iload_n 3, 1) := by decide +kernel
theorem dX5_waitingAt_15 : decode cX5_waitingAt 15 = .ok (.iload_n 1, 1) := by decide +kernel
theorem dX5_waitingAt_16 : decode cX5_waitingAt 16 = .ok (.invokevirtual 147, 3) := by decide +kernel
theorem dX5_waitingAt_19 : decode cX5_waitingAt 19 = .ok (.ifCond .eq 7, 3) := by decide +kernel
theorem dX5_waitingAt_22 : decode cX5_waitingAt 22 = .ok (.iconst 1, 1) := by decide +kernel
theorem dX5_waitingAt_23 : decode cX5_waitingAt 23 = .ok (.goto 4, 3) := by decide +kernel
theorem dX5_waitingAt_26 : decode cX5_waitingAt 26 = .ok (.iconst 0, 1) := by decide +kernel
theorem dX5_waitingAt_27 : decode cX5_waitingAt 27 = .ok (.iadd, 1) := by decide +kernel
theorem dX5_waitingAt_28 : decode cX5_waitingAt 28 = .ok (.istore_n 2, 1) := by decide +kernel
theorem dX5_waitingAt_29 : decode cX5_waitingAt 29 = .ok (.iinc 3 1, 3) := by decide +kernel
theorem dX5_waitingAt_32 : decode cX5_waitingAt 32 = .ok (.goto (-28), 3) := by decide +kernel
theorem dX5_waitingAt_35 : decode cX5_waitingAt 35 = .ok (.iload_n 2, 1) := by decide +kernel
theorem dX5_waitingAt_36 : decode cX5_waitingAt 36 = .ok (.ireturn, 1) := by decide +kernel
set_option maxRecDepth 20000 in
theorem ggX5_job_X5_isFile : GoodIn wsX5_job wsX5_isFile := goodIn_r _ [10, 11, 12, 13, 14, 9, 15, 16, 17, 18, 19, 34, 35, 36, 37, 38, 39, 40, 41, 42, 43, 44, 45, 46, 47, 48, 49, 50, 51, 52, 53, 54, 55, 56, 57, 58, 59] (by decide +kernel) (by decide +kernel)
set_option maxRecDepth 20000 in
theorem gX5_job_X5_isFile : GoodIn wsX5_job (wsV RX5 106 RX5 yX5_isFile wsX5_isFile) := goodIn_app (goodIn_of _ (by decide +kernel)) ggX5_job_X5_isFile
set_option maxRecDepth 20000 in
theorem ggX5_job_X5_isIn : GoodIn wsX5_job wsX5_isIn := goodIn_r _ [19] (by decide +kernel) (by decide +kernel)
set_option maxRecDepth 20000 in
theorem gX5_job_X5_isIn : GoodIn wsX5_job (va_wsS RX5 81 yX5_isIn wsX5_isIn) := goodIn_app (goodIn_of _ (by decide +kernel)) ggX5_job_X5_isIn
set_option maxRecDepth 20000 in
theorem ggX5_job_X5_waitingAt : GoodIn wsX5_job wsX5_waitingAt := goodIn_r _ [23, 2, 24, 25, 26, 9, 27, 28, 3, 34, 35, 36, 37, 38, 39, 40, 41, 42, 43, 44, 45, 46, 47, 48, 49, 50, 51, 52, 53, 54, 55, 56, 57, 58, 59] (by decide +kernel) (by decide +kernel)
set_option maxRecDepth 20000 in
theorem gX5_job_X5_waitingAt : GoodIn wsX5_job (wsV RX5 151 RX5 yX5_waitingAt wsX5_waitingAt) := goodIn_app (goodIn_of _ (by decide +kernel)) ggX5_job_X5_waitingAt
set_option maxRecDepth 20000 in
theorem ggX5_job_X5_mayAll : GoodIn wsX5_job wsX5_mayAll := goodIn_r _ [32, 33, 34, 35, 36, 37, 38, 39, 40, 41, 42, 43, 44, 45, 46, 47, 48, 49, 50, 51, 52, 53, 54, 55, 56, 57, 58, 59] (by decide +kernel) (by decide +kernel)
set_option maxRecDepth 20000 in
theorem gX5_job_X5_mayAll : GoodIn wsX5_job (wsV RX5 137 RX5 yX5_mayAll wsX5_mayAll) := goodIn_app (goodIn_of _ (by decide +kernel)) ggX5_job_X5_mayAll
theorem dX5_job_0 : decode cX5_job 0 = .ok (.aload_n 0, 1) := by decide +kernel
theorem dX5_job_1 : decode cX5_job 1 = .ok (.iload_n 1, 1) := by decide +kernel
theorem dX5_job_2 : decode cX5_job 2 = .ok (.iload_n 2, 1) := by decide +kernel
theorem dX5_job_3 : decode cX5_job 3 = .ok (.invokevirtual 106, 3) := by decide +kernel
theorem dX5_job_6 : decode cX5_job 6 = .ok (.istore 4, 2) := by decide +kernel
theorem dX5_job_8 : decode cX5_job 8 = .ok (.aload_n 0, 1) := by decide +kernel
theorem dX5_job_9 : decode cX5_job 9 = .ok (.iload 4, 2) := by decide +kernel
theorem dX5_job_11 : decode cX5_job 11 = .ok (.iload_n 3, 1) := by decide +kernel
theorem dX5_job_12 : decode cX5_job 12 = .ok (.iconst 0, 1) := by decide +kernel
theorem dX5_job_13 : decode cX5_job 13 = .ok (.ldc 150, 2) := by decide +kernel
theorem dX5_job_15 : decode cX5_job 15 = .ok (.invokestatic 81, 3) := by decide +kernel
theorem dX5_job_18 : decode cX5_job 18 = .ok (.iload 4, 2) := by decide +kernel
theorem dX5_job_20 : decode cX5_job 20 = .ok (.ifCond .eq 26, 3) := by decide +kernel
theorem dX5_job_23 : decode cX5_job 23 = .ok (.aload_n 0, 1) := by decide +kernel
theorem dX5_job_24 : decode cX5_job 24 = .ok (.getfield 144, 3) := by decide +kernel
theorem dX5_job_27 : decode cX5_job 27 = .ok (.bipush 60, 2) := by decide +kernel
theorem dX5_job_29 : decode cX5_job 29 = .ok (.if_icmp .ge 17, 3) := by decide +kernel
theorem dX5_job_32 : decode cX5_job 32 = .ok (.aload_n 0, 1) := by decide +kernel
theorem dX5_job_33 : decode cX5_job 33 = .ok (.iload_n 1, 1) := by decide +kernel
theorem dX5_job_34 : decode cX5_job 34 = .ok (.invokevirtual 151, 3) := by decide +kernel
theorem dX5_job_37 : decode cX5_job 37 = .ok (.bipush 7, 2) := by decide +kernel
theorem dX5_job_39 : decode cX5_job 39 = .ok (.if_icmp .ge 7, 3) := by decide +kernel
theorem dX5_job_42 : decode cX5_job 42 = .ok (.iconst 1, 1) := by decide +kernel
theorem dX5_job_43 : decode cX5_job 43 = .ok (.goto 4, 3) := by decide +kernel
theorem dX5_job_46 : decode cX5_job 46 = .ok (.iconst 0, 1) := by decide +kernel
theorem dX5_job_47 : decode cX5_job 47 = .ok (.invokevirtual 137, 3) := by decide +kernel
theorem dX5_job_50 : decode cX5_job 50 = .ok (.ifCond .ne 5, 3) := by decide +kernel
theorem dX5_job_53 : decode cX5_job 53 = .ok (.iconst 0, 1) := by decide +kernel
theorem dX5_job_54 : decode cX5_job 54 = .ok (.ireturn, 1) := by decide +kernel
theorem dX5_job_55 : decode cX5_job 55 = .ok (.aload_n 0, 1) := by decide +kernel
theorem dX5_job_56 : decode cX5_job 56 = .ok (.getfield 50, 3) := by decide +kernel
theorem dX5_job_59 : decode cX5_job 59 = .ok (.aload_n 0, 1) := by decide +kernel
theorem dX5_job_60 : decode cX5_job 60 = .ok (.getfield 144, 3) := by decide +kernel
theorem dX5_job_63 : decode cX5_job 63 = .ok (.iload_n 1, 1) := by decide +kernel
theorem dX5_job_64 : decode cX5_job 64 = .ok (.iastore, 1) := by decide +kernel
theorem dX5_job_65 : decode cX5_job 65 = .ok (.aload_n 0, 1) := by decide +kernel
theorem dX5_job_66 : decode cX5_job 66 = .ok (.getfield 53, 3) := by decide +kernel
theorem dX5_job_69 : decode cX5_job 69 = .ok (.aload_n 0, 1) := by decide +kernel
theorem dX5_job_70 : decode cX5_job 70 = .ok (.getfield 144, 3) := by decide +kernel
theorem dX5_job_73 : decode cX5_job 73 = .ok (.iload_n 2, 1) := by decide +kernel
theorem dX5_job_74 : decode cX5_job 74 = .ok (.iastore, 1) := by decide +kernel
theorem dX5_job_75 : decode cX5_job 75 = .ok (.aload_n 0, 1) := by decide +kernel
theorem dX5_job_76 : decode cX5_job 76 = .ok (.getfield 56, 3) := by decide +kernel
theorem dX5_job_79 : decode cX5_job 79 = .ok (.aload_n 0, 1) := by decide +kernel
theorem dX5_job_80 : decode cX5_job 80 = .ok (.getfield 144, 3) := by decide +kernel
theorem dX5_job_83 : decode cX5_job 83 = .ok (.iload_n 3, 1) := by decide +kernel
theorem dX5_job_84 : decode cX5_job 84 = .ok (.iastore, 1) := by decide +kernel
theorem dX5_job_85 : decode cX5_job 85 = .ok (.aload_n 0, 1) := by decide +kernel
theorem dX5_job_86 : decode cX5_job 86 = .ok (.dup, 1) := by decide +kernel
theorem dX5_job_87 : decode cX5_job 87 = .ok (.getfield 144, 3) := by decide +kernel
theorem dX5_job_90 : decode cX5_job 90 = .ok (.iconst 1, 1) := by decide +kernel
theorem dX5_job_91 : decode cX5_job 91 = .ok (.iadd, 1) := by decide +kernel
theorem dX5_job_92 : decode cX5_job 92 = .ok (.putfield 144, 3) := by decide +kernel
theorem dX5_job_95 : decode cX5_job 95 = .ok (.aload_n 0, 1) := by decide +kernel
theorem dX5_job_96 : decode cX5_job 96 = .ok (.getfield 144, 3) := by decide +kernel
theorem dX5_job_99 : decode cX5_job 99 = .ok (.iconst 1, 1) := by decide +kernel
theorem dX5_job_100 : decode cX5_job 100 = .ok (.isub, 1) := by decide +kernel
theorem dX5_job_101 : decode cX5_job 101 = .ok (.ireturn, 1) := by decide +kernel
set_option maxRecDepth 20000 in
theorem ggX5_waiting_X5_isTape : GoodIn wsX5_waiting wsX5_isTape := goodIn_r _ [5, 6, 7, 8, 4, 9, 26, 27, 28, 29, 30, 31, 32, 33, 34, 35, 36, 37, 38, 39, 40, 41, 42, 43, 44, 45, 46, 47, 48, 49, 50, 51] (by decide +kernel) (by decide +kernel)
set_option maxRecDepth 20000 in
theorem gX5_waiting_X5_isTape : GoodIn wsX5_waiting (wsV RX5 88 RX5 yX5_isTape wsX5_isTape) := goodIn_app (goodIn_of _ (by decide +kernel)) ggX5_waiting_X5_isTape
set_option maxRecDepth 20000 in
theorem ggX5_waiting_X5_may : GoodIn wsX5_waiting wsX5_may := goodIn_r _ [13, 14, 26, 27, 28, 29, 30, 31, 32, 33, 34, 35, 36, 37, 38, 39, 40, 41, 42, 43, 44, 45, 46, 47, 48, 49, 50, 51] (by decide +kernel) (by decide +kernel)
set_option maxRecDepth 20000 in
theorem gX5_waiting_X5_may : GoodIn wsX5_waiting (wsV RX5 102 RX5 yX5_may wsX5_may) := goodIn_app (goodIn_of _ (by decide +kernel)) ggX5_waiting_X5_may
set_option maxRecDepth 20000 in
theorem ggX5_waiting_X5_waitingAt : GoodIn wsX5_waiting wsX5_waitingAt := goodIn_r _ [18, 19, 20, 21, 22, 4, 23, 24, 25, 26, 27, 28, 29, 30, 31, 32, 33, 34, 35, 36, 37, 38, 39, 40, 41, 42, 43, 44, 45, 46, 47, 48, 49, 50, 51] (by decide +kernel) (by decide +kernel)
set_option maxRecDepth 20000 in
theorem gX5_waiting_X5_waitingAt : GoodIn wsX5_waiting (wsV RX5 151 RX5 yX5_waitingAt wsX5_waitingAt) := goodIn_app (goodIn_of _ (by decide +kernel)) ggX5_waiting_X5_waitingAt
theorem dX5_waiting_0 : decode cX5_waiting 0 = .ok (.aload_n 0, 1) := by decide +kernel
theorem dX5_waiting_1 : decode cX5_waiting 1 = .ok (.aload_n 0, 1) := by decide +kernel
theorem dX5_waiting_2 : decode cX5_waiting 2 = .ok (.iload_n 1, 1) := by decide +kernel
theorem dX5_waiting_3 : decode cX5_waiting 3 = .ok (.invokevirtual 88, 3) := by decide +kernel
theorem dX5_waiting_6 : decode cX5_waiting 6 = .ok (.invokevirtual 102, 3) := by decide +kernel
theorem dX5_waiting_9 : decode cX5_waiting 9 = .ok (.ifCond .eq 11, 3) := by decide +kernel
theorem dX5_waiting_12 : decode cX5_waiting 12 = .ok (.aload_n 0, 1) := by decide +kernel
theorem dX5_waiting_13 : decode cX5_waiting 13 = .ok (.iload_n 1, 1) := by decide +kernel
theorem dX5_waiting_14 : decode cX5_waiting 14 = .ok (.invokevirtual 151, 3) := by decide +kernel
theorem dX5_waiting_17 : decode cX5_waiting 17 = .ok (.goto 4, 3) := by decide +kernel
theorem dX5_waiting_20 : decode cX5_waiting 20 = .ok (.iconst 0, 1) := by decide +kernel
theorem dX5_waiting_21 : decode cX5_waiting 21 = .ok (.ireturn, 1) := by decide +kernel
set_option maxRecDepth 20000 in
theorem ggX5_earliest_X5_waits : GoodIn wsX5_earliest wsX5_waits := goodIn_r _ [8, 9, 10, 11, 12, 13, 14, 15, 16, 17, 18, 19, 20, 21, 22, 23, 24, 25, 26, 27, 28, 29, 30, 31, 32, 33, 34, 35, 36] (by decide +kernel) (by decide +kernel)
set_option maxRecDepth 20000 in
theorem gX5_earliest_X5_waits : GoodIn wsX5_earliest (wsV RX5 147 RX5 yX5_waits wsX5_waits) := goodIn_app (goodIn_of _ (by decide +kernel)) ggX5_earliest_X5_waits
theorem dX5_earliest_0 : decode cX5_earliest 0 = .ok (.ldc 154, 2) := by decide +kernel
theorem dX5_earliest_2 : decode cX5_earliest 2 = .ok (.istore_n 2, 1) := by decide +kernel
theorem dX5_earliest_3 : decode cX5_earliest 3 = .ok (.iconst 0, 1) := by decide +kernel
theorem dX5_earliest_4 : decode cX5_earliest 4 = .ok (.istore_n 3, 1) := by decide +kernel
theorem dX5_earliest_5 : decode cX5_earliest 5 = .ok (.iload_n 3, 1) := by decide +kernel
theorem dX5_earliest_6 : decode cX5_earliest 6 = .ok (.aload_n 0, 1) := by decide +kernel
theorem dX5_earliest_7 : decode cX5_earliest 7 = .ok (.getfield 144, 3) := by decide +kernel
theorem dX5_earliest_10 : decode cX5_earliest 10 = .ok (.if_icmp .ge 39, 3) := by decide +kernel
theorem dX5_earliest_13 : decode cX5_earliest 13 = .ok (.aload_n 0, 1) := by decide +kernel
theorem dX5_earliest_14 : decode cX5_earliest 14 = .ok (.iload_n 3, 1) := by decide +kernel
theorem dX5_earliest_15 : decode cX5_earliest 15 = .ok (.iload_n 1, 1) := by decide +kernel
theorem dX5_earliest_16 : decode cX5_earliest 16 = .ok (.invokevirtual 147, 3) := by decide +kernel
theorem dX5_earliest_19 : decode cX5_earliest 19 = .ok (.ifCond .eq 22, 3) := by decide +kernel
theorem dX5_earliest_22 : decode cX5_earliest 22 = .ok (.aload_n 0, 1) := by decide +kernel
theorem dX5_earliest_23 : decode cX5_earliest 23 = .ok (.getfield 56, 3) := by decide +kernel
theorem dX5_earliest_26 : decode cX5_earliest 26 = .ok (.iload_n 3, 1) := by decide +kernel
theorem dX5_earliest_27 : decode cX5_earliest 27 = .ok (.iaload, 1) := by decide +kernel
theorem dX5_earliest_28 : decode cX5_earliest 28 = .ok (.iload_n 2, 1) := by decide +kernel
theorem dX5_earliest_29 : decode cX5_earliest 29 = .ok (.if_icmp .ge 12, 3) := by decide +kernel
theorem dX5_earliest_32 : decode cX5_earliest 32 = .ok (.aload_n 0, 1) := by decide +kernel
theorem dX5_earliest_33 : decode cX5_earliest 33 = .ok (.getfield 56, 3) := by decide +kernel
theorem dX5_earliest_36 : decode cX5_earliest 36 = .ok (.iload_n 3, 1) := by decide +kernel
theorem dX5_earliest_37 : decode cX5_earliest 37 = .ok (.iaload, 1) := by decide +kernel
theorem dX5_earliest_38 : decode cX5_earliest 38 = .ok (.goto 4, 3) := by decide +kernel
theorem dX5_earliest_41 : decode cX5_earliest 41 = .ok (.iload_n 2, 1) := by decide +kernel
theorem dX5_earliest_42 : decode cX5_earliest 42 = .ok (.istore_n 2, 1) := by decide +kernel
theorem dX5_earliest_43 : decode cX5_earliest 43 = .ok (.iinc 3 1, 3) := by decide +kernel
theorem dX5_earliest_46 : decode cX5_earliest 46 = .ok (.goto (-41), 3) := by decide +kernel
theorem dX5_earliest_49 : decode cX5_earliest 49 = .ok (.iload_n 2, 1) := by decide +kernel
theorem dX5_earliest_50 : decode cX5_earliest 50 = .ok (.ireturn, 1) := by decide +kernel
set_option maxRecDepth 20000 in
theorem ggX5_next_X5_waitingAt : GoodIn wsX5_next wsX5_waitingAt := goodIn_r _ [9, 10, 11, 12, 13, 8, 14, 15, 16, 23, 24, 25, 26, 27, 28, 29, 30, 31, 32, 33, 34, 35, 36, 37, 38, 39, 40, 41, 42, 43, 44, 45, 46, 47, 48] (by decide +kernel) (by decide +kernel)
set_option maxRecDepth 20000 in
theorem gX5_next_X5_waitingAt : GoodIn wsX5_next (wsV RX5 151 RX5 yX5_waitingAt wsX5_waitingAt) := goodIn_app (goodIn_of _ (by decide +kernel)) ggX5_next_X5_waitingAt
set_option maxRecDepth 20000 in
theorem ggX5_next_X5_earliest : GoodIn wsX5_next wsX5_earliest := goodIn_r _ [20, 21, 10, 22, 11, 12, 13, 8, 14, 15, 16, 23, 24, 25, 26, 27, 28, 29, 30, 31, 32, 33, 34, 35, 36, 37, 38, 39, 40, 41, 42, 43, 44, 45, 46, 47, 48] (by decide +kernel) (by decide +kernel)
set_option maxRecDepth 20000 in
theorem gX5_next_X5_earliest : GoodIn wsX5_next (wsV RX5 155 RX5 yX5_earliest wsX5_earliest) := goodIn_app (goodIn_of _ (by decide +kernel)) ggX5_next_X5_earliest
theorem dX5_next_0 : decode cX5_next 0 = .ok (.aload_n 0, 1) := by decide +kernel
theorem dX5_next_1 : decode cX5_next 1 = .ok (.iconst 0, 1) := by decide +kernel
theorem dX5_next_2 : decode cX5_next 2 = .ok (.putfield 74, 3) := by decide +kernel
theorem dX5_next_5 : decode cX5_next 5 = .ok (.iconst (-1), 1) := by decide +kernel
theorem dX5_next_6 : decode cX5_next 6 = .ok (.istore_n 1, 1) := by decide +kernel
theorem dX5_next_7 : decode cX5_next 7 = .ok (.iconst 0, 1) := by decide +kernel
theorem dX5_next_8 : decode cX5_next 8 = .ok (.istore_n 2, 1) := by decide +kernel
theorem dX5_next_9 : decode cX5_next 9 = .ok (.iload_n 2, 1) := by decide +kernel
theorem dX5_next_10 : decode cX5_next 10 = .ok (.aload_n 0, 1) := by decide +kernel
theorem dX5_next_11 : decode cX5_next 11 = .ok (.getfield 78, 3) := by decide +kernel
theorem dX5_next_14 : decode cX5_next 14 = .ok (.if_icmp .ge 106, 3) := by decide +kernel
theorem dX5_next_17 : decode cX5_next 17 = .ok (.aload_n 0, 1) := by decide +kernel
theorem dX5_next_18 : decode cX5_next 18 = .ok (.getfield 19, 3) := by decide +kernel
theorem dX5_next_21 : decode cX5_next 21 = .ok (.iload_n 2, 1) := by decide +kernel
theorem dX5_next_22 : decode cX5_next 22 = .ok (.iaload, 1) := by decide +kernel
theorem dX5_next_23 : decode cX5_next 23 = .ok (.iconst (-1), 1) := by decide +kernel
theorem dX5_next_24 : decode cX5_next 24 = .ok (.if_icmp .ne 90, 3) := by decide +kernel
theorem dX5_next_27 : decode cX5_next 27 = .ok (.aload_n 0, 1) := by decide +kernel
theorem dX5_next_28 : decode cX5_next 28 = .ok (.getfield 22, 3) := by decide +kernel
theorem dX5_next_31 : decode cX5_next 31 = .ok (.iload_n 2, 1) := by decide +kernel
theorem dX5_next_32 : decode cX5_next 32 = .ok (.baload, 1) := by decide +kernel
theorem dX5_next_33 : decode cX5_next 33 = .ok (.ifCond .ne 81, 3) := by decide +kernel
theorem dX5_next_36 : decode cX5_next 36 = .ok (.aload_n 0, 1) := by decide +kernel
theorem dX5_next_37 : decode cX5_next 37 = .ok (.iload_n 2, 1) := by decide +kernel
theorem dX5_next_38 : decode cX5_next 38 = .ok (.invokevirtual 151, 3) := by decide +kernel
theorem dX5_next_41 : decode cX5_next 41 = .ok (.ifCond .le 73, 3) := by decide +kernel
theorem dX5_next_44 : decode cX5_next 44 = .ok (.iload_n 1, 1) := by decide +kernel
theorem dX5_next_45 : decode cX5_next 45 = .ok (.iconst (-1), 1) := by decide +kernel
theorem dX5_next_46 : decode cX5_next 46 = .ok (.if_icmp .eq 16, 3) := by decide +kernel
theorem dX5_next_49 : decode cX5_next 49 = .ok (.aload_n 0, 1) := by decide +kernel
theorem dX5_next_50 : decode cX5_next 50 = .ok (.iload_n 2, 1) := by decide +kernel
theorem dX5_next_51 : decode cX5_next 51 = .ok (.invokevirtual 155, 3) := by decide +kernel
theorem dX5_next_54 : decode cX5_next 54 = .ok (.aload_n 0, 1) := by decide +kernel
theorem dX5_next_55 : decode cX5_next 55 = .ok (.iload_n 1, 1) := by decide +kernel
theorem dX5_next_56 : decode cX5_next 56 = .ok (.invokevirtual 155, 3) := by decide +kernel
theorem dX5_next_59 : decode cX5_next 59 = .ok (.if_icmp .ge 7, 3) := by decide +kernel
theorem dX5_next_62 : decode cX5_next 62 = .ok (.iconst 1, 1) := by decide +kernel
theorem dX5_next_63 : decode cX5_next 63 = .ok (.goto 4, 3) := by decide +kernel
theorem dX5_next_66 : decode cX5_next 66 = .ok (.iconst 0, 1) := by decide +kernel
theorem dX5_next_67 : decode cX5_next 67 = .ok (.istore_n 3, 1) := by decide +kernel
theorem dX5_next_68 : decode cX5_next 68 = .ok (.iload_n 3, 1) := by decide +kernel
theorem dX5_next_69 : decode cX5_next 69 = .ok (.ifCond .ne 29, 3) := by decide +kernel
theorem dX5_next_72 : decode cX5_next 72 = .ok (.aload_n 0, 1) := by decide +kernel
theorem dX5_next_73 : decode cX5_next 73 = .ok (.iload_n 2, 1) := by decide +kernel
theorem dX5_next_74 : decode cX5_next 74 = .ok (.invokevirtual 155, 3) := by decide +kernel
theorem dX5_next_77 : decode cX5_next 77 = .ok (.aload_n 0, 1) := by decide +kernel
theorem dX5_next_78 : decode cX5_next 78 = .ok (.iload_n 1, 1) := by decide +kernel
theorem dX5_next_79 : decode cX5_next 79 = .ok (.invokevirtual 155, 3) := by decide +kernel
theorem dX5_next_82 : decode cX5_next 82 = .ok (.if_icmp .ne 20, 3) := by decide +kernel
theorem dX5_next_85 : decode cX5_next 85 = .ok (.aload_n 0, 1) := by decide +kernel
theorem dX5_next_86 : decode cX5_next 86 = .ok (.iload_n 2, 1) := by decide +kernel
theorem dX5_next_87 : decode cX5_next 87 = .ok (.invokevirtual 151, 3) := by decide +kernel
theorem dX5_next_90 : decode cX5_next 90 = .ok (.aload_n 0, 1) := by decide +kernel
theorem dX5_next_91 : decode cX5_next 91 = .ok (.iload_n 1, 1) := by decide +kernel
theorem dX5_next_92 : decode cX5_next 92 = .ok (.invokevirtual 151, 3) := by decide +kernel
theorem dX5_next_95 : decode cX5_next 95 = .ok (.if_icmp .le 7, 3) := by decide +kernel
theorem dX5_next_98 : decode cX5_next 98 = .ok (.iconst 1, 1) := by decide +kernel
theorem dX5_next_99 : decode cX5_next 99 = .ok (.goto 4, 3) := by decide +kernel
theorem dX5_next_102 : decode cX5_next 102 = .ok (.iconst 0, 1) := by decide +kernel
theorem dX5_next_103 : decode cX5_next 103 = .ok (.istore_n 3, 1) := by decide +kernel
theorem dX5_next_104 : decode cX5_next 104 = .ok (.iload_n 3, 1) := by decide +kernel
theorem dX5_next_105 : decode cX5_next 105 = .ok (.ifCond .eq 7, 3) := by decide +kernel
theorem dX5_next_108 : decode cX5_next 108 = .ok (.iload_n 2, 1) := by decide +kernel
theorem dX5_next_109 : decode cX5_next 109 = .ok (.goto 4, 3) := by decide +kernel
theorem dX5_next_112 : decode cX5_next 112 = .ok (.iload_n 1, 1) := by decide +kernel
theorem dX5_next_113 : decode cX5_next 113 = .ok (.istore_n 1, 1) := by decide +kernel
theorem dX5_next_114 : decode cX5_next 114 = .ok (.iinc 2 1, 3) := by decide +kernel
theorem dX5_next_117 : decode cX5_next 117 = .ok (.goto (-108), 3) := by decide +kernel
theorem dX5_next_120 : decode cX5_next 120 = .ok (.iload_n 1, 1) := by decide +kernel
theorem dX5_next_121 : decode cX5_next 121 = .ok (.ireturn, 1) := by decide +kernel
theorem dX5_startOf_0 : decode cX5_startOf 0 = .ok (.aload_n 0, 1) := by decide +kernel
theorem dX5_startOf_1 : decode cX5_startOf 1 = .ok (.getfield 29, 3) := by decide +kernel
theorem dX5_startOf_4 : decode cX5_startOf 4 = .ok (.bipush 10, 2) := by decide +kernel
theorem dX5_startOf_6 : decode cX5_startOf 6 = .ok (.aload_n 0, 1) := by decide +kernel
theorem dX5_startOf_7 : decode cX5_startOf 7 = .ok (.getfield 50, 3) := by decide +kernel
theorem dX5_startOf_10 : decode cX5_startOf 10 = .ok (.aload_n 0, 1) := by decide +kernel
theorem dX5_startOf_11 : decode cX5_startOf 11 = .ok (.getfield 62, 3) := by decide +kernel
theorem dX5_startOf_14 : decode cX5_startOf 14 = .ok (.iload_n 1, 1) := by decide +kernel
theorem dX5_startOf_15 : decode cX5_startOf 15 = .ok (.iaload, 1) := by decide +kernel
theorem dX5_startOf_16 : decode cX5_startOf 16 = .ok (.iaload, 1) := by decide +kernel
theorem dX5_startOf_17 : decode cX5_startOf 17 = .ok (.imul, 1) := by decide +kernel
theorem dX5_startOf_18 : decode cX5_startOf 18 = .ok (.aload_n 0, 1) := by decide +kernel
theorem dX5_startOf_19 : decode cX5_startOf 19 = .ok (.getfield 53, 3) := by decide +kernel
theorem dX5_startOf_22 : decode cX5_startOf 22 = .ok (.aload_n 0, 1) := by decide +kernel
theorem dX5_startOf_23 : decode cX5_startOf 23 = .ok (.getfield 62, 3) := by decide +kernel
theorem dX5_startOf_26 : decode cX5_startOf 26 = .ok (.iload_n 1, 1) := by decide +kernel
theorem dX5_startOf_27 : decode cX5_startOf 27 = .ok (.iaload, 1) := by decide +kernel
theorem dX5_startOf_28 : decode cX5_startOf 28 = .ok (.iaload, 1) := by decide +kernel
theorem dX5_startOf_29 : decode cX5_startOf 29 = .ok (.iadd, 1) := by decide +kernel
theorem dX5_startOf_30 : decode cX5_startOf 30 = .ok (.iaload, 1) := by decide +kernel
theorem dX5_startOf_31 : decode cX5_startOf 31 = .ok (.ireturn, 1) := by decide +kernel
theorem dX5_blocksOf_0 : decode cX5_blocksOf 0 = .ok (.aload_n 0, 1) := by decide +kernel
theorem dX5_blocksOf_1 : decode cX5_blocksOf 1 = .ok (.getfield 32, 3) := by decide +kernel
theorem dX5_blocksOf_4 : decode cX5_blocksOf 4 = .ok (.bipush 10, 2) := by decide +kernel
theorem dX5_blocksOf_6 : decode cX5_blocksOf 6 = .ok (.aload_n 0, 1) := by decide +kernel
theorem dX5_blocksOf_7 : decode cX5_blocksOf 7 = .ok (.getfield 50, 3) := by decide +kernel
theorem dX5_blocksOf_10 : decode cX5_blocksOf 10 = .ok (.aload_n 0, 1) := by decide +kernel
theorem dX5_blocksOf_11 : decode cX5_blocksOf 11 = .ok (.getfield 62, 3) := by decide +kernel
theorem dX5_blocksOf_14 : decode cX5_blocksOf 14 = .ok (.iload_n 1, 1) := by decide +kernel
theorem dX5_blocksOf_15 : decode cX5_blocksOf 15 = .ok (.iaload, 1) := by decide +kernel
theorem dX5_blocksOf_16 : decode cX5_blocksOf 16 = .ok (.iaload, 1) := by decide +kernel
theorem dX5_blocksOf_17 : decode cX5_blocksOf 17 = .ok (.imul, 1) := by decide +kernel
theorem dX5_blocksOf_18 : decode cX5_blocksOf 18 = .ok (.aload_n 0, 1) := by decide +kernel
theorem dX5_blocksOf_19 : decode cX5_blocksOf 19 = .ok (.getfield 53, 3) := by decide +kernel
theorem dX5_blocksOf_22 : decode cX5_blocksOf 22 = .ok (.aload_n 0, 1) := by decide +kernel
theorem dX5_blocksOf_23 : decode cX5_blocksOf 23 = .ok (.getfield 62, 3) := by decide +kernel
theorem dX5_blocksOf_26 : decode cX5_blocksOf 26 = .ok (.iload_n 1, 1) := by decide +kernel
theorem dX5_blocksOf_27 : decode cX5_blocksOf 27 = .ok (.iaload, 1) := by decide +kernel
theorem dX5_blocksOf_28 : decode cX5_blocksOf 28 = .ok (.iaload, 1) := by decide +kernel
theorem dX5_blocksOf_29 : decode cX5_blocksOf 29 = .ok (.iadd, 1) := by decide +kernel
theorem dX5_blocksOf_30 : decode cX5_blocksOf 30 = .ok (.iaload, 1) := by decide +kernel
theorem dX5_blocksOf_31 : decode cX5_blocksOf 31 = .ok (.ireturn, 1) := by decide +kernel
set_option maxRecDepth 20000 in
theorem ggX5_timeOf_X5_startOf : GoodIn wsX5_timeOf wsX5_startOf := goodIn_r _ [6, 7, 8, 9, 10, 35, 36, 37, 38, 39, 40, 41, 42, 43, 44, 45, 46, 47, 48, 49, 50, 51, 52, 53, 54, 55, 56, 57, 58, 59, 60] (by decide +kernel) (by decide +kernel)
set_option maxRecDepth 20000 in
theorem gX5_timeOf_X5_startOf : GoodIn wsX5_timeOf (wsV RX5 158 RX5 yX5_startOf wsX5_startOf) := goodIn_app (goodIn_of _ (by decide +kernel)) ggX5_timeOf_X5_startOf
set_option maxRecDepth 20000 in
theorem ggX5_timeOf_X5_blocksOf : GoodIn wsX5_timeOf wsX5_blocksOf := goodIn_r _ [14, 15, 8, 9, 10, 35, 36, 37, 38, 39, 40, 41, 42, 43, 44, 45, 46, 47, 48, 49, 50, 51, 52, 53, 54, 55, 56, 57, 58, 59, 60] (by decide +kernel) (by decide +kernel)
set_option maxRecDepth 20000 in
theorem gX5_timeOf_X5_blocksOf : GoodIn wsX5_timeOf (wsV RX5 161 RX5 yX5_blocksOf wsX5_blocksOf) := goodIn_app (goodIn_of _ (by decide +kernel)) ggX5_timeOf_X5_blocksOf
set_option maxRecDepth 20000 in
theorem ggX5_timeOf_X5_way : GoodIn wsX5_timeOf wsX5_way := goodIn_r _ [19, 20, 21, 22, 23, 24, 25, 26, 5, 27, 28, 29, 30, 31, 32, 33, 34, 35, 36, 37, 38, 39, 40, 41, 42, 43, 44, 45, 46, 47, 48, 49, 50, 51, 52, 53, 54, 55, 56, 57, 58, 59, 60] (by decide +kernel) (by decide +kernel)
set_option maxRecDepth 20000 in
theorem gX5_timeOf_X5_way : GoodIn wsX5_timeOf (wsV RX5 127 RX5 yX5_way wsX5_way) := goodIn_app (goodIn_of _ (by decide +kernel)) ggX5_timeOf_X5_way
theorem dX5_timeOf_0 : decode cX5_timeOf 0 = .ok (.iload_n 2, 1) := by decide +kernel
theorem dX5_timeOf_1 : decode cX5_timeOf 1 = .ok (.bipush 7, 2) := by decide +kernel
theorem dX5_timeOf_3 : decode cX5_timeOf 3 = .ok (.if_icmp .ne 12, 3) := by decide +kernel
theorem dX5_timeOf_6 : decode cX5_timeOf 6 = .ok (.aload_n 0, 1) := by decide +kernel
theorem dX5_timeOf_7 : decode cX5_timeOf 7 = .ok (.getfield 47, 3) := by decide +kernel
theorem dX5_timeOf_10 : decode cX5_timeOf 10 = .ok (.iload_n 1, 1) := by decide +kernel
theorem dX5_timeOf_11 : decode cX5_timeOf 11 = .ok (.iaload, 1) := by decide +kernel
theorem dX5_timeOf_12 : decode cX5_timeOf 12 = .ok (.goto 14, 3) := by decide +kernel
theorem dX5_timeOf_15 : decode cX5_timeOf 15 = .ok (.aload_n 0, 1) := by decide +kernel
theorem dX5_timeOf_16 : decode cX5_timeOf 16 = .ok (.iload_n 2, 1) := by decide +kernel
theorem dX5_timeOf_17 : decode cX5_timeOf 17 = .ok (.invokevirtual 158, 3) := by decide +kernel
theorem dX5_timeOf_20 : decode cX5_timeOf 20 = .ok (.aload_n 0, 1) := by decide +kernel
theorem dX5_timeOf_21 : decode cX5_timeOf 21 = .ok (.iload_n 2, 1) := by decide +kernel
theorem dX5_timeOf_22 : decode cX5_timeOf 22 = .ok (.invokevirtual 161, 3) := by decide +kernel
theorem dX5_timeOf_25 : decode cX5_timeOf 25 = .ok (.iadd, 1) := by decide +kernel
theorem dX5_timeOf_26 : decode cX5_timeOf 26 = .ok (.istore 4, 2) := by decide +kernel
theorem dX5_timeOf_28 : decode cX5_timeOf 28 = .ok (.aload_n 0, 1) := by decide +kernel
theorem dX5_timeOf_29 : decode cX5_timeOf 29 = .ok (.iload_n 1, 1) := by decide +kernel
theorem dX5_timeOf_30 : decode cX5_timeOf 30 = .ok (.iload 4, 2) := by decide +kernel
theorem dX5_timeOf_32 : decode cX5_timeOf 32 = .ok (.aload_n 0, 1) := by decide +kernel
theorem dX5_timeOf_33 : decode cX5_timeOf 33 = .ok (.iload_n 3, 1) := by decide +kernel
theorem dX5_timeOf_34 : decode cX5_timeOf 34 = .ok (.invokevirtual 158, 3) := by decide +kernel
theorem dX5_timeOf_37 : decode cX5_timeOf 37 = .ok (.invokevirtual 127, 3) := by decide +kernel
theorem dX5_timeOf_40 : decode cX5_timeOf 40 = .ok (.iconst 3, 1) := by decide +kernel
theorem dX5_timeOf_41 : decode cX5_timeOf 41 = .ok (.aload_n 0, 1) := by decide +kernel
theorem dX5_timeOf_42 : decode cX5_timeOf 42 = .ok (.iload_n 3, 1) := by decide +kernel
theorem dX5_timeOf_43 : decode cX5_timeOf 43 = .ok (.invokevirtual 161, 3) := by decide +kernel
theorem dX5_timeOf_46 : decode cX5_timeOf 46 = .ok (.imul, 1) := by decide +kernel
theorem dX5_timeOf_47 : decode cX5_timeOf 47 = .ok (.iadd, 1) := by decide +kernel
theorem dX5_timeOf_48 : decode cX5_timeOf 48 = .ok (.ireturn, 1) := by decide +kernel
set_option maxRecDepth 20000 in
theorem ggX5_listJobs_X5_waits : GoodIn wsX5_listJobs wsX5_waits := goodIn_r _ [9, 10, 11, 12, 13, 14, 15, 16, 17, 18, 19, 20, 21, 22, 23, 24, 25, 26, 27, 28, 29, 30, 31, 32, 33, 34, 35, 36, 37] (by decide +kernel) (by decide +kernel)
set_option maxRecDepth 20000 in
theorem gX5_listJobs_X5_waits : GoodIn wsX5_listJobs (wsV RX5 147 RX5 yX5_waits wsX5_waits) := goodIn_app (goodIn_of _ (by decide +kernel)) ggX5_listJobs_X5_waits
theorem dX5_listJobs_0 : decode cX5_listJobs 0 = .ok (.aload_n 0, 1) := by decide +kernel
theorem dX5_listJobs_1 : decode cX5_listJobs 1 = .ok (.iconst 0, 1) := by decide +kernel
theorem dX5_listJobs_2 : decode cX5_listJobs 2 = .ok (.putfield 164, 3) := by decide +kernel
theorem dX5_listJobs_5 : decode cX5_listJobs 5 = .ok (.iconst 0, 1) := by decide +kernel
theorem dX5_listJobs_6 : decode cX5_listJobs 6 = .ok (.istore_n 2, 1) := by decide +kernel
theorem dX5_listJobs_7 : decode cX5_listJobs 7 = .ok (.iload_n 2, 1) := by decide +kernel
theorem dX5_listJobs_8 : decode cX5_listJobs 8 = .ok (.aload_n 0, 1) := by decide +kernel
theorem dX5_listJobs_9 : decode cX5_listJobs 9 = .ok (.getfield 144, 3) := by decide +kernel
theorem dX5_listJobs_12 : decode cX5_listJobs 12 = .ok (.if_icmp .ge 43, 3) := by decide +kernel
theorem dX5_listJobs_15 : decode cX5_listJobs 15 = .ok (.aload_n 0, 1) := by decide +kernel
theorem dX5_listJobs_16 : decode cX5_listJobs 16 = .ok (.iload_n 2, 1) := by decide +kernel
theorem dX5_listJobs_17 : decode cX5_listJobs 17 = .ok (.aload_n 0, 1) := by decide +kernel
theorem dX5_listJobs_18 : decode cX5_listJobs 18 = .ok (.getfield 44, 3) := by decide +kernel
theorem dX5_listJobs_21 : decode cX5_listJobs 21 = .ok (.iload_n 1, 1) := by decide +kernel
theorem dX5_listJobs_22 : decode cX5_listJobs 22 = .ok (.iaload, 1) := by decide +kernel
theorem dX5_listJobs_23 : decode cX5_listJobs 23 = .ok (.invokevirtual 147, 3) := by decide +kernel
theorem dX5_listJobs_26 : decode cX5_listJobs 26 = .ok (.ifCond .eq 23, 3) := by decide +kernel
theorem dX5_listJobs_29 : decode cX5_listJobs 29 = .ok (.aload_n 0, 1) := by decide +kernel
theorem dX5_listJobs_30 : decode cX5_listJobs 30 = .ok (.getfield 62, 3) := by decide +kernel
theorem dX5_listJobs_33 : decode cX5_listJobs 33 = .ok (.aload_n 0, 1) := by decide +kernel
theorem dX5_listJobs_34 : decode cX5_listJobs 34 = .ok (.getfield 164, 3) := by decide +kernel
theorem dX5_listJobs_37 : decode cX5_listJobs 37 = .ok (.iload_n 2, 1) := by decide +kernel
theorem dX5_listJobs_38 : decode cX5_listJobs 38 = .ok (.iastore, 1) := by decide +kernel
theorem dX5_listJobs_39 : decode cX5_listJobs 39 = .ok (.aload_n 0, 1) := by decide +kernel
theorem dX5_listJobs_40 : decode cX5_listJobs 40 = .ok (.dup, 1) := by decide +kernel
theorem dX5_listJobs_41 : decode cX5_listJobs 41 = .ok (.getfield 164, 3) := by decide +kernel
theorem dX5_listJobs_44 : decode cX5_listJobs 44 = .ok (.iconst 1, 1) := by decide +kernel
theorem dX5_listJobs_45 : decode cX5_listJobs 45 = .ok (.iadd, 1) := by decide +kernel
theorem dX5_listJobs_46 : decode cX5_listJobs 46 = .ok (.putfield 164, 3) := by decide +kernel
theorem dX5_listJobs_49 : decode cX5_listJobs 49 = .ok (.iinc 2 1, 3) := by decide +kernel
theorem dX5_listJobs_52 : decode cX5_listJobs 52 = .ok (.goto (-45), 3) := by decide +kernel
theorem dX5_listJobs_55 : decode cX5_listJobs 55 = .ok (.return_, 1) := by decide +kernel
set_option maxRecDepth 20000 in
theorem ggX5_arrange_X5_listJobs : GoodIn wsX5_arrange wsX5_listJobs := goodIn_r _ [9, 1, 10, 11, 12, 13, 14, 15, 8, 16, 17, 18, 53, 54, 55, 56, 57, 58, 59, 60, 61, 62, 63, 64, 65, 66, 67, 68, 69, 70, 71, 72, 73, 74, 75, 76, 77, 78] (by decide +kernel) (by decide +kernel)
set_option maxRecDepth 20000 in
theorem gX5_arrange_X5_listJobs : GoodIn wsX5_arrange (wsV RX5 167 RX5 yX5_listJobs wsX5_listJobs) := goodIn_app (goodIn_of _ (by decide +kernel)) ggX5_arrange_X5_listJobs
set_option maxRecDepth 20000 in
theorem ggX5_arrange_X5_timeOf : GoodIn wsX5_arrange wsX5_timeOf := goodIn_r _ [22, 23, 24, 25, 26, 8, 27, 28, 18, 12, 29, 30, 31, 32, 33, 34, 35, 36, 37, 38, 11, 39, 40, 41, 42, 43, 44, 45, 46, 47, 48, 49, 50, 51, 52, 53, 54, 55, 56, 57, 58, 59, 60, 61, 62, 63, 64, 65, 66, 67, 68, 69, 70, 71, 72, 73, 74, 75, 76, 77, 78] (by decide +kernel) (by decide +kernel)
set_option maxRecDepth 20000 in
theorem gX5_arrange_X5_timeOf : GoodIn wsX5_arrange (wsV RX5 172 RX5 yX5_timeOf wsX5_timeOf) := goodIn_app (goodIn_of _ (by decide +kernel)) ggX5_arrange_X5_timeOf
theorem dX5_arrange_0 : decode cX5_arrange 0 = .ok (.aload_n 0, 1) := by decide +kernel
theorem dX5_arrange_1 : decode cX5_arrange 1 = .ok (.iload_n 1, 1) := by decide +kernel
theorem dX5_arrange_2 : decode cX5_arrange 2 = .ok (.invokevirtual 167, 3) := by decide +kernel
theorem dX5_arrange_5 : decode cX5_arrange 5 = .ok (.iconst 0, 1) := by decide +kernel
theorem dX5_arrange_6 : decode cX5_arrange 6 = .ok (.istore_n 2, 1) := by decide +kernel
theorem dX5_arrange_7 : decode cX5_arrange 7 = .ok (.iload_n 2, 1) := by decide +kernel
theorem dX5_arrange_8 : decode cX5_arrange 8 = .ok (.iconst 1, 1) := by decide +kernel
theorem dX5_arrange_9 : decode cX5_arrange 9 = .ok (.aload_n 0, 1) := by decide +kernel
theorem dX5_arrange_10 : decode cX5_arrange 10 = .ok (.getfield 164, 3) := by decide +kernel
theorem dX5_arrange_13 : decode cX5_arrange 13 = .ok (.ishl, 1) := by decide +kernel
theorem dX5_arrange_14 : decode cX5_arrange 14 = .ok (.if_icmp .ge 134, 3) := by decide +kernel
theorem dX5_arrange_17 : decode cX5_arrange 17 = .ok (.iconst 0, 1) := by decide +kernel
theorem dX5_arrange_18 : decode cX5_arrange 18 = .ok (.istore_n 3, 1) := by decide +kernel
theorem dX5_arrange_19 : decode cX5_arrange 19 = .ok (.iload_n 3, 1) := by decide +kernel
theorem dX5_arrange_20 : decode cX5_arrange 20 = .ok (.bipush 8, 2) := by decide +kernel
theorem dX5_arrange_22 : decode cX5_arrange 22 = .ok (.if_icmp .ge 120, 3) := by decide +kernel
theorem dX5_arrange_25 : decode cX5_arrange 25 = .ok (.iload_n 2, 1) := by decide +kernel
theorem dX5_arrange_26 : decode cX5_arrange 26 = .ok (.ifCond .ne 7, 3) := by decide +kernel
theorem dX5_arrange_29 : decode cX5_arrange 29 = .ok (.iconst 0, 1) := by decide +kernel
theorem dX5_arrange_30 : decode cX5_arrange 30 = .ok (.goto 5, 3) := by decide +kernel
theorem dX5_arrange_33 : decode cX5_arrange 33 = .ok (.ldc 171, 2) := by decide +kernel
theorem dX5_arrange_35 : decode cX5_arrange 35 = .ok (.istore 4, 2) := by decide +kernel
theorem dX5_arrange_37 : decode cX5_arrange 37 = .ok (.iconst 0, 1) := by decide +kernel
theorem dX5_arrange_38 : decode cX5_arrange 38 = .ok (.istore 5, 2) := by decide +kernel
theorem dX5_arrange_40 : decode cX5_arrange 40 = .ok (.iload 5, 2) := by decide +kernel
theorem dX5_arrange_42 : decode cX5_arrange 42 = .ok (.aload_n 0, 1) := by decide +kernel
theorem dX5_arrange_43 : decode cX5_arrange 43 = .ok (.getfield 164, 3) := by decide +kernel
theorem dX5_arrange_46 : decode cX5_arrange 46 = .ok (.if_icmp .ge 77, 3) := by decide +kernel
theorem dX5_arrange_49 : decode cX5_arrange 49 = .ok (.iload_n 3, 1) := by decide +kernel
theorem dX5_arrange_50 : decode cX5_arrange 50 = .ok (.aload_n 0, 1) := by decide +kernel
theorem dX5_arrange_51 : decode cX5_arrange 51 = .ok (.getfield 164, 3) := by decide +kernel
theorem dX5_arrange_54 : decode cX5_arrange 54 = .ok (.if_icmp .lt 9, 3) := by decide +kernel
theorem dX5_arrange_57 : decode cX5_arrange 57 = .ok (.iload_n 3, 1) := by decide +kernel
theorem dX5_arrange_58 : decode cX5_arrange 58 = .ok (.bipush 7, 2) := by decide +kernel
theorem dX5_arrange_60 : decode cX5_arrange 60 = .ok (.if_icmp .ne 63, 3) := by decide +kernel
theorem dX5_arrange_63 : decode cX5_arrange 63 = .ok (.iload_n 2, 1) := by decide +kernel
theorem dX5_arrange_64 : decode cX5_arrange 64 = .ok (.iload 5, 2) := by decide +kernel
theorem dX5_arrange_66 : decode cX5_arrange 66 = .ok (.ishr, 1) := by decide +kernel
theorem dX5_arrange_67 : decode cX5_arrange 67 = .ok (.iconst 1, 1) := by decide +kernel
theorem dX5_arrange_68 : decode cX5_arrange 68 = .ok (.iand, 1) := by decide +kernel
theorem dX5_arrange_69 : decode cX5_arrange 69 = .ok (.iconst 1, 1) := by decide +kernel
theorem dX5_arrange_70 : decode cX5_arrange 70 = .ok (.if_icmp .ne 47, 3) := by decide +kernel
theorem dX5_arrange_73 : decode cX5_arrange 73 = .ok (.aload_n 0, 1) := by decide +kernel
theorem dX5_arrange_74 : decode cX5_arrange 74 = .ok (.iload_n 1, 1) := by decide +kernel
theorem dX5_arrange_75 : decode cX5_arrange 75 = .ok (.iload_n 3, 1) := by decide +kernel
theorem dX5_arrange_76 : decode cX5_arrange 76 = .ok (.iload 5, 2) := by decide +kernel
theorem dX5_arrange_78 : decode cX5_arrange 78 = .ok (.invokevirtual 172, 3) := by decide +kernel
theorem dX5_arrange_81 : decode cX5_arrange 81 = .ok (.aload_n 0, 1) := by decide +kernel
theorem dX5_arrange_82 : decode cX5_arrange 82 = .ok (.getfield 68, 3) := by decide +kernel
theorem dX5_arrange_85 : decode cX5_arrange 85 = .ok (.bipush 8, 2) := by decide +kernel
theorem dX5_arrange_87 : decode cX5_arrange 87 = .ok (.iload_n 2, 1) := by decide +kernel
theorem dX5_arrange_88 : decode cX5_arrange 88 = .ok (.iconst 1, 1) := by decide +kernel
theorem dX5_arrange_89 : decode cX5_arrange 89 = .ok (.iload 5, 2) := by decide +kernel
theorem dX5_arrange_91 : decode cX5_arrange 91 = .ok (.ishl, 1) := by decide +kernel
theorem dX5_arrange_92 : decode cX5_arrange 92 = .ok (.ixor, 1) := by decide +kernel
theorem dX5_arrange_93 : decode cX5_arrange 93 = .ok (.imul, 1) := by decide +kernel
theorem dX5_arrange_94 : decode cX5_arrange 94 = .ok (.iload 5, 2) := by decide +kernel
theorem dX5_arrange_96 : decode cX5_arrange 96 = .ok (.iadd, 1) := by decide +kernel
theorem dX5_arrange_97 : decode cX5_arrange 97 = .ok (.iaload, 1) := by decide +kernel
theorem dX5_arrange_98 : decode cX5_arrange 98 = .ok (.iadd, 1) := by decide +kernel
theorem dX5_arrange_99 : decode cX5_arrange 99 = .ok (.istore 6, 2) := by decide +kernel
theorem dX5_arrange_101 : decode cX5_arrange 101 = .ok (.iload 6, 2) := by decide +kernel
theorem dX5_arrange_103 : decode cX5_arrange 103 = .ok (.iload 4, 2) := by decide +kernel
theorem dX5_arrange_105 : decode cX5_arrange 105 = .ok (.if_icmp .ge 8, 3) := by decide +kernel
theorem dX5_arrange_108 : decode cX5_arrange 108 = .ok (.iload 6, 2) := by decide +kernel
theorem dX5_arrange_110 : decode cX5_arrange 110 = .ok (.goto 5, 3) := by decide +kernel
theorem dX5_arrange_113 : decode cX5_arrange 113 = .ok (.iload 4, 2) := by decide +kernel
theorem dX5_arrange_115 : decode cX5_arrange 115 = .ok (.istore 4, 2) := by decide +kernel
theorem dX5_arrange_117 : decode cX5_arrange 117 = .ok (.iinc 5 1, 3) := by decide +kernel
theorem dX5_arrange_120 : decode cX5_arrange 120 = .ok (.goto (-80), 3) := by decide +kernel
theorem dX5_arrange_123 : decode cX5_arrange 123 = .ok (.aload_n 0, 1) := by decide +kernel
theorem dX5_arrange_124 : decode cX5_arrange 124 = .ok (.getfield 68, 3) := by decide +kernel
theorem dX5_arrange_127 : decode cX5_arrange 127 = .ok (.bipush 8, 2) := by decide +kernel
theorem dX5_arrange_129 : decode cX5_arrange 129 = .ok (.iload_n 2, 1) := by decide +kernel
theorem dX5_arrange_130 : decode cX5_arrange 130 = .ok (.imul, 1) := by decide +kernel
theorem dX5_arrange_131 : decode cX5_arrange 131 = .ok (.iload_n 3, 1) := by decide +kernel
theorem dX5_arrange_132 : decode cX5_arrange 132 = .ok (.iadd, 1) := by decide +kernel
theorem dX5_arrange_133 : decode cX5_arrange 133 = .ok (.iload 4, 2) := by decide +kernel
theorem dX5_arrange_135 : decode cX5_arrange 135 = .ok (.iastore, 1) := by decide +kernel
theorem dX5_arrange_136 : decode cX5_arrange 136 = .ok (.iinc 3 1, 3) := by decide +kernel
theorem dX5_arrange_139 : decode cX5_arrange 139 = .ok (.goto (-120), 3) := by decide +kernel
theorem dX5_arrange_142 : decode cX5_arrange 142 = .ok (.iinc 2 1, 3) := by decide +kernel
theorem dX5_arrange_145 : decode cX5_arrange 145 = .ok (.goto (-138), 3) := by decide +kernel
theorem dX5_arrange_148 : decode cX5_arrange 148 = .ok (.iconst 1, 1) := by decide +kernel
theorem dX5_arrange_149 : decode cX5_arrange 149 = .ok (.aload_n 0, 1) := by decide +kernel
theorem dX5_arrange_150 : decode cX5_arrange 150 = .ok (.getfield 164, 3) := by decide +kernel
theorem dX5_arrange_153 : decode cX5_arrange 153 = .ok (.ishl, 1) := by decide +kernel
theorem dX5_arrange_154 : decode cX5_arrange 154 = .ok (.iconst 1, 1) := by decide +kernel
theorem dX5_arrange_155 : decode cX5_arrange 155 = .ok (.isub, 1) := by decide +kernel
theorem dX5_arrange_156 : decode cX5_arrange 156 = .ok (.istore_n 2, 1) := by decide +kernel
theorem dX5_arrange_157 : decode cX5_arrange 157 = .ok (.bipush 7, 2) := by decide +kernel
theorem dX5_arrange_159 : decode cX5_arrange 159 = .ok (.istore_n 3, 1) := by decide +kernel
theorem dX5_arrange_160 : decode cX5_arrange 160 = .ok (.iconst 0, 1) := by decide +kernel
theorem dX5_arrange_161 : decode cX5_arrange 161 = .ok (.istore 4, 2) := by decide +kernel
theorem dX5_arrange_163 : decode cX5_arrange 163 = .ok (.iload 4, 2) := by decide +kernel
theorem dX5_arrange_165 : decode cX5_arrange 165 = .ok (.aload_n 0, 1) := by decide +kernel
theorem dX5_arrange_166 : decode cX5_arrange 166 = .ok (.getfield 164, 3) := by decide +kernel
theorem dX5_arrange_169 : decode cX5_arrange 169 = .ok (.if_icmp .ge 86, 3) := by decide +kernel
theorem dX5_arrange_172 : decode cX5_arrange 172 = .ok (.iconst 0, 1) := by decide +kernel
theorem dX5_arrange_173 : decode cX5_arrange 173 = .ok (.istore 5, 2) := by decide +kernel
theorem dX5_arrange_175 : decode cX5_arrange 175 = .ok (.iload_n 2, 1) := by decide +kernel
theorem dX5_arrange_176 : decode cX5_arrange 176 = .ok (.iload 5, 2) := by decide +kernel
theorem dX5_arrange_178 : decode cX5_arrange 178 = .ok (.ishr, 1) := by decide +kernel
theorem dX5_arrange_179 : decode cX5_arrange 179 = .ok (.iconst 1, 1) := by decide +kernel
theorem dX5_arrange_180 : decode cX5_arrange 180 = .ok (.iand, 1) := by decide +kernel
theorem dX5_arrange_181 : decode cX5_arrange 181 = .ok (.ifCond .eq 43, 3) := by decide +kernel
theorem dX5_arrange_184 : decode cX5_arrange 184 = .ok (.aload_n 0, 1) := by decide +kernel
theorem dX5_arrange_185 : decode cX5_arrange 185 = .ok (.iload_n 1, 1) := by decide +kernel
theorem dX5_arrange_186 : decode cX5_arrange 186 = .ok (.iload_n 3, 1) := by decide +kernel
theorem dX5_arrange_187 : decode cX5_arrange 187 = .ok (.iload 5, 2) := by decide +kernel
theorem dX5_arrange_189 : decode cX5_arrange 189 = .ok (.invokevirtual 172, 3) := by decide +kernel
theorem dX5_arrange_192 : decode cX5_arrange 192 = .ok (.aload_n 0, 1) := by decide +kernel
theorem dX5_arrange_193 : decode cX5_arrange 193 = .ok (.getfield 68, 3) := by decide +kernel
theorem dX5_arrange_196 : decode cX5_arrange 196 = .ok (.bipush 8, 2) := by decide +kernel
theorem dX5_arrange_198 : decode cX5_arrange 198 = .ok (.iload_n 2, 1) := by decide +kernel
theorem dX5_arrange_199 : decode cX5_arrange 199 = .ok (.iconst 1, 1) := by decide +kernel
theorem dX5_arrange_200 : decode cX5_arrange 200 = .ok (.iload 5, 2) := by decide +kernel
theorem dX5_arrange_202 : decode cX5_arrange 202 = .ok (.ishl, 1) := by decide +kernel
theorem dX5_arrange_203 : decode cX5_arrange 203 = .ok (.ixor, 1) := by decide +kernel
theorem dX5_arrange_204 : decode cX5_arrange 204 = .ok (.imul, 1) := by decide +kernel
theorem dX5_arrange_205 : decode cX5_arrange 205 = .ok (.iload 5, 2) := by decide +kernel
theorem dX5_arrange_207 : decode cX5_arrange 207 = .ok (.iadd, 1) := by decide +kernel
theorem dX5_arrange_208 : decode cX5_arrange 208 = .ok (.iaload, 1) := by decide +kernel
theorem dX5_arrange_209 : decode cX5_arrange 209 = .ok (.iadd, 1) := by decide +kernel
theorem dX5_arrange_210 : decode cX5_arrange 210 = .ok (.aload_n 0, 1) := by decide +kernel
theorem dX5_arrange_211 : decode cX5_arrange 211 = .ok (.getfield 68, 3) := by decide +kernel
theorem dX5_arrange_214 : decode cX5_arrange 214 = .ok (.bipush 8, 2) := by decide +kernel
theorem dX5_arrange_216 : decode cX5_arrange 216 = .ok (.iload_n 2, 1) := by decide +kernel
theorem dX5_arrange_217 : decode cX5_arrange 217 = .ok (.imul, 1) := by decide +kernel
theorem dX5_arrange_218 : decode cX5_arrange 218 = .ok (.iload_n 3, 1) := by decide +kernel
theorem dX5_arrange_219 : decode cX5_arrange 219 = .ok (.iadd, 1) := by decide +kernel
theorem dX5_arrange_220 : decode cX5_arrange 220 = .ok (.iaload, 1) := by decide +kernel
theorem dX5_arrange_221 : decode cX5_arrange 221 = .ok (.if_icmp .eq 9, 3) := by decide +kernel
theorem dX5_arrange_224 : decode cX5_arrange 224 = .ok (.iinc 5 1, 3) := by decide +kernel
theorem dX5_arrange_227 : decode cX5_arrange 227 = .ok (.goto (-52), 3) := by decide +kernel
theorem dX5_arrange_230 : decode cX5_arrange 230 = .ok (.aload_n 0, 1) := by decide +kernel
theorem dX5_arrange_231 : decode cX5_arrange 231 = .ok (.getfield 65, 3) := by decide +kernel
theorem dX5_arrange_234 : decode cX5_arrange 234 = .ok (.iload 4, 2) := by decide +kernel
theorem dX5_arrange_236 : decode cX5_arrange 236 = .ok (.iload 5, 2) := by decide +kernel
theorem dX5_arrange_238 : decode cX5_arrange 238 = .ok (.iastore, 1) := by decide +kernel
theorem dX5_arrange_239 : decode cX5_arrange 239 = .ok (.iload_n 2, 1) := by decide +kernel
theorem dX5_arrange_240 : decode cX5_arrange 240 = .ok (.iconst 1, 1) := by decide +kernel
theorem dX5_arrange_241 : decode cX5_arrange 241 = .ok (.iload 5, 2) := by decide +kernel
theorem dX5_arrange_243 : decode cX5_arrange 243 = .ok (.ishl, 1) := by decide +kernel
theorem dX5_arrange_244 : decode cX5_arrange 244 = .ok (.ixor, 1) := by decide +kernel
theorem dX5_arrange_245 : decode cX5_arrange 245 = .ok (.istore_n 2, 1) := by decide +kernel
theorem dX5_arrange_246 : decode cX5_arrange 246 = .ok (.iload 5, 2) := by decide +kernel
theorem dX5_arrange_248 : decode cX5_arrange 248 = .ok (.istore_n 3, 1) := by decide +kernel
theorem dX5_arrange_249 : decode cX5_arrange 249 = .ok (.iinc 4 1, 3) := by decide +kernel
theorem dX5_arrange_252 : decode cX5_arrange 252 = .ok (.goto (-89), 3) := by decide +kernel
theorem dX5_arrange_255 : decode cX5_arrange 255 = .ok (.aload_n 0, 1) := by decide +kernel
theorem dX5_arrange_256 : decode cX5_arrange 256 = .ok (.getfield 68, 3) := by decide +kernel
theorem dX5_arrange_259 : decode cX5_arrange 259 = .ok (.bipush 8, 2) := by decide +kernel
theorem dX5_arrange_261 : decode cX5_arrange 261 = .ok (.iconst 1, 1) := by decide +kernel
theorem dX5_arrange_262 : decode cX5_arrange 262 = .ok (.aload_n 0, 1) := by decide +kernel
theorem dX5_arrange_263 : decode cX5_arrange 263 = .ok (.getfield 164, 3) := by decide +kernel
theorem dX5_arrange_266 : decode cX5_arrange 266 = .ok (.ishl, 1) := by decide +kernel
theorem dX5_arrange_267 : decode cX5_arrange 267 = .ok (.iconst 1, 1) := by decide +kernel
theorem dX5_arrange_268 : decode cX5_arrange 268 = .ok (.isub, 1) := by decide +kernel
theorem dX5_arrange_269 : decode cX5_arrange 269 = .ok (.imul, 1) := by decide +kernel
theorem dX5_arrange_270 : decode cX5_arrange 270 = .ok (.bipush 7, 2) := by decide +kernel
theorem dX5_arrange_272 : decode cX5_arrange 272 = .ok (.iadd, 1) := by decide +kernel
theorem dX5_arrange_273 : decode cX5_arrange 273 = .ok (.iaload, 1) := by decide +kernel
theorem dX5_arrange_274 : decode cX5_arrange 274 = .ok (.ireturn, 1) := by decide +kernel
set_option maxRecDepth 20000 in
theorem ggX5_bestTime_X5_isDrive : GoodIn wsX5_bestTime wsX5_isDrive := goodIn_r _ [5, 6, 7, 8, 4, 9, 74, 75, 76, 77, 78, 79, 80, 81, 82, 83, 84, 85, 86, 87, 88, 89, 90, 91, 92, 93, 94, 95, 96, 97, 98, 99] (by decide +kernel) (by decide +kernel)
set_option maxRecDepth 20000 in
theorem gX5_bestTime_X5_isDrive : GoodIn wsX5_bestTime (wsV RX5 92 RX5 yX5_isDrive wsX5_isDrive) := goodIn_app (goodIn_of _ (by decide +kernel)) ggX5_bestTime_X5_isDrive
set_option maxRecDepth 20000 in
theorem ggX5_bestTime_X5_hasTape : GoodIn wsX5_bestTime wsX5_hasTape := goodIn_r _ [13, 14, 1, 2, 3, 4, 5, 6, 7, 8, 9, 74, 75, 76, 77, 78, 79, 80, 81, 82, 83, 84, 85, 86, 87, 88, 89, 90, 91, 92, 93, 94, 95, 96, 97, 98, 99] (by decide +kernel) (by decide +kernel)
set_option maxRecDepth 20000 in
theorem gX5_bestTime_X5_hasTape : GoodIn wsX5_bestTime (wsV RX5 124 RX5 yX5_hasTape wsX5_hasTape) := goodIn_app (goodIn_of _ (by decide +kernel)) ggX5_bestTime_X5_hasTape
set_option maxRecDepth 20000 in
theorem ggX5_bestTime_X5_mayBoth : GoodIn wsX5_bestTime wsX5_mayBoth := goodIn_r _ [18, 19, 74, 75, 76, 77, 78, 79, 80, 81, 82, 83, 84, 85, 86, 87, 88, 89, 90, 91, 92, 93, 94, 95, 96, 97, 98, 99] (by decide +kernel) (by decide +kernel)
set_option maxRecDepth 20000 in
theorem gX5_bestTime_X5_mayBoth : GoodIn wsX5_bestTime (wsV RX5 95 RX5 yX5_mayBoth wsX5_mayBoth) := goodIn_app (goodIn_of _ (by decide +kernel)) ggX5_bestTime_X5_mayBoth
set_option maxRecDepth 20000 in
theorem ggX5_bestTime_X5_arrange : GoodIn wsX5_bestTime wsX5_arrange := goodIn_r _ [23, 24, 25, 26, 27, 28, 29, 30, 4, 31, 32, 14, 33, 34, 35, 36, 37, 38, 39, 40, 41, 42, 43, 44, 45, 46, 47, 48, 49, 50, 51, 52, 53, 54, 55, 56, 57, 58, 59, 60, 61, 62, 63, 64, 65, 66, 67, 68, 69, 70, 71, 72, 73, 74, 75, 76, 77, 78, 79, 80, 81, 82, 83, 84, 85, 86, 87, 88, 89, 90, 91, 92, 93, 94, 95, 96, 97, 98, 99] (by decide +kernel) (by decide +kernel)
set_option maxRecDepth 20000 in
theorem gX5_bestTime_X5_arrange : GoodIn wsX5_bestTime (wsV RX5 175 RX5 yX5_arrange wsX5_arrange) := goodIn_app (goodIn_of _ (by decide +kernel)) ggX5_bestTime_X5_arrange
theorem dX5_bestTime_0 : decode cX5_bestTime 0 = .ok (.aload_n 0, 1) := by decide +kernel
theorem dX5_bestTime_1 : decode cX5_bestTime 1 = .ok (.aload_n 0, 1) := by decide +kernel
theorem dX5_bestTime_2 : decode cX5_bestTime 2 = .ok (.iload_n 1, 1) := by decide +kernel
theorem dX5_bestTime_3 : decode cX5_bestTime 3 = .ok (.invokevirtual 92, 3) := by decide +kernel
theorem dX5_bestTime_6 : decode cX5_bestTime 6 = .ok (.aload_n 0, 1) := by decide +kernel
theorem dX5_bestTime_7 : decode cX5_bestTime 7 = .ok (.iload_n 1, 1) := by decide +kernel
theorem dX5_bestTime_8 : decode cX5_bestTime 8 = .ok (.invokevirtual 124, 3) := by decide +kernel
theorem dX5_bestTime_11 : decode cX5_bestTime 11 = .ok (.invokevirtual 95, 3) := by decide +kernel
theorem dX5_bestTime_14 : decode cX5_bestTime 14 = .ok (.ifCond .eq 11, 3) := by decide +kernel
theorem dX5_bestTime_17 : decode cX5_bestTime 17 = .ok (.aload_n 0, 1) := by decide +kernel
theorem dX5_bestTime_18 : decode cX5_bestTime 18 = .ok (.iload_n 1, 1) := by decide +kernel
theorem dX5_bestTime_19 : decode cX5_bestTime 19 = .ok (.invokevirtual 175, 3) := by decide +kernel
theorem dX5_bestTime_22 : decode cX5_bestTime 22 = .ok (.goto 4, 3) := by decide +kernel
theorem dX5_bestTime_25 : decode cX5_bestTime 25 = .ok (.iconst 0, 1) := by decide +kernel
theorem dX5_bestTime_26 : decode cX5_bestTime 26 = .ok (.ireturn, 1) := by decide +kernel
set_option maxRecDepth 20000 in
theorem ggX5_bestJob_X5_isDrive : GoodIn wsX5_bestJob wsX5_isDrive := goodIn_r _ [8, 9, 10, 11, 7, 12, 78, 79, 80, 81, 82, 83, 84, 85, 86, 87, 88, 89, 90, 91, 92, 93, 94, 95, 96, 97, 98, 99, 100, 101, 102, 103] (by decide +kernel) (by decide +kernel)
set_option maxRecDepth 20000 in
theorem gX5_bestJob_X5_isDrive : GoodIn wsX5_bestJob (wsV RX5 92 RX5 yX5_isDrive wsX5_isDrive) := goodIn_app (goodIn_of _ (by decide +kernel)) ggX5_bestJob_X5_isDrive
set_option maxRecDepth 20000 in
theorem ggX5_bestJob_X5_hasTape : GoodIn wsX5_bestJob wsX5_hasTape := goodIn_r _ [16, 17, 4, 5, 6, 7, 8, 9, 10, 11, 12, 78, 79, 80, 81, 82, 83, 84, 85, 86, 87, 88, 89, 90, 91, 92, 93, 94, 95, 96, 97, 98, 99, 100, 101, 102, 103] (by decide +kernel) (by decide +kernel)
set_option maxRecDepth 20000 in
theorem gX5_bestJob_X5_hasTape : GoodIn wsX5_bestJob (wsV RX5 124 RX5 yX5_hasTape wsX5_hasTape) := goodIn_app (goodIn_of _ (by decide +kernel)) ggX5_bestJob_X5_hasTape
set_option maxRecDepth 20000 in
theorem ggX5_bestJob_X5_mayBoth : GoodIn wsX5_bestJob wsX5_mayBoth := goodIn_r _ [21, 22, 78, 79, 80, 81, 82, 83, 84, 85, 86, 87, 88, 89, 90, 91, 92, 93, 94, 95, 96, 97, 98, 99, 100, 101, 102, 103] (by decide +kernel) (by decide +kernel)
set_option maxRecDepth 20000 in
theorem gX5_bestJob_X5_mayBoth : GoodIn wsX5_bestJob (wsV RX5 95 RX5 yX5_mayBoth wsX5_mayBoth) := goodIn_app (goodIn_of _ (by decide +kernel)) ggX5_bestJob_X5_mayBoth
set_option maxRecDepth 20000 in
theorem ggX5_bestJob_X5_arrange : GoodIn wsX5_bestJob wsX5_arrange := goodIn_r _ [26, 1, 27, 28, 3, 29, 30, 31, 7, 32, 33, 17, 2, 34, 35, 36, 37, 38, 39, 40, 41, 42, 43, 44, 45, 46, 47, 48, 49, 50, 51, 52, 53, 54, 55, 56, 57, 58, 59, 60, 61, 62, 63, 64, 65, 66, 67, 68, 69, 70, 71, 72, 73, 78, 79, 80, 81, 82, 83, 84, 85, 86, 87, 88, 89, 90, 91, 92, 93, 94, 95, 96, 97, 98, 99, 100, 101, 102, 103] (by decide +kernel) (by decide +kernel)
set_option maxRecDepth 20000 in
theorem gX5_bestJob_X5_arrange : GoodIn wsX5_bestJob (wsV RX5 175 RX5 yX5_arrange wsX5_arrange) := goodIn_app (goodIn_of _ (by decide +kernel)) ggX5_bestJob_X5_arrange
set_option maxRecDepth 20000 in
theorem ggX5_bestJob_X5_isIn : GoodIn wsX5_bestJob wsX5_isIn := goodIn_r _ [12] (by decide +kernel) (by decide +kernel)
set_option maxRecDepth 20000 in
theorem gX5_bestJob_X5_isIn : GoodIn wsX5_bestJob (va_wsS RX5 81 yX5_isIn wsX5_isIn) := goodIn_app (goodIn_of _ (by decide +kernel)) ggX5_bestJob_X5_isIn
set_option maxRecDepth 20000 in
theorem ggX5_bestJob_X5_may : GoodIn wsX5_bestJob wsX5_may := goodIn_r _ [77, 22, 78, 79, 80, 81, 82, 83, 84, 85, 86, 87, 88, 89, 90, 91, 92, 93, 94, 95, 96, 97, 98, 99, 100, 101, 102, 103] (by decide +kernel) (by decide +kernel)
set_option maxRecDepth 20000 in
theorem gX5_bestJob_X5_may : GoodIn wsX5_bestJob (wsV RX5 102 RX5 yX5_may wsX5_may) := goodIn_app (goodIn_of _ (by decide +kernel)) ggX5_bestJob_X5_may
theorem dX5_bestJob_0 : decode cX5_bestJob 0 = .ok (.aload_n 0, 1) := by decide +kernel
theorem dX5_bestJob_1 : decode cX5_bestJob 1 = .ok (.aload_n 0, 1) := by decide +kernel
theorem dX5_bestJob_2 : decode cX5_bestJob 2 = .ok (.iload_n 1, 1) := by decide +kernel
theorem dX5_bestJob_3 : decode cX5_bestJob 3 = .ok (.invokevirtual 92, 3) := by decide +kernel
theorem dX5_bestJob_6 : decode cX5_bestJob 6 = .ok (.aload_n 0, 1) := by decide +kernel
theorem dX5_bestJob_7 : decode cX5_bestJob 7 = .ok (.iload_n 1, 1) := by decide +kernel
theorem dX5_bestJob_8 : decode cX5_bestJob 8 = .ok (.invokevirtual 124, 3) := by decide +kernel
theorem dX5_bestJob_11 : decode cX5_bestJob 11 = .ok (.invokevirtual 95, 3) := by decide +kernel
theorem dX5_bestJob_14 : decode cX5_bestJob 14 = .ok (.ifCond .ne 5, 3) := by decide +kernel
theorem dX5_bestJob_17 : decode cX5_bestJob 17 = .ok (.iconst 0, 1) := by decide +kernel
theorem dX5_bestJob_18 : decode cX5_bestJob 18 = .ok (.ireturn, 1) := by decide +kernel
theorem dX5_bestJob_19 : decode cX5_bestJob 19 = .ok (.aload_n 0, 1) := by decide +kernel
theorem dX5_bestJob_20 : decode cX5_bestJob 20 = .ok (.iload_n 1, 1) := by decide +kernel
theorem dX5_bestJob_21 : decode cX5_bestJob 21 = .ok (.invokevirtual 175, 3) := by decide +kernel
theorem dX5_bestJob_24 : decode cX5_bestJob 24 = .ok (.pop, 1) := by decide +kernel
theorem dX5_bestJob_25 : decode cX5_bestJob 25 = .ok (.aload_n 0, 1) := by decide +kernel
theorem dX5_bestJob_26 : decode cX5_bestJob 26 = .ok (.iload_n 2, 1) := by decide +kernel
theorem dX5_bestJob_27 : decode cX5_bestJob 27 = .ok (.iconst 0, 1) := by decide +kernel
theorem dX5_bestJob_28 : decode cX5_bestJob 28 = .ok (.aload_n 0, 1) := by decide +kernel
theorem dX5_bestJob_29 : decode cX5_bestJob 29 = .ok (.getfield 164, 3) := by decide +kernel
theorem dX5_bestJob_32 : decode cX5_bestJob 32 = .ok (.iconst 1, 1) := by decide +kernel
theorem dX5_bestJob_33 : decode cX5_bestJob 33 = .ok (.isub, 1) := by decide +kernel
theorem dX5_bestJob_34 : decode cX5_bestJob 34 = .ok (.invokestatic 81, 3) := by decide +kernel
theorem dX5_bestJob_37 : decode cX5_bestJob 37 = .ok (.invokevirtual 102, 3) := by decide +kernel
theorem dX5_bestJob_40 : decode cX5_bestJob 40 = .ok (.ifCond .eq 17, 3) := by decide +kernel
theorem dX5_bestJob_43 : decode cX5_bestJob 43 = .ok (.aload_n 0, 1) := by decide +kernel
theorem dX5_bestJob_44 : decode cX5_bestJob 44 = .ok (.getfield 62, 3) := by decide +kernel
theorem dX5_bestJob_47 : decode cX5_bestJob 47 = .ok (.aload_n 0, 1) := by decide +kernel
theorem dX5_bestJob_48 : decode cX5_bestJob 48 = .ok (.getfield 65, 3) := by decide +kernel
theorem dX5_bestJob_51 : decode cX5_bestJob 51 = .ok (.iload_n 2, 1) := by decide +kernel
theorem dX5_bestJob_52 : decode cX5_bestJob 52 = .ok (.iaload, 1) := by decide +kernel
theorem dX5_bestJob_53 : decode cX5_bestJob 53 = .ok (.iaload, 1) := by decide +kernel
theorem dX5_bestJob_54 : decode cX5_bestJob 54 = .ok (.goto 4, 3) := by decide +kernel
theorem dX5_bestJob_57 : decode cX5_bestJob 57 = .ok (.iconst 0, 1) := by decide +kernel
theorem dX5_bestJob_58 : decode cX5_bestJob 58 = .ok (.ireturn, 1) := by decide +kernel
set_option maxRecDepth 20000 in
theorem ggX5_timeWith_X5_timeOf : GoodIn wsX5_timeWith wsX5_timeOf := goodIn_r _ [6, 7, 8, 9, 10, 5, 11, 12, 13, 14, 15, 16, 17, 18, 19, 20, 21, 22, 23, 24, 25, 26, 27, 28, 29, 30, 31, 32, 33, 34, 35, 36, 37, 38, 39, 40, 41, 42, 43, 44, 45, 46, 47, 48, 49, 50, 51, 52, 53, 54, 55, 56, 57, 58, 59, 60, 61, 62, 63, 64, 65] (by decide +kernel) (by decide +kernel)
set_option maxRecDepth 20000 in
theorem gX5_timeWith_X5_timeOf : GoodIn wsX5_timeWith (wsV RX5 172 RX5 yX5_timeOf wsX5_timeOf) := goodIn_app (goodIn_of _ (by decide +kernel)) ggX5_timeWith_X5_timeOf
theorem dX5_timeWith_0 : decode cX5_timeWith 0 = .ok (.iconst 0, 1) := by decide +kernel
theorem dX5_timeWith_1 : decode cX5_timeWith 1 = .ok (.istore 5, 2) := by decide +kernel
theorem dX5_timeWith_3 : decode cX5_timeWith 3 = .ok (.bipush 7, 2) := by decide +kernel
theorem dX5_timeWith_5 : decode cX5_timeWith 5 = .ok (.istore 6, 2) := by decide +kernel
theorem dX5_timeWith_7 : decode cX5_timeWith 7 = .ok (.iconst 0, 1) := by decide +kernel
theorem dX5_timeWith_8 : decode cX5_timeWith 8 = .ok (.istore 7, 2) := by decide +kernel
theorem dX5_timeWith_10 : decode cX5_timeWith 10 = .ok (.iload 7, 2) := by decide +kernel
theorem dX5_timeWith_12 : decode cX5_timeWith 12 = .ok (.iload_n 2, 1) := by decide +kernel
theorem dX5_timeWith_13 : decode cX5_timeWith 13 = .ok (.if_icmp .gt 66, 3) := by decide +kernel
theorem dX5_timeWith_16 : decode cX5_timeWith 16 = .ok (.iload 7, 2) := by decide +kernel
theorem dX5_timeWith_18 : decode cX5_timeWith 18 = .ok (.iload 4, 2) := by decide +kernel
theorem dX5_timeWith_20 : decode cX5_timeWith 20 = .ok (.if_icmp .ge 13, 3) := by decide +kernel
theorem dX5_timeWith_23 : decode cX5_timeWith 23 = .ok (.aload_n 0, 1) := by decide +kernel
theorem dX5_timeWith_24 : decode cX5_timeWith 24 = .ok (.getfield 71, 3) := by decide +kernel
theorem dX5_timeWith_27 : decode cX5_timeWith 27 = .ok (.iload 7, 2) := by decide +kernel
theorem dX5_timeWith_29 : decode cX5_timeWith 29 = .ok (.iaload, 1) := by decide +kernel
theorem dX5_timeWith_30 : decode cX5_timeWith 30 = .ok (.goto 23, 3) := by decide +kernel
theorem dX5_timeWith_33 : decode cX5_timeWith 33 = .ok (.iload 7, 2) := by decide +kernel
theorem dX5_timeWith_35 : decode cX5_timeWith 35 = .ok (.iload 4, 2) := by decide +kernel
theorem dX5_timeWith_37 : decode cX5_timeWith 37 = .ok (.if_icmp .ne 7, 3) := by decide +kernel
theorem dX5_timeWith_40 : decode cX5_timeWith 40 = .ok (.iload_n 3, 1) := by decide +kernel
theorem dX5_timeWith_41 : decode cX5_timeWith 41 = .ok (.goto 12, 3) := by decide +kernel
theorem dX5_timeWith_44 : decode cX5_timeWith 44 = .ok (.aload_n 0, 1) := by decide +kernel
theorem dX5_timeWith_45 : decode cX5_timeWith 45 = .ok (.getfield 71, 3) := by decide +kernel
theorem dX5_timeWith_48 : decode cX5_timeWith 48 = .ok (.iload 7, 2) := by decide +kernel
theorem dX5_timeWith_50 : decode cX5_timeWith 50 = .ok (.iconst 1, 1) := by decide +kernel
theorem dX5_timeWith_51 : decode cX5_timeWith 51 = .ok (.isub, 1) := by decide +kernel
theorem dX5_timeWith_52 : decode cX5_timeWith 52 = .ok (.iaload, 1) := by decide +kernel
theorem dX5_timeWith_53 : decode cX5_timeWith 53 = .ok (.istore 8, 2) := by decide +kernel
theorem dX5_timeWith_55 : decode cX5_timeWith 55 = .ok (.iload 5, 2) := by decide +kernel
theorem dX5_timeWith_57 : decode cX5_timeWith 57 = .ok (.aload_n 0, 1) := by decide +kernel
theorem dX5_timeWith_58 : decode cX5_timeWith 58 = .ok (.iload_n 1, 1) := by decide +kernel
theorem dX5_timeWith_59 : decode cX5_timeWith 59 = .ok (.iload 6, 2) := by decide +kernel
theorem dX5_timeWith_61 : decode cX5_timeWith 61 = .ok (.iload 8, 2) := by decide +kernel
theorem dX5_timeWith_63 : decode cX5_timeWith 63 = .ok (.invokevirtual 172, 3) := by decide +kernel
theorem dX5_timeWith_66 : decode cX5_timeWith 66 = .ok (.iadd, 1) := by decide +kernel
theorem dX5_timeWith_67 : decode cX5_timeWith 67 = .ok (.istore 5, 2) := by decide +kernel
theorem dX5_timeWith_69 : decode cX5_timeWith 69 = .ok (.iload 8, 2) := by decide +kernel
theorem dX5_timeWith_71 : decode cX5_timeWith 71 = .ok (.istore 6, 2) := by decide +kernel
theorem dX5_timeWith_73 : decode cX5_timeWith 73 = .ok (.iinc 7 1, 3) := by decide +kernel
theorem dX5_timeWith_76 : decode cX5_timeWith 76 = .ok (.goto (-66), 3) := by decide +kernel
theorem dX5_timeWith_79 : decode cX5_timeWith 79 = .ok (.iload 5, 2) := by decide +kernel
theorem dX5_timeWith_81 : decode cX5_timeWith 81 = .ok (.ireturn, 1) := by decide +kernel
set_option maxRecDepth 20000 in
theorem ggX5_insertedTime_X5_isDrive : GoodIn wsX5_insertedTime wsX5_isDrive := goodIn_r _ [7, 8, 9, 10, 6, 11, 72, 73, 74, 75, 76, 77, 78, 79, 80, 81, 82, 83, 84, 85, 86, 87, 88, 89, 90, 91, 92, 93, 94, 95, 96, 97] (by decide +kernel) (by decide +kernel)
set_option maxRecDepth 20000 in
theorem gX5_insertedTime_X5_isDrive : GoodIn wsX5_insertedTime (wsV RX5 92 RX5 yX5_isDrive wsX5_isDrive) := goodIn_app (goodIn_of _ (by decide +kernel)) ggX5_insertedTime_X5_isDrive
set_option maxRecDepth 20000 in
theorem ggX5_insertedTime_X5_hasTape : GoodIn wsX5_insertedTime wsX5_hasTape := goodIn_r _ [15, 16, 3, 4, 5, 6, 7, 8, 9, 10, 11, 72, 73, 74, 75, 76, 77, 78, 79, 80, 81, 82, 83, 84, 85, 86, 87, 88, 89, 90, 91, 92, 93, 94, 95, 96, 97] (by decide +kernel) (by decide +kernel)
set_option maxRecDepth 20000 in
theorem gX5_insertedTime_X5_hasTape : GoodIn wsX5_insertedTime (wsV RX5 124 RX5 yX5_hasTape wsX5_hasTape) := goodIn_app (goodIn_of _ (by decide +kernel)) ggX5_insertedTime_X5_hasTape
set_option maxRecDepth 20000 in
theorem ggX5_insertedTime_X5_mayBoth : GoodIn wsX5_insertedTime wsX5_mayBoth := goodIn_r _ [20, 21, 72, 73, 74, 75, 76, 77, 78, 79, 80, 81, 82, 83, 84, 85, 86, 87, 88, 89, 90, 91, 92, 93, 94, 95, 96, 97] (by decide +kernel) (by decide +kernel)
set_option maxRecDepth 20000 in
theorem gX5_insertedTime_X5_mayBoth : GoodIn wsX5_insertedTime (wsV RX5 95 RX5 yX5_mayBoth wsX5_mayBoth) := goodIn_app (goodIn_of _ (by decide +kernel)) ggX5_insertedTime_X5_mayBoth
set_option maxRecDepth 20000 in
theorem ggX5_insertedTime_X5_listJobs : GoodIn wsX5_insertedTime wsX5_listJobs := goodIn_r _ [25, 1, 26, 16, 27, 28, 29, 30, 6, 31, 32, 33, 72, 73, 74, 75, 76, 77, 78, 79, 80, 81, 82, 83, 84, 85, 86, 87, 88, 89, 90, 91, 92, 93, 94, 95, 96, 97] (by decide +kernel) (by decide +kernel)
set_option maxRecDepth 20000 in
theorem gX5_insertedTime_X5_listJobs : GoodIn wsX5_insertedTime (wsV RX5 167 RX5 yX5_listJobs wsX5_listJobs) := goodIn_app (goodIn_of _ (by decide +kernel)) ggX5_insertedTime_X5_listJobs
set_option maxRecDepth 20000 in
theorem ggX5_insertedTime_X5_timeWith : GoodIn wsX5_insertedTime wsX5_timeWith := goodIn_r _ [37, 2, 38, 39, 40, 6, 41, 42, 43, 44, 45, 46, 47, 33, 27, 48, 49, 50, 51, 52, 53, 54, 55, 56, 57, 16, 58, 59, 60, 61, 62, 63, 64, 65, 66, 67, 68, 69, 70, 71, 72, 73, 74, 75, 76, 77, 78, 79, 80, 81, 82, 83, 84, 85, 86, 87, 88, 89, 90, 91, 92, 93, 94, 95, 96, 97] (by decide +kernel) (by decide +kernel)
set_option maxRecDepth 20000 in
theorem gX5_insertedTime_X5_timeWith : GoodIn wsX5_insertedTime (wsV RX5 178 RX5 yX5_timeWith wsX5_timeWith) := goodIn_app (goodIn_of _ (by decide +kernel)) ggX5_insertedTime_X5_timeWith
theorem dX5_insertedTime_0 : decode cX5_insertedTime 0 = .ok (.aload_n 0, 1) := by decide +kernel
theorem dX5_insertedTime_1 : decode cX5_insertedTime 1 = .ok (.aload_n 0, 1) := by decide +kernel
theorem dX5_insertedTime_2 : decode cX5_insertedTime 2 = .ok (.iload_n 1, 1) := by decide +kernel
theorem dX5_insertedTime_3 : decode cX5_insertedTime 3 = .ok (.invokevirtual 92, 3) := by decide +kernel
theorem dX5_insertedTime_6 : decode cX5_insertedTime 6 = .ok (.aload_n 0, 1) := by decide +kernel
theorem dX5_insertedTime_7 : decode cX5_insertedTime 7 = .ok (.iload_n 1, 1) := by decide +kernel
theorem dX5_insertedTime_8 : decode cX5_insertedTime 8 = .ok (.invokevirtual 124, 3) := by decide +kernel
theorem dX5_insertedTime_11 : decode cX5_insertedTime 11 = .ok (.invokevirtual 95, 3) := by decide +kernel
theorem dX5_insertedTime_14 : decode cX5_insertedTime 14 = .ok (.ifCond .ne 5, 3) := by decide +kernel
theorem dX5_insertedTime_17 : decode cX5_insertedTime 17 = .ok (.iconst 0, 1) := by decide +kernel
theorem dX5_insertedTime_18 : decode cX5_insertedTime 18 = .ok (.ireturn, 1) := by decide +kernel
theorem dX5_insertedTime_19 : decode cX5_insertedTime 19 = .ok (.aload_n 0, 1) := by decide +kernel
theorem dX5_insertedTime_20 : decode cX5_insertedTime 20 = .ok (.iload_n 1, 1) := by decide +kernel
theorem dX5_insertedTime_21 : decode cX5_insertedTime 21 = .ok (.invokevirtual 167, 3) := by decide +kernel
theorem dX5_insertedTime_24 : decode cX5_insertedTime 24 = .ok (.iconst 0, 1) := by decide +kernel
theorem dX5_insertedTime_25 : decode cX5_insertedTime 25 = .ok (.istore_n 2, 1) := by decide +kernel
theorem dX5_insertedTime_26 : decode cX5_insertedTime 26 = .ok (.iconst 0, 1) := by decide +kernel
theorem dX5_insertedTime_27 : decode cX5_insertedTime 27 = .ok (.istore_n 3, 1) := by decide +kernel
theorem dX5_insertedTime_28 : decode cX5_insertedTime 28 = .ok (.iload_n 3, 1) := by decide +kernel
theorem dX5_insertedTime_29 : decode cX5_insertedTime 29 = .ok (.aload_n 0, 1) := by decide +kernel
theorem dX5_insertedTime_30 : decode cX5_insertedTime 30 = .ok (.getfield 164, 3) := by decide +kernel
theorem dX5_insertedTime_33 : decode cX5_insertedTime 33 = .ok (.if_icmp .ge 107, 3) := by decide +kernel
theorem dX5_insertedTime_36 : decode cX5_insertedTime 36 = .ok (.iconst 0, 1) := by decide +kernel
theorem dX5_insertedTime_37 : decode cX5_insertedTime 37 = .ok (.istore 4, 2) := by decide +kernel
theorem dX5_insertedTime_39 : decode cX5_insertedTime 39 = .ok (.iconst 1, 1) := by decide +kernel
theorem dX5_insertedTime_40 : decode cX5_insertedTime 40 = .ok (.istore 5, 2) := by decide +kernel
theorem dX5_insertedTime_42 : decode cX5_insertedTime 42 = .ok (.iload 5, 2) := by decide +kernel
theorem dX5_insertedTime_44 : decode cX5_insertedTime 44 = .ok (.iload_n 3, 1) := by decide +kernel
theorem dX5_insertedTime_45 : decode cX5_insertedTime 45 = .ok (.if_icmp .gt 39, 3) := by decide +kernel
theorem dX5_insertedTime_48 : decode cX5_insertedTime 48 = .ok (.aload_n 0, 1) := by decide +kernel
theorem dX5_insertedTime_49 : decode cX5_insertedTime 49 = .ok (.iload_n 1, 1) := by decide +kernel
theorem dX5_insertedTime_50 : decode cX5_insertedTime 50 = .ok (.iload_n 3, 1) := by decide +kernel
theorem dX5_insertedTime_51 : decode cX5_insertedTime 51 = .ok (.iload_n 3, 1) := by decide +kernel
theorem dX5_insertedTime_52 : decode cX5_insertedTime 52 = .ok (.iload 5, 2) := by decide +kernel
theorem dX5_insertedTime_54 : decode cX5_insertedTime 54 = .ok (.invokevirtual 178, 3) := by decide +kernel
theorem dX5_insertedTime_57 : decode cX5_insertedTime 57 = .ok (.aload_n 0, 1) := by decide +kernel
theorem dX5_insertedTime_58 : decode cX5_insertedTime 58 = .ok (.iload_n 1, 1) := by decide +kernel
theorem dX5_insertedTime_59 : decode cX5_insertedTime 59 = .ok (.iload_n 3, 1) := by decide +kernel
theorem dX5_insertedTime_60 : decode cX5_insertedTime 60 = .ok (.iload_n 3, 1) := by decide +kernel
theorem dX5_insertedTime_61 : decode cX5_insertedTime 61 = .ok (.iload 4, 2) := by decide +kernel
theorem dX5_insertedTime_63 : decode cX5_insertedTime 63 = .ok (.invokevirtual 178, 3) := by decide +kernel
theorem dX5_insertedTime_66 : decode cX5_insertedTime 66 = .ok (.if_icmp .ge 8, 3) := by decide +kernel
theorem dX5_insertedTime_69 : decode cX5_insertedTime 69 = .ok (.iload 5, 2) := by decide +kernel
theorem dX5_insertedTime_71 : decode cX5_insertedTime 71 = .ok (.goto 5, 3) := by decide +kernel
theorem dX5_insertedTime_74 : decode cX5_insertedTime 74 = .ok (.iload 4, 2) := by decide +kernel
theorem dX5_insertedTime_76 : decode cX5_insertedTime 76 = .ok (.istore 4, 2) := by decide +kernel
theorem dX5_insertedTime_78 : decode cX5_insertedTime 78 = .ok (.iinc 5 1, 3) := by decide +kernel
theorem dX5_insertedTime_81 : decode cX5_insertedTime 81 = .ok (.goto (-39), 3) := by decide +kernel
theorem dX5_insertedTime_84 : decode cX5_insertedTime 84 = .ok (.aload_n 0, 1) := by decide +kernel
theorem dX5_insertedTime_85 : decode cX5_insertedTime 85 = .ok (.iload_n 1, 1) := by decide +kernel
theorem dX5_insertedTime_86 : decode cX5_insertedTime 86 = .ok (.iload_n 3, 1) := by decide +kernel
theorem dX5_insertedTime_87 : decode cX5_insertedTime 87 = .ok (.iload_n 3, 1) := by decide +kernel
theorem dX5_insertedTime_88 : decode cX5_insertedTime 88 = .ok (.iload 4, 2) := by decide +kernel
theorem dX5_insertedTime_90 : decode cX5_insertedTime 90 = .ok (.invokevirtual 178, 3) := by decide +kernel
theorem dX5_insertedTime_93 : decode cX5_insertedTime 93 = .ok (.istore_n 2, 1) := by decide +kernel
theorem dX5_insertedTime_94 : decode cX5_insertedTime 94 = .ok (.iload_n 3, 1) := by decide +kernel
theorem dX5_insertedTime_95 : decode cX5_insertedTime 95 = .ok (.istore 5, 2) := by decide +kernel
theorem dX5_insertedTime_97 : decode cX5_insertedTime 97 = .ok (.iload 5, 2) := by decide +kernel
theorem dX5_insertedTime_99 : decode cX5_insertedTime 99 = .ok (.iload 4, 2) := by decide +kernel
theorem dX5_insertedTime_101 : decode cX5_insertedTime 101 = .ok (.if_icmp .le 25, 3) := by decide +kernel
theorem dX5_insertedTime_104 : decode cX5_insertedTime 104 = .ok (.aload_n 0, 1) := by decide +kernel
theorem dX5_insertedTime_105 : decode cX5_insertedTime 105 = .ok (.getfield 71, 3) := by decide +kernel
theorem dX5_insertedTime_108 : decode cX5_insertedTime 108 = .ok (.iload 5, 2) := by decide +kernel
theorem dX5_insertedTime_110 : decode cX5_insertedTime 110 = .ok (.aload_n 0, 1) := by decide +kernel
theorem dX5_insertedTime_111 : decode cX5_insertedTime 111 = .ok (.getfield 71, 3) := by decide +kernel
theorem dX5_insertedTime_114 : decode cX5_insertedTime 114 = .ok (.iload 5, 2) := by decide +kernel
theorem dX5_insertedTime_116 : decode cX5_insertedTime 116 = .ok (.iconst 1, 1) := by decide +kernel
theorem dX5_insertedTime_117 : decode cX5_insertedTime 117 = .ok (.isub, 1) := by decide +kernel
theorem dX5_insertedTime_118 : decode cX5_insertedTime 118 = .ok (.iaload, 1) := by decide +kernel
theorem dX5_insertedTime_119 : decode cX5_insertedTime 119 = .ok (.iastore, 1) := by decide +kernel
theorem dX5_insertedTime_120 : decode cX5_insertedTime 120 = .ok (.iinc 5 (-1), 3) := by decide +kernel
theorem dX5_insertedTime_123 : decode cX5_insertedTime 123 = .ok (.goto (-26), 3) := by decide +kernel
theorem dX5_insertedTime_126 : decode cX5_insertedTime 126 = .ok (.aload_n 0, 1) := by decide +kernel
theorem dX5_insertedTime_127 : decode cX5_insertedTime 127 = .ok (.getfield 71, 3) := by decide +kernel
theorem dX5_insertedTime_130 : decode cX5_insertedTime 130 = .ok (.iload 4, 2) := by decide +kernel
theorem dX5_insertedTime_132 : decode cX5_insertedTime 132 = .ok (.iload_n 3, 1) := by decide +kernel
theorem dX5_insertedTime_133 : decode cX5_insertedTime 133 = .ok (.iastore, 1) := by decide +kernel
theorem dX5_insertedTime_134 : decode cX5_insertedTime 134 = .ok (.iinc 3 1, 3) := by decide +kernel
theorem dX5_insertedTime_137 : decode cX5_insertedTime 137 = .ok (.goto (-109), 3) := by decide +kernel
theorem dX5_insertedTime_140 : decode cX5_insertedTime 140 = .ok (.iload_n 2, 1) := by decide +kernel
theorem dX5_insertedTime_141 : decode cX5_insertedTime 141 = .ok (.ireturn, 1) := by decide +kernel
set_option maxRecDepth 20000 in
theorem ggX5_triedTime_X5_bestTime : GoodIn wsX5_triedTime wsX5_bestTime := goodIn_r _ [5, 6, 7, 8, 4, 9, 10, 11, 12, 13, 14, 15, 16, 17, 18, 19, 20, 21, 22, 23, 24, 25, 26, 27, 28, 29, 30, 31, 32, 33, 34, 35, 36, 37, 38, 39, 40, 41, 42, 43, 44, 45, 46, 47, 48, 49, 50, 51, 52, 53, 54, 55, 56, 57, 58, 59, 60, 61, 62, 63, 64, 65, 66, 67, 68, 69, 70, 71, 72, 73, 74, 75, 76, 77, 78, 79, 80, 81, 82, 83, 84, 85, 86, 87, 88, 89, 90, 91, 92, 93, 94, 95, 96, 97, 98, 99, 100, 101, 102, 103] (by decide +kernel) (by decide +kernel)
set_option maxRecDepth 20000 in
theorem gX5_triedTime_X5_bestTime : GoodIn wsX5_triedTime (wsV RX5 182 RX5 yX5_bestTime wsX5_bestTime) := goodIn_app (goodIn_of _ (by decide +kernel)) ggX5_triedTime_X5_bestTime
theorem dX5_triedTime_0 : decode cX5_triedTime 0 = .ok (.aload_n 0, 1) := by decide +kernel
theorem dX5_triedTime_1 : decode cX5_triedTime 1 = .ok (.iload_n 1, 1) := by decide +kernel
theorem dX5_triedTime_2 : decode cX5_triedTime 2 = .ok (.invokevirtual 182, 3) := by decide +kernel
theorem dX5_triedTime_5 : decode cX5_triedTime 5 = .ok (.ireturn, 1) := by decide +kernel
set_option maxRecDepth 20000 in
theorem ggX5_work_X5_hasTape : GoodIn wsX5_work wsX5_hasTape := goodIn_r _ [11, 12, 13, 14, 15, 10, 16, 17, 18, 19, 20, 85, 86, 87, 88, 89, 90, 91, 92, 93, 94, 95, 96, 97, 98, 99, 100, 101, 102, 103, 104, 105, 106, 107, 108, 109, 110] (by decide +kernel) (by decide +kernel)
set_option maxRecDepth 20000 in
theorem gX5_work_X5_hasTape : GoodIn wsX5_work (wsV RX5 124 RX5 yX5_hasTape wsX5_hasTape) := goodIn_app (goodIn_of _ (by decide +kernel)) ggX5_work_X5_hasTape
set_option maxRecDepth 20000 in
theorem ggX5_work_X5_isDrive : GoodIn wsX5_work wsX5_isDrive := goodIn_r _ [16, 17, 18, 19, 10, 20, 85, 86, 87, 88, 89, 90, 91, 92, 93, 94, 95, 96, 97, 98, 99, 100, 101, 102, 103, 104, 105, 106, 107, 108, 109, 110] (by decide +kernel) (by decide +kernel)
set_option maxRecDepth 20000 in
theorem gX5_work_X5_isDrive : GoodIn wsX5_work (wsV RX5 92 RX5 yX5_isDrive wsX5_isDrive) := goodIn_app (goodIn_of _ (by decide +kernel)) ggX5_work_X5_isDrive
set_option maxRecDepth 20000 in
theorem ggX5_work_X5_isClean : GoodIn wsX5_work wsX5_isClean := goodIn_r _ [24, 25, 85, 86, 87, 88, 89, 90, 91, 92, 93, 94, 95, 96, 97, 98, 99, 100, 101, 102, 103, 104, 105, 106, 107, 108, 109, 110] (by decide +kernel) (by decide +kernel)
set_option maxRecDepth 20000 in
theorem gX5_work_X5_isClean : GoodIn wsX5_work (wsV RX5 131 RX5 yX5_isClean wsX5_isClean) := goodIn_app (goodIn_of _ (by decide +kernel)) ggX5_work_X5_isClean
set_option maxRecDepth 20000 in
theorem ggX5_work_X5_mayBoth : GoodIn wsX5_work wsX5_mayBoth := goodIn_r _ [29, 30, 85, 86, 87, 88, 89, 90, 91, 92, 93, 94, 95, 96, 97, 98, 99, 100, 101, 102, 103, 104, 105, 106, 107, 108, 109, 110] (by decide +kernel) (by decide +kernel)
set_option maxRecDepth 20000 in
theorem gX5_work_X5_mayBoth : GoodIn wsX5_work (wsV RX5 95 RX5 yX5_mayBoth wsX5_mayBoth) := goodIn_app (goodIn_of _ (by decide +kernel)) ggX5_work_X5_mayBoth
set_option maxRecDepth 20000 in
theorem ggX5_work_X5_arrange : GoodIn wsX5_work wsX5_arrange := goodIn_r _ [34, 1, 35, 36, 2, 37, 38, 39, 10, 40, 41, 12, 3, 42, 43, 44, 45, 4, 46, 47, 48, 49, 50, 51, 52, 53, 54, 55, 56, 57, 58, 59, 60, 61, 62, 63, 64, 65, 66, 67, 68, 69, 70, 71, 72, 73, 74, 75, 76, 77, 78, 79, 80, 85, 86, 87, 88, 89, 90, 91, 92, 93, 94, 95, 96, 97, 98, 99, 100, 101, 102, 103, 104, 105, 106, 107, 108, 109, 110] (by decide +kernel) (by decide +kernel)
set_option maxRecDepth 20000 in
theorem gX5_work_X5_arrange : GoodIn wsX5_work (wsV RX5 175 RX5 yX5_arrange wsX5_arrange) := goodIn_app (goodIn_of _ (by decide +kernel)) ggX5_work_X5_arrange
set_option maxRecDepth 20000 in
theorem ggX5_work_X5_startOf : GoodIn wsX5_work wsX5_startOf := goodIn_r _ [55, 56, 46, 3, 57, 85, 86, 87, 88, 89, 90, 91, 92, 93, 94, 95, 96, 97, 98, 99, 100, 101, 102, 103, 104, 105, 106, 107, 108, 109, 110] (by decide +kernel) (by decide +kernel)
set_option maxRecDepth 20000 in
theorem gX5_work_X5_startOf : GoodIn wsX5_work (wsV RX5 158 RX5 yX5_startOf wsX5_startOf) := goodIn_app (goodIn_of _ (by decide +kernel)) ggX5_work_X5_startOf
set_option maxRecDepth 20000 in
theorem ggX5_work_X5_blocksOf : GoodIn wsX5_work wsX5_blocksOf := goodIn_r _ [61, 62, 46, 3, 57, 85, 86, 87, 88, 89, 90, 91, 92, 93, 94, 95, 96, 97, 98, 99, 100, 101, 102, 103, 104, 105, 106, 107, 108, 109, 110] (by decide +kernel) (by decide +kernel)
set_option maxRecDepth 20000 in
theorem gX5_work_X5_blocksOf : GoodIn wsX5_work (wsV RX5 161 RX5 yX5_blocksOf wsX5_blocksOf) := goodIn_app (goodIn_of _ (by decide +kernel)) ggX5_work_X5_blocksOf
set_option maxRecDepth 20000 in
theorem ggX5_work_X5_run : GoodIn wsX5_work wsX5_run := goodIn_r _ [84, 51, 5, 25, 63, 64, 65, 10, 66, 12, 67, 68, 69, 70, 71, 72, 73, 74, 75, 76, 77, 78, 79, 80, 85, 86, 87, 88, 89, 90, 91, 92, 93, 94, 95, 96, 97, 98, 99, 100, 101, 102, 103, 104, 105, 106, 107, 108, 109, 110] (by decide +kernel) (by decide +kernel)
set_option maxRecDepth 20000 in
theorem gX5_work_X5_run : GoodIn wsX5_work (wsV RX5 141 RX5 yX5_run wsX5_run) := goodIn_app (goodIn_of _ (by decide +kernel)) ggX5_work_X5_run
theorem dX5_work_0 : decode cX5_work 0 = .ok (.aload_n 0, 1) := by decide +kernel
theorem dX5_work_1 : decode cX5_work 1 = .ok (.iload_n 1, 1) := by decide +kernel
theorem dX5_work_2 : decode cX5_work 2 = .ok (.invokevirtual 124, 3) := by decide +kernel
theorem dX5_work_5 : decode cX5_work 5 = .ok (.istore_n 2, 1) := by decide +kernel
theorem dX5_work_6 : decode cX5_work 6 = .ok (.aload_n 0, 1) := by decide +kernel
theorem dX5_work_7 : decode cX5_work 7 = .ok (.aload_n 0, 1) := by decide +kernel
theorem dX5_work_8 : decode cX5_work 8 = .ok (.iload_n 1, 1) := by decide +kernel
theorem dX5_work_9 : decode cX5_work 9 = .ok (.invokevirtual 92, 3) := by decide +kernel
theorem dX5_work_12 : decode cX5_work 12 = .ok (.iload_n 2, 1) := by decide +kernel
theorem dX5_work_13 : decode cX5_work 13 = .ok (.ifCond .eq 15, 3) := by decide +kernel
theorem dX5_work_16 : decode cX5_work 16 = .ok (.aload_n 0, 1) := by decide +kernel
theorem dX5_work_17 : decode cX5_work 17 = .ok (.iload_n 1, 1) := by decide +kernel
theorem dX5_work_18 : decode cX5_work 18 = .ok (.invokevirtual 131, 3) := by decide +kernel
theorem dX5_work_21 : decode cX5_work 21 = .ok (.ifCond .eq 7, 3) := by decide +kernel
theorem dX5_work_24 : decode cX5_work 24 = .ok (.iconst 1, 1) := by decide +kernel
theorem dX5_work_25 : decode cX5_work 25 = .ok (.goto 4, 3) := by decide +kernel
theorem dX5_work_28 : decode cX5_work 28 = .ok (.iconst 0, 1) := by decide +kernel
theorem dX5_work_29 : decode cX5_work 29 = .ok (.invokevirtual 95, 3) := by decide +kernel
theorem dX5_work_32 : decode cX5_work 32 = .ok (.ifCond .ne 5, 3) := by decide +kernel
theorem dX5_work_35 : decode cX5_work 35 = .ok (.iconst 0, 1) := by decide +kernel
theorem dX5_work_36 : decode cX5_work 36 = .ok (.ireturn, 1) := by decide +kernel
theorem dX5_work_37 : decode cX5_work 37 = .ok (.aload_n 0, 1) := by decide +kernel
theorem dX5_work_38 : decode cX5_work 38 = .ok (.iload_n 1, 1) := by decide +kernel
theorem dX5_work_39 : decode cX5_work 39 = .ok (.invokevirtual 175, 3) := by decide +kernel
theorem dX5_work_42 : decode cX5_work 42 = .ok (.pop, 1) := by decide +kernel
theorem dX5_work_43 : decode cX5_work 43 = .ok (.iconst 0, 1) := by decide +kernel
theorem dX5_work_44 : decode cX5_work 44 = .ok (.istore_n 3, 1) := by decide +kernel
theorem dX5_work_45 : decode cX5_work 45 = .ok (.iconst 0, 1) := by decide +kernel
theorem dX5_work_46 : decode cX5_work 46 = .ok (.istore 4, 2) := by decide +kernel
theorem dX5_work_48 : decode cX5_work 48 = .ok (.iload 4, 2) := by decide +kernel
theorem dX5_work_50 : decode cX5_work 50 = .ok (.aload_n 0, 1) := by decide +kernel
theorem dX5_work_51 : decode cX5_work 51 = .ok (.getfield 164, 3) := by decide +kernel
theorem dX5_work_54 : decode cX5_work 54 = .ok (.if_icmp .ge 85, 3) := by decide +kernel
theorem dX5_work_57 : decode cX5_work 57 = .ok (.aload_n 0, 1) := by decide +kernel
theorem dX5_work_58 : decode cX5_work 58 = .ok (.iload_n 1, 1) := by decide +kernel
theorem dX5_work_59 : decode cX5_work 59 = .ok (.invokevirtual 131, 3) := by decide +kernel
theorem dX5_work_62 : decode cX5_work 62 = .ok (.ifCond .eq 77, 3) := by decide +kernel
theorem dX5_work_65 : decode cX5_work 65 = .ok (.aload_n 0, 1) := by decide +kernel
theorem dX5_work_66 : decode cX5_work 66 = .ok (.getfield 65, 3) := by decide +kernel
theorem dX5_work_69 : decode cX5_work 69 = .ok (.iload 4, 2) := by decide +kernel
theorem dX5_work_71 : decode cX5_work 71 = .ok (.iaload, 1) := by decide +kernel
theorem dX5_work_72 : decode cX5_work 72 = .ok (.istore 5, 2) := by decide +kernel
theorem dX5_work_74 : decode cX5_work 74 = .ok (.aload_n 0, 1) := by decide +kernel
theorem dX5_work_75 : decode cX5_work 75 = .ok (.getfield 62, 3) := by decide +kernel
theorem dX5_work_78 : decode cX5_work 78 = .ok (.iload 5, 2) := by decide +kernel
theorem dX5_work_80 : decode cX5_work 80 = .ok (.iaload, 1) := by decide +kernel
theorem dX5_work_81 : decode cX5_work 81 = .ok (.istore 6, 2) := by decide +kernel
theorem dX5_work_83 : decode cX5_work 83 = .ok (.aload_n 0, 1) := by decide +kernel
theorem dX5_work_84 : decode cX5_work 84 = .ok (.iload_n 1, 1) := by decide +kernel
theorem dX5_work_85 : decode cX5_work 85 = .ok (.aload_n 0, 1) := by decide +kernel
theorem dX5_work_86 : decode cX5_work 86 = .ok (.iload 5, 2) := by decide +kernel
theorem dX5_work_88 : decode cX5_work 88 = .ok (.invokevirtual 158, 3) := by decide +kernel
theorem dX5_work_91 : decode cX5_work 91 = .ok (.aload_n 0, 1) := by decide +kernel
theorem dX5_work_92 : decode cX5_work 92 = .ok (.iload 5, 2) := by decide +kernel
theorem dX5_work_94 : decode cX5_work 94 = .ok (.invokevirtual 161, 3) := by decide +kernel
theorem dX5_work_97 : decode cX5_work 97 = .ok (.invokevirtual 141, 3) := by decide +kernel
theorem dX5_work_100 : decode cX5_work 100 = .ok (.pop, 1) := by decide +kernel
theorem dX5_work_101 : decode cX5_work 101 = .ok (.aload_n 0, 1) := by decide +kernel
theorem dX5_work_102 : decode cX5_work 102 = .ok (.getfield 59, 3) := by decide +kernel
theorem dX5_work_105 : decode cX5_work 105 = .ok (.iload 6, 2) := by decide +kernel
theorem dX5_work_107 : decode cX5_work 107 = .ok (.iconst 1, 1) := by decide +kernel
theorem dX5_work_108 : decode cX5_work 108 = .ok (.bastore, 1) := by decide +kernel
theorem dX5_work_109 : decode cX5_work 109 = .ok (.iload_n 3, 1) := by decide +kernel
theorem dX5_work_110 : decode cX5_work 110 = .ok (.aload_n 0, 1) := by decide +kernel
theorem dX5_work_111 : decode cX5_work 111 = .ok (.getfield 38, 3) := by decide +kernel
theorem dX5_work_114 : decode cX5_work 114 = .ok (.iload_n 1, 1) := by decide +kernel
theorem dX5_work_115 : decode cX5_work 115 = .ok (.iaload, 1) := by decide +kernel
theorem dX5_work_116 : decode cX5_work 116 = .ok (.aload_n 0, 1) := by decide +kernel
theorem dX5_work_117 : decode cX5_work 117 = .ok (.getfield 56, 3) := by decide +kernel
theorem dX5_work_120 : decode cX5_work 120 = .ok (.iload 6, 2) := by decide +kernel
theorem dX5_work_122 : decode cX5_work 122 = .ok (.iaload, 1) := by decide +kernel
theorem dX5_work_123 : decode cX5_work 123 = .ok (.if_icmp .le 7, 3) := by decide +kernel
theorem dX5_work_126 : decode cX5_work 126 = .ok (.iconst 1, 1) := by decide +kernel
theorem dX5_work_127 : decode cX5_work 127 = .ok (.goto 4, 3) := by decide +kernel
theorem dX5_work_130 : decode cX5_work 130 = .ok (.iconst 0, 1) := by decide +kernel
theorem dX5_work_131 : decode cX5_work 131 = .ok (.iadd, 1) := by decide +kernel
theorem dX5_work_132 : decode cX5_work 132 = .ok (.istore_n 3, 1) := by decide +kernel
theorem dX5_work_133 : decode cX5_work 133 = .ok (.iinc 4 1, 3) := by decide +kernel
theorem dX5_work_136 : decode cX5_work 136 = .ok (.goto (-88), 3) := by decide +kernel
theorem dX5_work_139 : decode cX5_work 139 = .ok (.iload_n 3, 1) := by decide +kernel
theorem dX5_work_140 : decode cX5_work 140 = .ok (.ireturn, 1) := by decide +kernel
theorem dX5_done_0 : decode cX5_done 0 = .ok (.aload_n 0, 1) := by decide +kernel
theorem dX5_done_1 : decode cX5_done 1 = .ok (.iconst 0, 1) := by decide +kernel
theorem dX5_done_2 : decode cX5_done 2 = .ok (.putfield 74, 3) := by decide +kernel
theorem dX5_done_5 : decode cX5_done 5 = .ok (.iconst 0, 1) := by decide +kernel
theorem dX5_done_6 : decode cX5_done 6 = .ok (.istore_n 1, 1) := by decide +kernel
theorem dX5_done_7 : decode cX5_done 7 = .ok (.iconst 0, 1) := by decide +kernel
theorem dX5_done_8 : decode cX5_done 8 = .ok (.istore_n 2, 1) := by decide +kernel
theorem dX5_done_9 : decode cX5_done 9 = .ok (.iload_n 2, 1) := by decide +kernel
theorem dX5_done_10 : decode cX5_done 10 = .ok (.aload_n 0, 1) := by decide +kernel
theorem dX5_done_11 : decode cX5_done 11 = .ok (.getfield 144, 3) := by decide +kernel
theorem dX5_done_14 : decode cX5_done 14 = .ok (.if_icmp .ge 26, 3) := by decide +kernel
theorem dX5_done_17 : decode cX5_done 17 = .ok (.iload_n 1, 1) := by decide +kernel
theorem dX5_done_18 : decode cX5_done 18 = .ok (.aload_n 0, 1) := by decide +kernel
theorem dX5_done_19 : decode cX5_done 19 = .ok (.getfield 59, 3) := by decide +kernel
theorem dX5_done_22 : decode cX5_done 22 = .ok (.iload_n 2, 1) := by decide +kernel
theorem dX5_done_23 : decode cX5_done 23 = .ok (.baload, 1) := by decide +kernel
theorem dX5_done_24 : decode cX5_done 24 = .ok (.ifCond .eq 7, 3) := by decide +kernel
theorem dX5_done_27 : decode cX5_done 27 = .ok (.iconst 1, 1) := by decide +kernel
theorem dX5_done_28 : decode cX5_done 28 = .ok (.goto 4, 3) := by decide +kernel
theorem dX5_done_31 : decode cX5_done 31 = .ok (.iconst 0, 1) := by decide +kernel
theorem dX5_done_32 : decode cX5_done 32 = .ok (.iadd, 1) := by decide +kernel
theorem dX5_done_33 : decode cX5_done 33 = .ok (.istore_n 1, 1) := by decide +kernel
theorem dX5_done_34 : decode cX5_done 34 = .ok (.iinc 2 1, 3) := by decide +kernel
theorem dX5_done_37 : decode cX5_done 37 = .ok (.goto (-28), 3) := by decide +kernel
theorem dX5_done_40 : decode cX5_done 40 = .ok (.iload_n 1, 1) := by decide +kernel
theorem dX5_done_41 : decode cX5_done 41 = .ok (.ireturn, 1) := by decide +kernel
theorem dX5_unlabelled_0 : decode cX5_unlabelled 0 = .ok (.iconst 0, 1) := by decide +kernel
theorem dX5_unlabelled_1 : decode cX5_unlabelled 1 = .ok (.istore_n 1, 1) := by decide +kernel
theorem dX5_unlabelled_2 : decode cX5_unlabelled 2 = .ok (.iconst 0, 1) := by decide +kernel
theorem dX5_unlabelled_3 : decode cX5_unlabelled 3 = .ok (.istore_n 2, 1) := by decide +kernel
theorem dX5_unlabelled_4 : decode cX5_unlabelled 4 = .ok (.iload_n 2, 1) := by decide +kernel
theorem dX5_unlabelled_5 : decode cX5_unlabelled 5 = .ok (.aload_n 0, 1) := by decide +kernel
theorem dX5_unlabelled_6 : decode cX5_unlabelled 6 = .ok (.getfield 78, 3) := by decide +kernel
theorem dX5_unlabelled_9 : decode cX5_unlabelled 9 = .ok (.if_icmp .ge 26, 3) := by decide +kernel
theorem dX5_unlabelled_12 : decode cX5_unlabelled 12 = .ok (.iload_n 1, 1) := by decide +kernel
theorem dX5_unlabelled_13 : decode cX5_unlabelled 13 = .ok (.aload_n 0, 1) := by decide +kernel
theorem dX5_unlabelled_14 : decode cX5_unlabelled 14 = .ok (.getfield 22, 3) := by decide +kernel
theorem dX5_unlabelled_17 : decode cX5_unlabelled 17 = .ok (.iload_n 2, 1) := by decide +kernel
theorem dX5_unlabelled_18 : decode cX5_unlabelled 18 = .ok (.baload, 1) := by decide +kernel
theorem dX5_unlabelled_19 : decode cX5_unlabelled 19 = .ok (.ifCond .eq 7, 3) := by decide +kernel
theorem dX5_unlabelled_22 : decode cX5_unlabelled 22 = .ok (.iconst 1, 1) := by decide +kernel
theorem dX5_unlabelled_23 : decode cX5_unlabelled 23 = .ok (.goto 4, 3) := by decide +kernel
theorem dX5_unlabelled_26 : decode cX5_unlabelled 26 = .ok (.iconst 0, 1) := by decide +kernel
theorem dX5_unlabelled_27 : decode cX5_unlabelled 27 = .ok (.iadd, 1) := by decide +kernel
theorem dX5_unlabelled_28 : decode cX5_unlabelled 28 = .ok (.istore_n 1, 1) := by decide +kernel
theorem dX5_unlabelled_29 : decode cX5_unlabelled 29 = .ok (.iinc 2 1, 3) := by decide +kernel
theorem dX5_unlabelled_32 : decode cX5_unlabelled 32 = .ok (.goto (-28), 3) := by decide +kernel
theorem dX5_unlabelled_35 : decode cX5_unlabelled 35 = .ok (.iload_n 1, 1) := by decide +kernel
theorem dX5_unlabelled_36 : decode cX5_unlabelled 36 = .ok (.ireturn, 1) := by decide +kernel
set_option maxRecDepth 20000 in
theorem ggX5_lose_X5_isTape : GoodIn wsX5_lose wsX5_isTape := goodIn_r _ [7, 8, 9, 10, 6, 11, 21, 22, 23, 24, 25, 26, 27, 28, 29, 30, 31, 32, 33, 34, 35, 36, 37, 38, 39, 40, 41, 42, 43, 44, 45, 46] (by decide +kernel) (by decide +kernel)
set_option maxRecDepth 20000 in
theorem gX5_lose_X5_isTape : GoodIn wsX5_lose (wsV RX5 88 RX5 yX5_isTape wsX5_isTape) := goodIn_app (goodIn_of _ (by decide +kernel)) ggX5_lose_X5_isTape
set_option maxRecDepth 20000 in
theorem ggX5_lose_X5_mayBoth : GoodIn wsX5_lose wsX5_mayBoth := goodIn_r _ [15, 16, 21, 22, 23, 24, 25, 26, 27, 28, 29, 30, 31, 32, 33, 34, 35, 36, 37, 38, 39, 40, 41, 42, 43, 44, 45, 46] (by decide +kernel) (by decide +kernel)
set_option maxRecDepth 20000 in
theorem gX5_lose_X5_mayBoth : GoodIn wsX5_lose (wsV RX5 95 RX5 yX5_mayBoth wsX5_mayBoth) := goodIn_app (goodIn_of _ (by decide +kernel)) ggX5_lose_X5_mayBoth
set_option maxRecDepth 20000 in
theorem ggX5_lose_X5_unlabelled : GoodIn wsX5_lose wsX5_unlabelled := goodIn_r _ [20, 8, 2, 21, 22, 23, 24, 25, 26, 27, 28, 29, 30, 31, 32, 33, 34, 35, 36, 37, 38, 39, 40, 41, 42, 43, 44, 45, 46] (by decide +kernel) (by decide +kernel)
set_option maxRecDepth 20000 in
theorem gX5_lose_X5_unlabelled : GoodIn wsX5_lose (wsV RX5 185 RX5 yX5_unlabelled wsX5_unlabelled) := goodIn_app (goodIn_of _ (by decide +kernel)) ggX5_lose_X5_unlabelled
theorem dX5_lose_0 : decode cX5_lose 0 = .ok (.aload_n 0, 1) := by decide +kernel
theorem dX5_lose_1 : decode cX5_lose 1 = .ok (.iload_n 1, 1) := by decide +kernel
theorem dX5_lose_2 : decode cX5_lose 2 = .ok (.invokevirtual 88, 3) := by decide +kernel
theorem dX5_lose_5 : decode cX5_lose 5 = .ok (.istore_n 2, 1) := by decide +kernel
theorem dX5_lose_6 : decode cX5_lose 6 = .ok (.aload_n 0, 1) := by decide +kernel
theorem dX5_lose_7 : decode cX5_lose 7 = .ok (.iload_n 2, 1) := by decide +kernel
theorem dX5_lose_8 : decode cX5_lose 8 = .ok (.iload_n 2, 1) := by decide +kernel
theorem dX5_lose_9 : decode cX5_lose 9 = .ok (.ifCond .eq 26, 3) := by decide +kernel
theorem dX5_lose_12 : decode cX5_lose 12 = .ok (.aload_n 0, 1) := by decide +kernel
theorem dX5_lose_13 : decode cX5_lose 13 = .ok (.getfield 19, 3) := by decide +kernel
theorem dX5_lose_16 : decode cX5_lose 16 = .ok (.iload_n 1, 1) := by decide +kernel
theorem dX5_lose_17 : decode cX5_lose 17 = .ok (.iaload, 1) := by decide +kernel
theorem dX5_lose_18 : decode cX5_lose 18 = .ok (.iconst (-1), 1) := by decide +kernel
theorem dX5_lose_19 : decode cX5_lose 19 = .ok (.if_icmp .ne 16, 3) := by decide +kernel
theorem dX5_lose_22 : decode cX5_lose 22 = .ok (.aload_n 0, 1) := by decide +kernel
theorem dX5_lose_23 : decode cX5_lose 23 = .ok (.getfield 22, 3) := by decide +kernel
theorem dX5_lose_26 : decode cX5_lose 26 = .ok (.iload_n 1, 1) := by decide +kernel
theorem dX5_lose_27 : decode cX5_lose 27 = .ok (.baload, 1) := by decide +kernel
theorem dX5_lose_28 : decode cX5_lose 28 = .ok (.ifCond .ne 7, 3) := by decide +kernel
theorem dX5_lose_31 : decode cX5_lose 31 = .ok (.iconst 1, 1) := by decide +kernel
theorem dX5_lose_32 : decode cX5_lose 32 = .ok (.goto 4, 3) := by decide +kernel
theorem dX5_lose_35 : decode cX5_lose 35 = .ok (.iconst 0, 1) := by decide +kernel
theorem dX5_lose_36 : decode cX5_lose 36 = .ok (.invokevirtual 95, 3) := by decide +kernel
theorem dX5_lose_39 : decode cX5_lose 39 = .ok (.ifCond .ne 5, 3) := by decide +kernel
theorem dX5_lose_42 : decode cX5_lose 42 = .ok (.iconst 0, 1) := by decide +kernel
theorem dX5_lose_43 : decode cX5_lose 43 = .ok (.ireturn, 1) := by decide +kernel
theorem dX5_lose_44 : decode cX5_lose 44 = .ok (.aload_n 0, 1) := by decide +kernel
theorem dX5_lose_45 : decode cX5_lose 45 = .ok (.getfield 22, 3) := by decide +kernel
theorem dX5_lose_48 : decode cX5_lose 48 = .ok (.iload_n 1, 1) := by decide +kernel
theorem dX5_lose_49 : decode cX5_lose 49 = .ok (.iconst 1, 1) := by decide +kernel
theorem dX5_lose_50 : decode cX5_lose 50 = .ok (.bastore, 1) := by decide +kernel
theorem dX5_lose_51 : decode cX5_lose 51 = .ok (.aload_n 0, 1) := by decide +kernel
theorem dX5_lose_52 : decode cX5_lose 52 = .ok (.invokevirtual 185, 3) := by decide +kernel
theorem dX5_lose_55 : decode cX5_lose 55 = .ok (.ireturn, 1) := by decide +kernel
set_option maxRecDepth 20000 in
theorem ggX5_inventory_X5_unlabelled : GoodIn wsX5_inventory wsX5_unlabelled := goodIn_r _ [10, 2, 5, 11, 12, 13, 14, 15, 16, 17, 18, 19, 20, 21, 22, 23, 24, 25, 26, 27, 28, 29, 30, 31, 32, 33, 34, 35, 36] (by decide +kernel) (by decide +kernel)
set_option maxRecDepth 20000 in
theorem gX5_inventory_X5_unlabelled : GoodIn wsX5_inventory (wsV RX5 185 RX5 yX5_unlabelled wsX5_unlabelled) := goodIn_app (goodIn_of _ (by decide +kernel)) ggX5_inventory_X5_unlabelled
theorem dX5_inventory_0 : decode cX5_inventory 0 = .ok (.aload_n 0, 1) := by decide +kernel
theorem dX5_inventory_1 : decode cX5_inventory 1 = .ok (.iconst 0, 1) := by decide +kernel
theorem dX5_inventory_2 : decode cX5_inventory 2 = .ok (.putfield 74, 3) := by decide +kernel
theorem dX5_inventory_5 : decode cX5_inventory 5 = .ok (.iconst 0, 1) := by decide +kernel
theorem dX5_inventory_6 : decode cX5_inventory 6 = .ok (.istore_n 1, 1) := by decide +kernel
theorem dX5_inventory_7 : decode cX5_inventory 7 = .ok (.iconst 0, 1) := by decide +kernel
theorem dX5_inventory_8 : decode cX5_inventory 8 = .ok (.istore_n 2, 1) := by decide +kernel
theorem dX5_inventory_9 : decode cX5_inventory 9 = .ok (.iload_n 2, 1) := by decide +kernel
theorem dX5_inventory_10 : decode cX5_inventory 10 = .ok (.aload_n 0, 1) := by decide +kernel
theorem dX5_inventory_11 : decode cX5_inventory 11 = .ok (.getfield 78, 3) := by decide +kernel
theorem dX5_inventory_14 : decode cX5_inventory 14 = .ok (.if_icmp .ge 40, 3) := by decide +kernel
theorem dX5_inventory_17 : decode cX5_inventory 17 = .ok (.aload_n 0, 1) := by decide +kernel
theorem dX5_inventory_18 : decode cX5_inventory 18 = .ok (.getfield 19, 3) := by decide +kernel
theorem dX5_inventory_21 : decode cX5_inventory 21 = .ok (.iload_n 2, 1) := by decide +kernel
theorem dX5_inventory_22 : decode cX5_inventory 22 = .ok (.iaload, 1) := by decide +kernel
theorem dX5_inventory_23 : decode cX5_inventory 23 = .ok (.iconst (-1), 1) := by decide +kernel
theorem dX5_inventory_24 : decode cX5_inventory 24 = .ok (.if_icmp .ne 22, 3) := by decide +kernel
theorem dX5_inventory_27 : decode cX5_inventory 27 = .ok (.aload_n 0, 1) := by decide +kernel
theorem dX5_inventory_28 : decode cX5_inventory 28 = .ok (.getfield 16, 3) := by decide +kernel
theorem dX5_inventory_31 : decode cX5_inventory 31 = .ok (.iload_n 2, 1) := by decide +kernel
theorem dX5_inventory_32 : decode cX5_inventory 32 = .ok (.iaload, 1) := by decide +kernel
theorem dX5_inventory_33 : decode cX5_inventory 33 = .ok (.iload_n 1, 1) := by decide +kernel
theorem dX5_inventory_34 : decode cX5_inventory 34 = .ok (.if_icmp .le 12, 3) := by decide +kernel
theorem dX5_inventory_37 : decode cX5_inventory 37 = .ok (.aload_n 0, 1) := by decide +kernel
theorem dX5_inventory_38 : decode cX5_inventory 38 = .ok (.getfield 16, 3) := by decide +kernel
theorem dX5_inventory_41 : decode cX5_inventory 41 = .ok (.iload_n 2, 1) := by decide +kernel
theorem dX5_inventory_42 : decode cX5_inventory 42 = .ok (.iaload, 1) := by decide +kernel
theorem dX5_inventory_43 : decode cX5_inventory 43 = .ok (.goto 4, 3) := by decide +kernel
theorem dX5_inventory_46 : decode cX5_inventory 46 = .ok (.iload_n 1, 1) := by decide +kernel
theorem dX5_inventory_47 : decode cX5_inventory 47 = .ok (.istore_n 1, 1) := by decide +kernel
theorem dX5_inventory_48 : decode cX5_inventory 48 = .ok (.iinc 2 1, 3) := by decide +kernel
theorem dX5_inventory_51 : decode cX5_inventory 51 = .ok (.goto (-42), 3) := by decide +kernel
theorem dX5_inventory_54 : decode cX5_inventory 54 = .ok (.iconst 2, 1) := by decide +kernel
theorem dX5_inventory_55 : decode cX5_inventory 55 = .ok (.iload_n 1, 1) := by decide +kernel
theorem dX5_inventory_56 : decode cX5_inventory 56 = .ok (.imul, 1) := by decide +kernel
theorem dX5_inventory_57 : decode cX5_inventory 57 = .ok (.iconst 5, 1) := by decide +kernel
theorem dX5_inventory_58 : decode cX5_inventory 58 = .ok (.aload_n 0, 1) := by decide +kernel
theorem dX5_inventory_59 : decode cX5_inventory 59 = .ok (.invokevirtual 185, 3) := by decide +kernel
theorem dX5_inventory_62 : decode cX5_inventory 62 = .ok (.imul, 1) := by decide +kernel
theorem dX5_inventory_63 : decode cX5_inventory 63 = .ok (.iadd, 1) := by decide +kernel
theorem dX5_inventory_64 : decode cX5_inventory 64 = .ok (.istore_n 2, 1) := by decide +kernel
theorem dX5_inventory_65 : decode cX5_inventory 65 = .ok (.iconst 0, 1) := by decide +kernel
theorem dX5_inventory_66 : decode cX5_inventory 66 = .ok (.istore_n 3, 1) := by decide +kernel
theorem dX5_inventory_67 : decode cX5_inventory 67 = .ok (.iload_n 3, 1) := by decide +kernel
theorem dX5_inventory_68 : decode cX5_inventory 68 = .ok (.aload_n 0, 1) := by decide +kernel
theorem dX5_inventory_69 : decode cX5_inventory 69 = .ok (.getfield 78, 3) := by decide +kernel
theorem dX5_inventory_72 : decode cX5_inventory 72 = .ok (.if_icmp .ge 16, 3) := by decide +kernel
theorem dX5_inventory_75 : decode cX5_inventory 75 = .ok (.aload_n 0, 1) := by decide +kernel
theorem dX5_inventory_76 : decode cX5_inventory 76 = .ok (.getfield 22, 3) := by decide +kernel
theorem dX5_inventory_79 : decode cX5_inventory 79 = .ok (.iload_n 3, 1) := by decide +kernel
theorem dX5_inventory_80 : decode cX5_inventory 80 = .ok (.iconst 0, 1) := by decide +kernel
theorem dX5_inventory_81 : decode cX5_inventory 81 = .ok (.bastore, 1) := by decide +kernel
theorem dX5_inventory_82 : decode cX5_inventory 82 = .ok (.iinc 3 1, 3) := by decide +kernel
theorem dX5_inventory_85 : decode cX5_inventory 85 = .ok (.goto (-18), 3) := by decide +kernel
theorem dX5_inventory_88 : decode cX5_inventory 88 = .ok (.iload_n 2, 1) := by decide +kernel
theorem dX5_inventory_89 : decode cX5_inventory 89 = .ok (.ireturn, 1) := by decide +kernel
theorem dJ9_abs_0f7a4_0 : decode cJ9_abs_0f7a4 0 = .ok (.iload_n 0, 1) := by decide +kernel
theorem dJ9_abs_0f7a4_1 : decode cJ9_abs_0f7a4 1 = .ok (.ifCond .ge 8, 3) := by decide +kernel
theorem dJ9_abs_0f7a4_4 : decode cJ9_abs_0f7a4 4 = .ok (.iload_n 0, 1) := by decide +kernel
theorem dJ9_abs_0f7a4_5 : decode cJ9_abs_0f7a4 5 = .ok (.ineg, 1) := by decide +kernel
theorem dJ9_abs_0f7a4_6 : decode cJ9_abs_0f7a4 6 = .ok (.goto 4, 3) := by decide +kernel
theorem dJ9_abs_0f7a4_9 : decode cJ9_abs_0f7a4 9 = .ok (.iload_n 0, 1) := by decide +kernel
theorem dJ9_abs_0f7a4_10 : decode cJ9_abs_0f7a4 10 = .ok (.ireturn, 1) := by decide +kernel
theorem dJ9_max_7cf53_0 : decode cJ9_max_7cf53 0 = .ok (.iload_n 0, 1) := by decide +kernel
theorem dJ9_max_7cf53_1 : decode cJ9_max_7cf53 1 = .ok (.iload_n 1, 1) := by decide +kernel
theorem dJ9_max_7cf53_2 : decode cJ9_max_7cf53 2 = .ok (.if_icmp .lt 7, 3) := by decide +kernel
theorem dJ9_max_7cf53_5 : decode cJ9_max_7cf53 5 = .ok (.iload_n 0, 1) := by decide +kernel
theorem dJ9_max_7cf53_6 : decode cJ9_max_7cf53 6 = .ok (.goto 4, 3) := by decide +kernel
theorem dJ9_max_7cf53_9 : decode cJ9_max_7cf53 9 = .ok (.iload_n 1, 1) := by decide +kernel
theorem dJ9_max_7cf53_10 : decode cJ9_max_7cf53 10 = .ok (.ireturn, 1) := by decide +kernel
theorem dJ9_min_7cf53_0 : decode cJ9_min_7cf53 0 = .ok (.iload_n 0, 1) := by decide +kernel
theorem dJ9_min_7cf53_1 : decode cJ9_min_7cf53 1 = .ok (.iload_n 1, 1) := by decide +kernel
theorem dJ9_min_7cf53_2 : decode cJ9_min_7cf53 2 = .ok (.if_icmp .gt 7, 3) := by decide +kernel
theorem dJ9_min_7cf53_5 : decode cJ9_min_7cf53 5 = .ok (.iload_n 0, 1) := by decide +kernel
theorem dJ9_min_7cf53_6 : decode cJ9_min_7cf53 6 = .ok (.goto 4, 3) := by decide +kernel
theorem dJ9_min_7cf53_9 : decode cJ9_min_7cf53 9 = .ok (.iload_n 1, 1) := by decide +kernel
theorem dJ9_min_7cf53_10 : decode cJ9_min_7cf53 10 = .ok (.ireturn, 1) := by decide +kernel
set_option maxRecDepth 20000 in
theorem ggL_tape_X4_tape : GoodIn wsL_tape wsX4_tape := goodIn_ca (goodIn_ca (goodIn_r _ [7, 8, 9, 10, 11, 12, 13, 14, 15, 16, 17, 18, 19, 6, 20, 21, 22, 23, 24, 25, 26, 27, 28, 29, 30, 31, 32, 33, 34, 35, 36, 37, 38, 39, 40, 41, 42, 43, 44, 45, 46, 47, 48, 49, 50, 51, 52] (by decide +kernel) (by decide +kernel)) (goodIn_sub (fun _ h => List.mem_cons_of_mem _ (List.mem_append_left _ (List.mem_append_right _ h))) (by decide +kernel))) (goodIn_sub (fun _ h => List.mem_cons_of_mem _ (List.mem_append_right _ h)) (by decide +kernel))
set_option maxRecDepth 20000 in
theorem gL_tape_X4_tape : GoodIn wsL_tape (wsV RL 7 RX4 yX4_tape wsX4_tape) := goodIn_app (goodIn_of _ (by decide +kernel)) ggL_tape_X4_tape
