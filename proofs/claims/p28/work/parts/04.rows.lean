theorem dX0_init_1 : decode cX0_init 1 = .ok (.invokespecial 3, 3) := by decide +kernel
theorem dX0_init_4 : decode cX0_init 4 = .ok (.aload_n 0, 1) := by decide +kernel
theorem dX0_init_5 : decode cX0_init 5 = .ok (.aconst_null, 1) := by decide +kernel
theorem dX0_init_6 : decode cX0_init 6 = .ok (.putfield 9, 3) := by decide +kernel
theorem dX0_init_9 : decode cX0_init 9 = .ok (.aload_n 0, 1) := by decide +kernel
theorem dX0_init_10 : decode cX0_init 10 = .ok (.iconst (-1), 1) := by decide +kernel
theorem dX0_init_11 : decode cX0_init 11 = .ok (.putfield 15, 3) := by decide +kernel
theorem dX0_init_14 : decode cX0_init 14 = .ok (.aload_n 0, 1) := by decide +kernel
theorem dX0_init_15 : decode cX0_init 15 = .ok (.iconst 0, 1) := by decide +kernel
theorem dX0_init_16 : decode cX0_init 16 = .ok (.putfield 19, 3) := by decide +kernel
theorem dX0_init_19 : decode cX0_init 19 = .ok (.aload_n 0, 1) := by decide +kernel
theorem dX0_init_20 : decode cX0_init 20 = .ok (.iconst 0, 1) := by decide +kernel
theorem dX0_init_21 : decode cX0_init 21 = .ok (.putfield 22, 3) := by decide +kernel
theorem dX0_init_24 : decode cX0_init 24 = .ok (.aload_n 0, 1) := by decide +kernel
theorem dX0_init_25 : decode cX0_init 25 = .ok (.iload_n 1, 1) := by decide +kernel
theorem dX0_init_26 : decode cX0_init 26 = .ok (.putfield 25, 3) := by decide +kernel
theorem dX0_init_29 : decode cX0_init 29 = .ok (.aload_n 0, 1) := by decide +kernel
theorem dX0_init_30 : decode cX0_init 30 = .ok (.iload_n 2, 1) := by decide +kernel
theorem dX0_init_31 : decode cX0_init 31 = .ok (.putfield 28, 3) := by decide +kernel
theorem dX0_init_34 : decode cX0_init 34 = .ok (.aload_n 0, 1) := by decide +kernel
theorem dX0_init_35 : decode cX0_init 35 = .ok (.iload_n 3, 1) := by decide +kernel
theorem dX0_init_36 : decode cX0_init 36 = .ok (.putfield 31, 3) := by decide +kernel
theorem dX0_init_39 : decode cX0_init 39 = .ok (.return_, 1) := by decide +kernel
theorem dX0_wantsCleaning_0 : decode cX0_wantsCleaning 0 = .ok (.aload_n 0, 1) := by decide +kernel
theorem dX0_wantsCleaning_1 : decode cX0_wantsCleaning 1 = .ok (.getfield 22, 3) := by decide +kernel
theorem dX0_wantsCleaning_4 : decode cX0_wantsCleaning 4 = .ok (.bipush 12, 2) := by decide +kernel
theorem dX0_wantsCleaning_6 : decode cX0_wantsCleaning 6 = .ok (.if_icmp .lt 7, 3) := by decide +kernel
theorem dX0_wantsCleaning_9 : decode cX0_wantsCleaning 9 = .ok (.iconst 1, 1) := by decide +kernel
theorem dX0_wantsCleaning_10 : decode cX0_wantsCleaning 10 = .ok (.goto 4, 3) := by decide +kernel
theorem dX0_wantsCleaning_13 : decode cX0_wantsCleaning 13 = .ok (.iconst 0, 1) := by decide +kernel
theorem dX0_wantsCleaning_14 : decode cX0_wantsCleaning 14 = .ok (.ireturn, 1) := by decide +kernel
theorem dX0_spend_0 : decode cX0_spend 0 = .ok (.aload_n 0, 1) := by decide +kernel
theorem dX0_spend_1 : decode cX0_spend 1 = .ok (.dup, 1) := by decide +kernel
theorem dX0_spend_2 : decode cX0_spend 2 = .ok (.getfield 19, 3) := by decide +kernel
theorem dX0_spend_5 : decode cX0_spend 5 = .ok (.iload_n 1, 1) := by decide +kernel
theorem dX0_spend_6 : decode cX0_spend 6 = .ok (.iadd, 1) := by decide +kernel
theorem dX0_spend_7 : decode cX0_spend 7 = .ok (.putfield 19, 3) := by decide +kernel
theorem dX0_spend_10 : decode cX0_spend 10 = .ok (.iload_n 1, 1) := by decide +kernel
theorem dX0_spend_11 : decode cX0_spend 11 = .ok (.ireturn, 1) := by decide +kernel
theorem dX0_robotTime_0 : decode cX0_robotTime 0 = .ok (.iconst 4, 1) := by decide +kernel
theorem dX0_robotTime_1 : decode cX0_robotTime 1 = .ok (.aload_n 0, 1) := by decide +kernel
theorem dX0_robotTime_2 : decode cX0_robotTime 2 = .ok (.getfield 25, 3) := by decide +kernel
theorem dX0_robotTime_5 : decode cX0_robotTime 5 = .ok (.imul, 1) := by decide +kernel
theorem dX0_robotTime_6 : decode cX0_robotTime 6 = .ok (.istore_n 2, 1) := by decide +kernel
theorem dX0_robotTime_7 : decode cX0_robotTime 7 = .ok (.bipush 20, 2) := by decide +kernel
theorem dX0_robotTime_9 : decode cX0_robotTime 9 = .ok (.iconst 2, 1) := by decide +kernel
theorem dX0_robotTime_10 : decode cX0_robotTime 10 = .ok (.iload_n 2, 1) := by decide +kernel
theorem dX0_robotTime_11 : decode cX0_robotTime 11 = .ok (.iload_n 1, 1) := by decide +kernel
theorem dX0_robotTime_12 : decode cX0_robotTime 12 = .ok (.isub, 1) := by decide +kernel
theorem dX0_robotTime_13 : decode cX0_robotTime 13 = .ok (.invokestatic 34, 3) := by decide +kernel
theorem dX0_robotTime_16 : decode cX0_robotTime 16 = .ok (.imul, 1) := by decide +kernel
theorem dX0_robotTime_17 : decode cX0_robotTime 17 = .ok (.iadd, 1) := by decide +kernel
theorem dX0_robotTime_18 : decode cX0_robotTime 18 = .ok (.ireturn, 1) := by decide +kernel
set_option maxRecDepth 20000 in
theorem ggX0_wayTime_X3_distanceAlong : GoodIn wsX0_wayTime wsX3_distanceAlong := goodIn_r _ [10, 11, 12, 13, 3, 14, 15, 16, 17, 8, 18, 19, 27, 28, 29, 30, 31, 32, 33, 34] (by decide +kernel) (by decide +kernel)
set_option maxRecDepth 20000 in
theorem gX0_wayTime_X3_distanceAlong_n40 : GoodIn wsX0_wayTime (wsX3_distanceAlong) := ggX0_wayTime_X3_distanceAlong
set_option maxRecDepth 20000 in
theorem ggX0_wayTime_X3_trackOf : GoodIn wsX0_wayTime wsX3_trackOf := goodIn_r _ [18, 11, 19, 27, 28, 29, 30, 31, 32, 33, 34] (by decide +kernel) (by decide +kernel)
set_option maxRecDepth 20000 in
theorem gX0_wayTime_X3_trackOf_n45 : GoodIn wsX0_wayTime (wsX3_trackOf) := ggX0_wayTime_X3_trackOf
theorem dX0_wayTime_0 : decode cX0_wayTime 0 = .ok (.aload_n 1, 1) := by decide +kernel
theorem dX0_wayTime_1 : decode cX0_wayTime 1 = .ok (.iload_n 2, 1) := by decide +kernel
theorem dX0_wayTime_2 : decode cX0_wayTime 2 = .ok (.invokevirtual 40, 3) := by decide +kernel
theorem dX0_wayTime_5 : decode cX0_wayTime 5 = .ok (.aload_n 1, 1) := by decide +kernel
theorem dX0_wayTime_6 : decode cX0_wayTime 6 = .ok (.iload_n 3, 1) := by decide +kernel
theorem dX0_wayTime_7 : decode cX0_wayTime 7 = .ok (.invokevirtual 40, 3) := by decide +kernel
theorem dX0_wayTime_10 : decode cX0_wayTime 10 = .ok (.isub, 1) := by decide +kernel
theorem dX0_wayTime_11 : decode cX0_wayTime 11 = .ok (.invokestatic 34, 3) := by decide +kernel
theorem dX0_wayTime_14 : decode cX0_wayTime 14 = .ok (.istore 4, 2) := by decide +kernel
theorem dX0_wayTime_16 : decode cX0_wayTime 16 = .ok (.aload_n 1, 1) := by decide +kernel
theorem dX0_wayTime_17 : decode cX0_wayTime 17 = .ok (.iload_n 2, 1) := by decide +kernel
theorem dX0_wayTime_18 : decode cX0_wayTime 18 = .ok (.invokevirtual 45, 3) := by decide +kernel
theorem dX0_wayTime_21 : decode cX0_wayTime 21 = .ok (.aload_n 1, 1) := by decide +kernel
theorem dX0_wayTime_22 : decode cX0_wayTime 22 = .ok (.iload_n 3, 1) := by decide +kernel
theorem dX0_wayTime_23 : decode cX0_wayTime 23 = .ok (.invokevirtual 45, 3) := by decide +kernel
theorem dX0_wayTime_26 : decode cX0_wayTime 26 = .ok (.isub, 1) := by decide +kernel
theorem dX0_wayTime_27 : decode cX0_wayTime 27 = .ok (.invokestatic 34, 3) := by decide +kernel
theorem dX0_wayTime_30 : decode cX0_wayTime 30 = .ok (.istore 5, 2) := by decide +kernel
theorem dX0_wayTime_32 : decode cX0_wayTime 32 = .ok (.iload 4, 2) := by decide +kernel
theorem dX0_wayTime_34 : decode cX0_wayTime 34 = .ok (.aload_n 0, 1) := by decide +kernel
theorem dX0_wayTime_35 : decode cX0_wayTime 35 = .ok (.getfield 28, 3) := by decide +kernel
theorem dX0_wayTime_38 : decode cX0_wayTime 38 = .ok (.imul, 1) := by decide +kernel
theorem dX0_wayTime_39 : decode cX0_wayTime 39 = .ok (.iload 5, 2) := by decide +kernel
theorem dX0_wayTime_41 : decode cX0_wayTime 41 = .ok (.aload_n 0, 1) := by decide +kernel
theorem dX0_wayTime_42 : decode cX0_wayTime 42 = .ok (.getfield 31, 3) := by decide +kernel
theorem dX0_wayTime_45 : decode cX0_wayTime 45 = .ok (.imul, 1) := by decide +kernel
theorem dX0_wayTime_46 : decode cX0_wayTime 46 = .ok (.iadd, 1) := by decide +kernel
theorem dX0_wayTime_47 : decode cX0_wayTime 47 = .ok (.ireturn, 1) := by decide +kernel
set_option maxRecDepth 20000 in
theorem ggX0_fileTime_X3_beginOf : GoodIn wsX0_fileTime wsX3_beginOf := goodIn_r _ [4, 5, 6, 7, 8, 35, 36, 37, 38, 39, 40, 41, 42] (by decide +kernel) (by decide +kernel)
set_option maxRecDepth 20000 in
theorem gX0_fileTime_X3_beginOf_n48 : GoodIn wsX0_fileTime (wsX3_beginOf) := ggX0_fileTime_X3_beginOf
set_option maxRecDepth 20000 in
theorem ggX0_fileTime_X0_wayTime : GoodIn wsX0_fileTime wsX0_wayTime := goodIn_r _ [13, 14, 15, 16, 17, 18, 19, 20, 2, 21, 22, 23, 24, 25, 26, 27, 28, 29, 30, 31, 43, 44, 45, 46, 47, 48, 49, 35, 36, 37, 38, 39, 40, 41, 42] (by decide +kernel) (by decide +kernel)
set_option maxRecDepth 20000 in
theorem gX0_fileTime_X0_wayTime : GoodIn wsX0_fileTime (wsV RX0 51 RX0 yX0_wayTime wsX0_wayTime) := goodIn_app (goodIn_of _ (by decide +kernel)) ggX0_fileTime_X0_wayTime
set_option maxRecDepth 20000 in
theorem ggX0_fileTime_X3_endOf : GoodIn wsX0_fileTime wsX3_endOf := goodIn_r _ [34, 5, 6, 7, 8, 35, 36, 37, 38, 39, 40, 41, 42] (by decide +kernel) (by decide +kernel)
set_option maxRecDepth 20000 in
theorem gX0_fileTime_X3_endOf_n55 : GoodIn wsX0_fileTime (wsX3_endOf) := ggX0_fileTime_X3_endOf
theorem dX0_fileTime_0 : decode cX0_fileTime 0 = .ok (.aload_n 1, 1) := by decide +kernel
theorem dX0_fileTime_1 : decode cX0_fileTime 1 = .ok (.iload_n 3, 1) := by decide +kernel
theorem dX0_fileTime_2 : decode cX0_fileTime 2 = .ok (.invokevirtual 48, 3) := by decide +kernel
theorem dX0_fileTime_5 : decode cX0_fileTime 5 = .ok (.istore 4, 2) := by decide +kernel
theorem dX0_fileTime_7 : decode cX0_fileTime 7 = .ok (.aload_n 0, 1) := by decide +kernel
theorem dX0_fileTime_8 : decode cX0_fileTime 8 = .ok (.aload_n 1, 1) := by decide +kernel
theorem dX0_fileTime_9 : decode cX0_fileTime 9 = .ok (.iload_n 2, 1) := by decide +kernel
theorem dX0_fileTime_10 : decode cX0_fileTime 10 = .ok (.iload 4, 2) := by decide +kernel
theorem dX0_fileTime_12 : decode cX0_fileTime 12 = .ok (.invokevirtual 51, 3) := by decide +kernel
theorem dX0_fileTime_15 : decode cX0_fileTime 15 = .ok (.iconst 3, 1) := by decide +kernel
theorem dX0_fileTime_16 : decode cX0_fileTime 16 = .ok (.aload_n 1, 1) := by decide +kernel
theorem dX0_fileTime_17 : decode cX0_fileTime 17 = .ok (.iload_n 3, 1) := by decide +kernel
theorem dX0_fileTime_18 : decode cX0_fileTime 18 = .ok (.invokevirtual 55, 3) := by decide +kernel
theorem dX0_fileTime_21 : decode cX0_fileTime 21 = .ok (.iload 4, 2) := by decide +kernel
theorem dX0_fileTime_23 : decode cX0_fileTime 23 = .ok (.isub, 1) := by decide +kernel
theorem dX0_fileTime_24 : decode cX0_fileTime 24 = .ok (.imul, 1) := by decide +kernel
theorem dX0_fileTime_25 : decode cX0_fileTime 25 = .ok (.iadd, 1) := by decide +kernel
theorem dX0_fileTime_26 : decode cX0_fileTime 26 = .ok (.ireturn, 1) := by decide +kernel
set_option maxRecDepth 20000 in
theorem ggX0_passFile_X0_fileTime : GoodIn wsX0_passFile wsX0_fileTime := goodIn_r _ [7, 8, 9, 10, 11, 12, 13, 14, 15, 16, 17, 18, 6, 19, 20, 21, 22, 23, 24, 25, 26, 27, 28, 29, 30, 31, 32, 33, 34, 35, 36, 37, 38, 39, 40, 53, 54, 55, 56, 57, 58, 59, 60, 46, 47, 48, 49, 50, 51, 52] (by decide +kernel) (by decide +kernel)
set_option maxRecDepth 20000 in
theorem gX0_passFile_X0_fileTime : GoodIn wsX0_passFile (wsV RX0 58 RX0 yX0_fileTime wsX0_fileTime) := goodIn_app (goodIn_of _ (by decide +kernel)) ggX0_passFile_X0_fileTime
set_option maxRecDepth 20000 in
theorem ggX0_passFile_X3_endOf : GoodIn wsX0_passFile wsX3_endOf := goodIn_r _ [40, 12, 13, 14, 15, 53, 54, 55, 56, 57, 58, 59, 60] (by decide +kernel) (by decide +kernel)
set_option maxRecDepth 20000 in
theorem gX0_passFile_X3_endOf_n55 : GoodIn wsX0_passFile (wsX3_endOf) := ggX0_passFile_X3_endOf
set_option maxRecDepth 20000 in
theorem ggX0_passFile_X0_spend : GoodIn wsX0_passFile wsX0_spend := goodIn_r _ [44, 45, 46, 47, 48, 49, 50, 51, 52] (by decide +kernel) (by decide +kernel)
set_option maxRecDepth 20000 in
theorem gX0_passFile_X0_spend : GoodIn wsX0_passFile (wsV RX0 61 RX0 yX0_spend wsX0_spend) := goodIn_app (goodIn_of _ (by decide +kernel)) ggX0_passFile_X0_spend
theorem dX0_passFile_0 : decode cX0_passFile 0 = .ok (.aload_n 0, 1) := by decide +kernel
theorem dX0_passFile_1 : decode cX0_passFile 1 = .ok (.aload_n 1, 1) := by decide +kernel
theorem dX0_passFile_2 : decode cX0_passFile 2 = .ok (.aload_n 0, 1) := by decide +kernel
theorem dX0_passFile_3 : decode cX0_passFile 3 = .ok (.getfield 15, 3) := by decide +kernel
theorem dX0_passFile_6 : decode cX0_passFile 6 = .ok (.iload_n 2, 1) := by decide +kernel
theorem dX0_passFile_7 : decode cX0_passFile 7 = .ok (.invokevirtual 58, 3) := by decide +kernel
theorem dX0_passFile_10 : decode cX0_passFile 10 = .ok (.istore_n 3, 1) := by decide +kernel
theorem dX0_passFile_11 : decode cX0_passFile 11 = .ok (.aload_n 0, 1) := by decide +kernel
theorem dX0_passFile_12 : decode cX0_passFile 12 = .ok (.aload_n 1, 1) := by decide +kernel
theorem dX0_passFile_13 : decode cX0_passFile 13 = .ok (.iload_n 2, 1) := by decide +kernel
theorem dX0_passFile_14 : decode cX0_passFile 14 = .ok (.invokevirtual 55, 3) := by decide +kernel
theorem dX0_passFile_17 : decode cX0_passFile 17 = .ok (.putfield 15, 3) := by decide +kernel
theorem dX0_passFile_20 : decode cX0_passFile 20 = .ok (.aload_n 0, 1) := by decide +kernel
theorem dX0_passFile_21 : decode cX0_passFile 21 = .ok (.dup, 1) := by decide +kernel
theorem dX0_passFile_22 : decode cX0_passFile 22 = .ok (.getfield 22, 3) := by decide +kernel
theorem dX0_passFile_25 : decode cX0_passFile 25 = .ok (.iconst 1, 1) := by decide +kernel
theorem dX0_passFile_26 : decode cX0_passFile 26 = .ok (.iadd, 1) := by decide +kernel
theorem dX0_passFile_27 : decode cX0_passFile 27 = .ok (.putfield 22, 3) := by decide +kernel
theorem dX0_passFile_30 : decode cX0_passFile 30 = .ok (.aload_n 0, 1) := by decide +kernel
theorem dX0_passFile_31 : decode cX0_passFile 31 = .ok (.iload_n 3, 1) := by decide +kernel
theorem dX0_passFile_32 : decode cX0_passFile 32 = .ok (.invokevirtual 61, 3) := by decide +kernel
theorem dX0_passFile_35 : decode cX0_passFile 35 = .ok (.ireturn, 1) := by decide +kernel
theorem dX1_init_0 : decode cX1_init 0 = .ok (.aload_n 0, 1) := by decide +kernel
theorem dX1_init_1 : decode cX1_init 1 = .ok (.invokespecial 3, 3) := by decide +kernel
theorem dX1_init_4 : decode cX1_init 4 = .ok (.aload_n 0, 1) := by decide +kernel
theorem dX1_init_5 : decode cX1_init 5 = .ok (.iconst 0, 1) := by decide +kernel
theorem dX1_init_6 : decode cX1_init 6 = .ok (.putfield 9, 3) := by decide +kernel
theorem dX1_init_9 : decode cX1_init 9 = .ok (.aload_n 0, 1) := by decide +kernel
theorem dX1_init_10 : decode cX1_init 10 = .ok (.iconst 0, 1) := by decide +kernel
theorem dX1_init_11 : decode cX1_init 11 = .ok (.putfield 15, 3) := by decide +kernel
theorem dX1_init_14 : decode cX1_init 14 = .ok (.aload_n 0, 1) := by decide +kernel
theorem dX1_init_15 : decode cX1_init 15 = .ok (.bipush 60, 2) := by decide +kernel
theorem dX1_init_17 : decode cX1_init 17 = .ok (.newarray .int, 2) := by decide +kernel
theorem dX1_init_19 : decode cX1_init 19 = .ok (.putfield 18, 3) := by decide +kernel
theorem dX1_init_22 : decode cX1_init 22 = .ok (.aload_n 0, 1) := by decide +kernel
theorem dX1_init_23 : decode cX1_init 23 = .ok (.bipush 60, 2) := by decide +kernel
theorem dX1_init_25 : decode cX1_init 25 = .ok (.newarray .int, 2) := by decide +kernel
theorem dX1_init_27 : decode cX1_init 27 = .ok (.putfield 22, 3) := by decide +kernel
theorem dX1_init_30 : decode cX1_init 30 = .ok (.aload_n 0, 1) := by decide +kernel
theorem dX1_init_31 : decode cX1_init 31 = .ok (.bipush 60, 2) := by decide +kernel
theorem dX1_init_33 : decode cX1_init 33 = .ok (.newarray .int, 2) := by decide +kernel
theorem dX1_init_35 : decode cX1_init 35 = .ok (.putfield 25, 3) := by decide +kernel
theorem dX1_init_38 : decode cX1_init 38 = .ok (.return_, 1) := by decide +kernel
set_option maxRecDepth 20000 in
theorem ggX1_enter_X4_put : GoodIn wsX1_enter wsX4_put := goodIn_r _ [7] (by decide +kernel) (by decide +kernel)
set_option maxRecDepth 20000 in
theorem gX1_enter_X4_put_n28 : GoodIn wsX1_enter (wsX4_put) := ggX1_enter_X4_put
theorem dX1_enter_0 : decode cX1_enter 0 = .ok (.aload_n 0, 1) := by decide +kernel
theorem dX1_enter_1 : decode cX1_enter 1 = .ok (.getfield 18, 3) := by decide +kernel
theorem dX1_enter_4 : decode cX1_enter 4 = .ok (.aload_n 0, 1) := by decide +kernel
theorem dX1_enter_5 : decode cX1_enter 5 = .ok (.getfield 9, 3) := by decide +kernel
theorem dX1_enter_8 : decode cX1_enter 8 = .ok (.iload_n 1, 1) := by decide +kernel
theorem dX1_enter_9 : decode cX1_enter 9 = .ok (.invokestatic 28, 3) := by decide +kernel
theorem dX1_enter_12 : decode cX1_enter 12 = .ok (.aload_n 0, 1) := by decide +kernel
theorem dX1_enter_13 : decode cX1_enter 13 = .ok (.getfield 22, 3) := by decide +kernel
theorem dX1_enter_16 : decode cX1_enter 16 = .ok (.aload_n 0, 1) := by decide +kernel
theorem dX1_enter_17 : decode cX1_enter 17 = .ok (.getfield 9, 3) := by decide +kernel
theorem dX1_enter_20 : decode cX1_enter 20 = .ok (.iload_n 2, 1) := by decide +kernel
theorem dX1_enter_21 : decode cX1_enter 21 = .ok (.invokestatic 28, 3) := by decide +kernel
theorem dX1_enter_24 : decode cX1_enter 24 = .ok (.aload_n 0, 1) := by decide +kernel
theorem dX1_enter_25 : decode cX1_enter 25 = .ok (.getfield 25, 3) := by decide +kernel
theorem dX1_enter_28 : decode cX1_enter 28 = .ok (.aload_n 0, 1) := by decide +kernel
theorem dX1_enter_29 : decode cX1_enter 29 = .ok (.getfield 9, 3) := by decide +kernel
theorem dX1_enter_32 : decode cX1_enter 32 = .ok (.iload_n 3, 1) := by decide +kernel
theorem dX1_enter_33 : decode cX1_enter 33 = .ok (.invokestatic 28, 3) := by decide +kernel
theorem dX1_enter_36 : decode cX1_enter 36 = .ok (.aload_n 0, 1) := by decide +kernel
theorem dX1_enter_37 : decode cX1_enter 37 = .ok (.dup, 1) := by decide +kernel
theorem dX1_enter_38 : decode cX1_enter 38 = .ok (.getfield 9, 3) := by decide +kernel
theorem dX1_enter_41 : decode cX1_enter 41 = .ok (.iconst 1, 1) := by decide +kernel
theorem dX1_enter_42 : decode cX1_enter 42 = .ok (.iadd, 1) := by decide +kernel
theorem dX1_enter_43 : decode cX1_enter 43 = .ok (.putfield 9, 3) := by decide +kernel
theorem dX1_enter_46 : decode cX1_enter 46 = .ok (.aload_n 0, 1) := by decide +kernel
theorem dX1_enter_47 : decode cX1_enter 47 = .ok (.getfield 9, 3) := by decide +kernel
theorem dX1_enter_50 : decode cX1_enter 50 = .ok (.iconst 1, 1) := by decide +kernel
theorem dX1_enter_51 : decode cX1_enter 51 = .ok (.isub, 1) := by decide +kernel
theorem dX1_enter_52 : decode cX1_enter 52 = .ok (.ireturn, 1) := by decide +kernel
set_option maxRecDepth 20000 in
theorem ggX1_finish_X4_put : GoodIn wsX1_finish wsX4_put := goodIn_r _ [5] (by decide +kernel) (by decide +kernel)
set_option maxRecDepth 20000 in
theorem gX1_finish_X4_put_n28 : GoodIn wsX1_finish (wsX4_put) := ggX1_finish_X4_put
theorem dX1_finish_0 : decode cX1_finish 0 = .ok (.aload_n 0, 1) := by decide +kernel
theorem dX1_finish_1 : decode cX1_finish 1 = .ok (.getfield 18, 3) := by decide +kernel
theorem dX1_finish_4 : decode cX1_finish 4 = .ok (.iload_n 1, 1) := by decide +kernel
theorem dX1_finish_5 : decode cX1_finish 5 = .ok (.iconst (-1), 1) := by decide +kernel
theorem dX1_finish_6 : decode cX1_finish 6 = .ok (.invokestatic 28, 3) := by decide +kernel
theorem dX1_finish_9 : decode cX1_finish 9 = .ok (.aload_n 0, 1) := by decide +kernel
theorem dX1_finish_10 : decode cX1_finish 10 = .ok (.dup, 1) := by decide +kernel
theorem dX1_finish_11 : decode cX1_finish 11 = .ok (.getfield 15, 3) := by decide +kernel
theorem dX1_finish_14 : decode cX1_finish 14 = .ok (.iconst 1, 1) := by decide +kernel
theorem dX1_finish_15 : decode cX1_finish 15 = .ok (.iadd, 1) := by decide +kernel
theorem dX1_finish_16 : decode cX1_finish 16 = .ok (.putfield 15, 3) := by decide +kernel
theorem dX1_finish_19 : decode cX1_finish 19 = .ok (.return_, 1) := by decide +kernel
set_option maxRecDepth 20000 in
theorem ggX1_fileOf_X4_at : GoodIn wsX1_fileOf wsX4_at := goodIn_r _ [4] (by decide +kernel) (by decide +kernel)
set_option maxRecDepth 20000 in
theorem gX1_fileOf_X4_at_n32 : GoodIn wsX1_fileOf (wsX4_at) := ggX1_fileOf_X4_at
theorem dX1_fileOf_0 : decode cX1_fileOf 0 = .ok (.aload_n 0, 1) := by decide +kernel
theorem dX1_fileOf_1 : decode cX1_fileOf 1 = .ok (.getfield 22, 3) := by decide +kernel
theorem dX1_fileOf_4 : decode cX1_fileOf 4 = .ok (.iload_n 1, 1) := by decide +kernel
theorem dX1_fileOf_5 : decode cX1_fileOf 5 = .ok (.invokestatic 32, 3) := by decide +kernel
theorem dX1_fileOf_8 : decode cX1_fileOf 8 = .ok (.ireturn, 1) := by decide +kernel
set_option maxRecDepth 20000 in
theorem ggX1_deadlineOf_X4_at : GoodIn wsX1_deadlineOf wsX4_at := goodIn_r _ [4] (by decide +kernel) (by decide +kernel)
set_option maxRecDepth 20000 in
theorem gX1_deadlineOf_X4_at_n32 : GoodIn wsX1_deadlineOf (wsX4_at) := ggX1_deadlineOf_X4_at
theorem dX1_deadlineOf_0 : decode cX1_deadlineOf 0 = .ok (.aload_n 0, 1) := by decide +kernel
theorem dX1_deadlineOf_1 : decode cX1_deadlineOf 1 = .ok (.getfield 25, 3) := by decide +kernel
theorem dX1_deadlineOf_4 : decode cX1_deadlineOf 4 = .ok (.iload_n 1, 1) := by decide +kernel
theorem dX1_deadlineOf_5 : decode cX1_deadlineOf 5 = .ok (.invokestatic 32, 3) := by decide +kernel
theorem dX1_deadlineOf_8 : decode cX1_deadlineOf 8 = .ok (.ireturn, 1) := by decide +kernel
set_option maxRecDepth 20000 in
theorem ggX1_countAt_X4_at : GoodIn wsX1_countAt wsX4_at := goodIn_r _ [5] (by decide +kernel) (by decide +kernel)
set_option maxRecDepth 20000 in
theorem gX1_countAt_X4_at_n32 : GoodIn wsX1_countAt (wsX4_at) := ggX1_countAt_X4_at
theorem dX1_countAt_0 : decode cX1_countAt 0 = .ok (.iconst 0, 1) := by decide +kernel
theorem dX1_countAt_1 : decode cX1_countAt 1 = .ok (.istore_n 2, 1) := by decide +kernel
theorem dX1_countAt_2 : decode cX1_countAt 2 = .ok (.iconst 0, 1) := by decide +kernel
theorem dX1_countAt_3 : decode cX1_countAt 3 = .ok (.istore_n 3, 1) := by decide +kernel
theorem dX1_countAt_4 : decode cX1_countAt 4 = .ok (.iload_n 3, 1) := by decide +kernel
theorem dX1_countAt_5 : decode cX1_countAt 5 = .ok (.aload_n 0, 1) := by decide +kernel
theorem dX1_countAt_6 : decode cX1_countAt 6 = .ok (.getfield 9, 3) := by decide +kernel
theorem dX1_countAt_9 : decode cX1_countAt 9 = .ok (.if_icmp .ge 24, 3) := by decide +kernel
theorem dX1_countAt_12 : decode cX1_countAt 12 = .ok (.aload_n 0, 1) := by decide +kernel
theorem dX1_countAt_13 : decode cX1_countAt 13 = .ok (.getfield 18, 3) := by decide +kernel
theorem dX1_countAt_16 : decode cX1_countAt 16 = .ok (.iload_n 3, 1) := by decide +kernel
theorem dX1_countAt_17 : decode cX1_countAt 17 = .ok (.invokestatic 32, 3) := by decide +kernel
theorem dX1_countAt_20 : decode cX1_countAt 20 = .ok (.iload_n 1, 1) := by decide +kernel
theorem dX1_countAt_21 : decode cX1_countAt 21 = .ok (.if_icmp .ne 6, 3) := by decide +kernel
theorem dX1_countAt_24 : decode cX1_countAt 24 = .ok (.iinc 2 1, 3) := by decide +kernel
theorem dX1_countAt_27 : decode cX1_countAt 27 = .ok (.iinc 3 1, 3) := by decide +kernel
theorem dX1_countAt_30 : decode cX1_countAt 30 = .ok (.goto (-26), 3) := by decide +kernel
theorem dX1_countAt_33 : decode cX1_countAt 33 = .ok (.iload_n 2, 1) := by decide +kernel
theorem dX1_countAt_34 : decode cX1_countAt 34 = .ok (.ireturn, 1) := by decide +kernel
set_option maxRecDepth 20000 in
theorem ggX1_earliestDeadlineAt_X4_at : GoodIn wsX1_earliestDeadlineAt wsX4_at := goodIn_r _ [11] (by decide +kernel) (by decide +kernel)
set_option maxRecDepth 20000 in
theorem gX1_earliestDeadlineAt_X4_at_n32 : GoodIn wsX1_earliestDeadlineAt (wsX4_at) := ggX1_earliestDeadlineAt_X4_at
theorem dX1_earliestDeadlineAt_0 : decode cX1_earliestDeadlineAt 0 = .ok (.ldc 36, 2) := by decide +kernel
theorem dX1_earliestDeadlineAt_2 : decode cX1_earliestDeadlineAt 2 = .ok (.istore_n 2, 1) := by decide +kernel
theorem dX1_earliestDeadlineAt_3 : decode cX1_earliestDeadlineAt 3 = .ok (.iconst 0, 1) := by decide +kernel
theorem dX1_earliestDeadlineAt_4 : decode cX1_earliestDeadlineAt 4 = .ok (.istore_n 3, 1) := by decide +kernel
theorem dX1_earliestDeadlineAt_5 : decode cX1_earliestDeadlineAt 5 = .ok (.iload_n 3, 1) := by decide +kernel
theorem dX1_earliestDeadlineAt_6 : decode cX1_earliestDeadlineAt 6 = .ok (.aload_n 0, 1) := by decide +kernel
theorem dX1_earliestDeadlineAt_7 : decode cX1_earliestDeadlineAt 7 = .ok (.getfield 9, 3) := by decide +kernel
theorem dX1_earliestDeadlineAt_10 : decode cX1_earliestDeadlineAt 10 = .ok (.if_icmp .ge 34, 3) := by decide +kernel
theorem dX1_earliestDeadlineAt_13 : decode cX1_earliestDeadlineAt 13 = .ok (.aload_n 0, 1) := by decide +kernel
theorem dX1_earliestDeadlineAt_14 : decode cX1_earliestDeadlineAt 14 = .ok (.getfield 18, 3) := by decide +kernel
theorem dX1_earliestDeadlineAt_17 : decode cX1_earliestDeadlineAt 17 = .ok (.iload_n 3, 1) := by decide +kernel
theorem dX1_earliestDeadlineAt_18 : decode cX1_earliestDeadlineAt 18 = .ok (.invokestatic 32, 3) := by decide +kernel
theorem dX1_earliestDeadlineAt_21 : decode cX1_earliestDeadlineAt 21 = .ok (.iload_n 1, 1) := by decide +kernel
theorem dX1_earliestDeadlineAt_22 : decode cX1_earliestDeadlineAt 22 = .ok (.if_icmp .ne 16, 3) := by decide +kernel
theorem dX1_earliestDeadlineAt_25 : decode cX1_earliestDeadlineAt 25 = .ok (.iload_n 2, 1) := by decide +kernel
theorem dX1_earliestDeadlineAt_26 : decode cX1_earliestDeadlineAt 26 = .ok (.aload_n 0, 1) := by decide +kernel
theorem dX1_earliestDeadlineAt_27 : decode cX1_earliestDeadlineAt 27 = .ok (.getfield 25, 3) := by decide +kernel
theorem dX1_earliestDeadlineAt_30 : decode cX1_earliestDeadlineAt 30 = .ok (.iload_n 3, 1) := by decide +kernel
theorem dX1_earliestDeadlineAt_31 : decode cX1_earliestDeadlineAt 31 = .ok (.invokestatic 32, 3) := by decide +kernel
theorem dX1_earliestDeadlineAt_34 : decode cX1_earliestDeadlineAt 34 = .ok (.invokestatic 37, 3) := by decide +kernel
theorem dX1_earliestDeadlineAt_37 : decode cX1_earliestDeadlineAt 37 = .ok (.istore_n 2, 1) := by decide +kernel
theorem dX1_earliestDeadlineAt_38 : decode cX1_earliestDeadlineAt 38 = .ok (.iinc 3 1, 3) := by decide +kernel
theorem dX1_earliestDeadlineAt_41 : decode cX1_earliestDeadlineAt 41 = .ok (.goto (-36), 3) := by decide +kernel
theorem dX1_earliestDeadlineAt_44 : decode cX1_earliestDeadlineAt 44 = .ok (.iload_n 2, 1) := by decide +kernel
theorem dX1_earliestDeadlineAt_45 : decode cX1_earliestDeadlineAt 45 = .ok (.ireturn, 1) := by decide +kernel
set_option maxRecDepth 20000 in
theorem ggX1_collectAt_X4_at : GoodIn wsX1_collectAt wsX4_at := goodIn_r _ [9] (by decide +kernel) (by decide +kernel)
set_option maxRecDepth 20000 in
theorem gX1_collectAt_X4_at_n32 : GoodIn wsX1_collectAt (wsX4_at) := ggX1_collectAt_X4_at
set_option maxRecDepth 20000 in
theorem ggX1_collectAt_X4_put : GoodIn wsX1_collectAt wsX4_put := goodIn_r _ [11] (by decide +kernel) (by decide +kernel)
set_option maxRecDepth 20000 in
theorem gX1_collectAt_X4_put_n28 : GoodIn wsX1_collectAt (wsX4_put) := ggX1_collectAt_X4_put
theorem dX1_collectAt_0 : decode cX1_collectAt 0 = .ok (.iconst 0, 1) := by decide +kernel
theorem dX1_collectAt_1 : decode cX1_collectAt 1 = .ok (.istore_n 3, 1) := by decide +kernel
theorem dX1_collectAt_2 : decode cX1_collectAt 2 = .ok (.iconst 0, 1) := by decide +kernel
theorem dX1_collectAt_3 : decode cX1_collectAt 3 = .ok (.istore 4, 2) := by decide +kernel
theorem dX1_collectAt_5 : decode cX1_collectAt 5 = .ok (.iload 4, 2) := by decide +kernel
theorem dX1_collectAt_7 : decode cX1_collectAt 7 = .ok (.aload_n 0, 1) := by decide +kernel
theorem dX1_collectAt_8 : decode cX1_collectAt 8 = .ok (.getfield 9, 3) := by decide +kernel
theorem dX1_collectAt_11 : decode cX1_collectAt 11 = .ok (.if_icmp .ge 32, 3) := by decide +kernel
theorem dX1_collectAt_14 : decode cX1_collectAt 14 = .ok (.aload_n 0, 1) := by decide +kernel
theorem dX1_collectAt_15 : decode cX1_collectAt 15 = .ok (.getfield 18, 3) := by decide +kernel
theorem dX1_collectAt_18 : decode cX1_collectAt 18 = .ok (.iload 4, 2) := by decide +kernel
theorem dX1_collectAt_20 : decode cX1_collectAt 20 = .ok (.invokestatic 32, 3) := by decide +kernel
theorem dX1_collectAt_23 : decode cX1_collectAt 23 = .ok (.iload_n 1, 1) := by decide +kernel
theorem dX1_collectAt_24 : decode cX1_collectAt 24 = .ok (.if_icmp .ne 13, 3) := by decide +kernel
theorem dX1_collectAt_27 : decode cX1_collectAt 27 = .ok (.aload_n 2, 1) := by decide +kernel
theorem dX1_collectAt_28 : decode cX1_collectAt 28 = .ok (.iload_n 3, 1) := by decide +kernel
theorem dX1_collectAt_29 : decode cX1_collectAt 29 = .ok (.iload 4, 2) := by decide +kernel
theorem dX1_collectAt_31 : decode cX1_collectAt 31 = .ok (.invokestatic 28, 3) := by decide +kernel
theorem dX1_collectAt_34 : decode cX1_collectAt 34 = .ok (.iinc 3 1, 3) := by decide +kernel
theorem dX1_collectAt_37 : decode cX1_collectAt 37 = .ok (.iinc 4 1, 3) := by decide +kernel
theorem dX1_collectAt_40 : decode cX1_collectAt 40 = .ok (.goto (-35), 3) := by decide +kernel
theorem dX1_collectAt_43 : decode cX1_collectAt 43 = .ok (.iload_n 3, 1) := by decide +kernel
theorem dX1_collectAt_44 : decode cX1_collectAt 44 = .ok (.aload_n 2, 1) := by decide +kernel
theorem dX1_collectAt_45 : decode cX1_collectAt 45 = .ok (.arraylength, 1) := by decide +kernel
theorem dX1_collectAt_46 : decode cX1_collectAt 46 = .ok (.invokestatic 37, 3) := by decide +kernel
theorem dX1_collectAt_49 : decode cX1_collectAt 49 = .ok (.ireturn, 1) := by decide +kernel
theorem dX2_init_0 : decode cX2_init 0 = .ok (.aload_n 0, 1) := by decide +kernel
theorem dX2_init_1 : decode cX2_init 1 = .ok (.invokespecial 3, 3) := by decide +kernel
theorem dX2_init_4 : decode cX2_init 4 = .ok (.aload_n 0, 1) := by decide +kernel
theorem dX2_init_5 : decode cX2_init 5 = .ok (.iconst 0, 1) := by decide +kernel
theorem dX2_init_6 : decode cX2_init 6 = .ok (.putfield 9, 3) := by decide +kernel
theorem dX2_init_9 : decode cX2_init 9 = .ok (.aload_n 0, 1) := by decide +kernel
theorem dX2_init_10 : decode cX2_init 10 = .ok (.bipush 7, 2) := by decide +kernel
theorem dX2_init_12 : decode cX2_init 12 = .ok (.newarray .int, 2) := by decide +kernel
theorem dX2_init_14 : decode cX2_init 14 = .ok (.putfield 15, 3) := by decide +kernel
theorem dX2_init_17 : decode cX2_init 17 = .ok (.aload_n 0, 1) := by decide +kernel
theorem dX2_init_18 : decode cX2_init 18 = .ok (.bipush 56, 2) := by decide +kernel
theorem dX2_init_20 : decode cX2_init 20 = .ok (.newarray .int, 2) := by decide +kernel
theorem dX2_init_22 : decode cX2_init 22 = .ok (.putfield 19, 3) := by decide +kernel
theorem dX2_init_25 : decode cX2_init 25 = .ok (.aload_n 0, 1) := by decide +kernel
theorem dX2_init_26 : decode cX2_init 26 = .ok (.sipush 896, 3) := by decide +kernel
theorem dX2_init_29 : decode cX2_init 29 = .ok (.newarray .int, 2) := by decide +kernel
theorem dX2_init_31 : decode cX2_init 31 = .ok (.putfield 22, 3) := by decide +kernel
theorem dX2_init_34 : decode cX2_init 34 = .ok (.aload_n 0, 1) := by decide +kernel
theorem dX2_init_35 : decode cX2_init 35 = .ok (.bipush 7, 2) := by decide +kernel
theorem dX2_init_37 : decode cX2_init 37 = .ok (.newarray .int, 2) := by decide +kernel
theorem dX2_init_39 : decode cX2_init 39 = .ok (.putfield 25, 3) := by decide +kernel
theorem dX2_init_42 : decode cX2_init 42 = .ok (.aload_n 0, 1) := by decide +kernel
theorem dX2_init_43 : decode cX2_init 43 = .ok (.bipush 7, 2) := by decide +kernel
theorem dX2_init_45 : decode cX2_init 45 = .ok (.newarray .int, 2) := by decide +kernel
theorem dX2_init_47 : decode cX2_init 47 = .ok (.putfield 28, 3) := by decide +kernel
theorem dX2_init_50 : decode cX2_init 50 = .ok (.return_, 1) := by decide +kernel
set_option maxRecDepth 20000 in
theorem ggX2_measure_X1_collectAt : GoodIn wsX2_measure wsX1_collectAt := goodIn_r _ [7, 8, 9, 10, 11, 12, 13, 14, 15, 16, 17, 18, 75, 76, 77, 78, 79] (by decide +kernel) (by decide +kernel)
set_option maxRecDepth 20000 in
theorem gX2_measure_X1_collectAt_n36 : GoodIn wsX2_measure (wsX1_collectAt) := ggX2_measure_X1_collectAt
set_option maxRecDepth 20000 in
theorem ggX2_measure_X4_at : GoodIn wsX2_measure wsX4_at := goodIn_r _ [16] (by decide +kernel) (by decide +kernel)
set_option maxRecDepth 20000 in
theorem gX2_measure_X4_at_n42 : GoodIn wsX2_measure (wsX4_at) := ggX2_measure_X4_at
set_option maxRecDepth 20000 in
theorem ggX2_measure_X1_fileOf : GoodIn wsX2_measure wsX1_fileOf := goodIn_r _ [21, 22, 14, 15, 16, 75, 76, 77, 78, 79] (by decide +kernel) (by decide +kernel)
set_option maxRecDepth 20000 in
theorem gX2_measure_X1_fileOf_n46 : GoodIn wsX2_measure (wsX1_fileOf) := ggX2_measure_X1_fileOf
set_option maxRecDepth 20000 in
theorem ggX2_measure_X0_fileTime : GoodIn wsX2_measure wsX0_fileTime := goodIn_r _ [26, 27, 28, 29, 30, 31, 14, 15, 16, 32, 33, 34, 24, 35, 36, 37, 12, 38, 39, 40, 41, 42, 43, 44, 45, 11, 13, 46, 47, 48, 49, 50, 51, 52, 53, 54, 55, 56, 57, 58, 59, 60, 61, 68, 69, 70, 71, 72, 73, 74] (by decide +kernel) (by decide +kernel)
set_option maxRecDepth 20000 in
theorem gX2_measure_X0_fileTime_n55 : GoodIn wsX2_measure (wsX0_fileTime) := ggX2_measure_X0_fileTime
set_option maxRecDepth 20000 in
theorem ggX2_measure_X4_put : GoodIn wsX2_measure wsX4_put := goodIn_r _ [18] (by decide +kernel) (by decide +kernel)
set_option maxRecDepth 20000 in
theorem gX2_measure_X4_put_n59 : GoodIn wsX2_measure (wsX4_put) := ggX2_measure_X4_put
set_option maxRecDepth 20000 in
theorem ggX2_measure_X3_endOf : GoodIn wsX2_measure wsX3_endOf := goodIn_r _ [53, 31, 14, 15, 16, 54, 55, 56, 57, 58, 59, 60, 61] (by decide +kernel) (by decide +kernel)
set_option maxRecDepth 20000 in
theorem gX2_measure_X3_endOf_n63 : GoodIn wsX2_measure (wsX3_endOf) := ggX2_measure_X3_endOf
theorem dX2_measure_0 : decode cX2_measure 0 = .ok (.aload_n 0, 1) := by decide +kernel
theorem dX2_measure_1 : decode cX2_measure 1 = .ok (.aload_n 3, 1) := by decide +kernel
theorem dX2_measure_2 : decode cX2_measure 2 = .ok (.aload_n 2, 1) := by decide +kernel
theorem dX2_measure_3 : decode cX2_measure 3 = .ok (.getfield 31, 3) := by decide +kernel
theorem dX2_measure_6 : decode cX2_measure 6 = .ok (.aload_n 0, 1) := by decide +kernel
theorem dX2_measure_7 : decode cX2_measure 7 = .ok (.getfield 15, 3) := by decide +kernel
theorem dX2_measure_10 : decode cX2_measure 10 = .ok (.invokevirtual 36, 3) := by decide +kernel
theorem dX2_measure_13 : decode cX2_measure 13 = .ok (.putfield 9, 3) := by decide +kernel
theorem dX2_measure_16 : decode cX2_measure 16 = .ok (.iconst 0, 1) := by decide +kernel
theorem dX2_measure_17 : decode cX2_measure 17 = .ok (.istore 4, 2) := by decide +kernel
theorem dX2_measure_19 : decode cX2_measure 19 = .ok (.iload 4, 2) := by decide +kernel
theorem dX2_measure_21 : decode cX2_measure 21 = .ok (.aload_n 0, 1) := by decide +kernel
theorem dX2_measure_22 : decode cX2_measure 22 = .ok (.getfield 9, 3) := by decide +kernel
theorem dX2_measure_25 : decode cX2_measure 25 = .ok (.if_icmp .ge 108, 3) := by decide +kernel
theorem dX2_measure_28 : decode cX2_measure 28 = .ok (.aload_n 3, 1) := by decide +kernel
theorem dX2_measure_29 : decode cX2_measure 29 = .ok (.aload_n 0, 1) := by decide +kernel
theorem dX2_measure_30 : decode cX2_measure 30 = .ok (.getfield 15, 3) := by decide +kernel
theorem dX2_measure_33 : decode cX2_measure 33 = .ok (.iload 4, 2) := by decide +kernel
theorem dX2_measure_35 : decode cX2_measure 35 = .ok (.invokestatic 42, 3) := by decide +kernel
theorem dX2_measure_38 : decode cX2_measure 38 = .ok (.invokevirtual 46, 3) := by decide +kernel
theorem dX2_measure_41 : decode cX2_measure 41 = .ok (.istore 5, 2) := by decide +kernel
theorem dX2_measure_43 : decode cX2_measure 43 = .ok (.aload_n 0, 1) := by decide +kernel
theorem dX2_measure_44 : decode cX2_measure 44 = .ok (.getfield 19, 3) := by decide +kernel
theorem dX2_measure_47 : decode cX2_measure 47 = .ok (.bipush 49, 2) := by decide +kernel
theorem dX2_measure_49 : decode cX2_measure 49 = .ok (.iload 4, 2) := by decide +kernel
theorem dX2_measure_51 : decode cX2_measure 51 = .ok (.iadd, 1) := by decide +kernel
theorem dX2_measure_52 : decode cX2_measure 52 = .ok (.aload_n 1, 1) := by decide +kernel
theorem dX2_measure_53 : decode cX2_measure 53 = .ok (.aload_n 2, 1) := by decide +kernel
theorem dX2_measure_54 : decode cX2_measure 54 = .ok (.aload_n 1, 1) := by decide +kernel
theorem dX2_measure_55 : decode cX2_measure 55 = .ok (.getfield 50, 3) := by decide +kernel
theorem dX2_measure_58 : decode cX2_measure 58 = .ok (.iload 5, 2) := by decide +kernel
theorem dX2_measure_60 : decode cX2_measure 60 = .ok (.invokevirtual 55, 3) := by decide +kernel
theorem dX2_measure_63 : decode cX2_measure 63 = .ok (.invokestatic 59, 3) := by decide +kernel
theorem dX2_measure_66 : decode cX2_measure 66 = .ok (.iconst 0, 1) := by decide +kernel
theorem dX2_measure_67 : decode cX2_measure 67 = .ok (.istore 6, 2) := by decide +kernel
theorem dX2_measure_69 : decode cX2_measure 69 = .ok (.iload 6, 2) := by decide +kernel
theorem dX2_measure_71 : decode cX2_measure 71 = .ok (.aload_n 0, 1) := by decide +kernel
theorem dX2_measure_72 : decode cX2_measure 72 = .ok (.getfield 9, 3) := by decide +kernel
theorem dX2_measure_75 : decode cX2_measure 75 = .ok (.if_icmp .ge 52, 3) := by decide +kernel
theorem dX2_measure_78 : decode cX2_measure 78 = .ok (.aload_n 2, 1) := by decide +kernel
theorem dX2_measure_79 : decode cX2_measure 79 = .ok (.aload_n 3, 1) := by decide +kernel
theorem dX2_measure_80 : decode cX2_measure 80 = .ok (.aload_n 0, 1) := by decide +kernel
theorem dX2_measure_81 : decode cX2_measure 81 = .ok (.getfield 15, 3) := by decide +kernel
theorem dX2_measure_84 : decode cX2_measure 84 = .ok (.iload 6, 2) := by decide +kernel
theorem dX2_measure_86 : decode cX2_measure 86 = .ok (.invokestatic 42, 3) := by decide +kernel
theorem dX2_measure_89 : decode cX2_measure 89 = .ok (.invokevirtual 46, 3) := by decide +kernel
theorem dX2_measure_92 : decode cX2_measure 92 = .ok (.invokevirtual 63, 3) := by decide +kernel
theorem dX2_measure_95 : decode cX2_measure 95 = .ok (.istore 7, 2) := by decide +kernel
theorem dX2_measure_97 : decode cX2_measure 97 = .ok (.aload_n 0, 1) := by decide +kernel
theorem dX2_measure_98 : decode cX2_measure 98 = .ok (.getfield 19, 3) := by decide +kernel
theorem dX2_measure_101 : decode cX2_measure 101 = .ok (.iload 6, 2) := by decide +kernel
theorem dX2_measure_103 : decode cX2_measure 103 = .ok (.bipush 7, 2) := by decide +kernel
theorem dX2_measure_105 : decode cX2_measure 105 = .ok (.imul, 1) := by decide +kernel
theorem dX2_measure_106 : decode cX2_measure 106 = .ok (.iload 4, 2) := by decide +kernel
theorem dX2_measure_108 : decode cX2_measure 108 = .ok (.iadd, 1) := by decide +kernel
theorem dX2_measure_109 : decode cX2_measure 109 = .ok (.aload_n 1, 1) := by decide +kernel
theorem dX2_measure_110 : decode cX2_measure 110 = .ok (.aload_n 2, 1) := by decide +kernel
theorem dX2_measure_111 : decode cX2_measure 111 = .ok (.iload 7, 2) := by decide +kernel
theorem dX2_measure_113 : decode cX2_measure 113 = .ok (.iload 5, 2) := by decide +kernel
theorem dX2_measure_115 : decode cX2_measure 115 = .ok (.invokevirtual 55, 3) := by decide +kernel
theorem dX2_measure_118 : decode cX2_measure 118 = .ok (.invokestatic 59, 3) := by decide +kernel
theorem dX2_measure_121 : decode cX2_measure 121 = .ok (.iinc 6 1, 3) := by decide +kernel
theorem dX2_measure_124 : decode cX2_measure 124 = .ok (.goto (-55), 3) := by decide +kernel
theorem dX2_measure_127 : decode cX2_measure 127 = .ok (.iinc 4 1, 3) := by decide +kernel
theorem dX2_measure_130 : decode cX2_measure 130 = .ok (.goto (-111), 3) := by decide +kernel
theorem dX2_measure_133 : decode cX2_measure 133 = .ok (.return_, 1) := by decide +kernel
set_option maxRecDepth 20000 in
theorem ggX2_leg_X4_at : GoodIn wsX2_leg wsX4_at := goodIn_r _ [4] (by decide +kernel) (by decide +kernel)
set_option maxRecDepth 20000 in
theorem gX2_leg_X4_at_n42 : GoodIn wsX2_leg (wsX4_at) := ggX2_leg_X4_at
theorem dX2_leg_0 : decode cX2_leg 0 = .ok (.aload_n 0, 1) := by decide +kernel
theorem dX2_leg_1 : decode cX2_leg 1 = .ok (.getfield 19, 3) := by decide +kernel
theorem dX2_leg_4 : decode cX2_leg 4 = .ok (.iload_n 1, 1) := by decide +kernel
theorem dX2_leg_5 : decode cX2_leg 5 = .ok (.bipush 7, 2) := by decide +kernel
theorem dX2_leg_7 : decode cX2_leg 7 = .ok (.imul, 1) := by decide +kernel
theorem dX2_leg_8 : decode cX2_leg 8 = .ok (.iload_n 2, 1) := by decide +kernel
theorem dX2_leg_9 : decode cX2_leg 9 = .ok (.iadd, 1) := by decide +kernel
theorem dX2_leg_10 : decode cX2_leg 10 = .ok (.invokestatic 42, 3) := by decide +kernel
theorem dX2_leg_13 : decode cX2_leg 13 = .ok (.ireturn, 1) := by decide +kernel
set_option maxRecDepth 20000 in
theorem ggX2_timeOf_X4_at : GoodIn wsX2_timeOf wsX4_at := goodIn_r _ [3] (by decide +kernel) (by decide +kernel)
set_option maxRecDepth 20000 in
theorem gX2_timeOf_X4_at_n42 : GoodIn wsX2_timeOf (wsX4_at) := ggX2_timeOf_X4_at
set_option maxRecDepth 20000 in
theorem ggX2_timeOf_X2_leg : GoodIn wsX2_timeOf wsX2_leg := goodIn_r _ [8, 9, 1, 2, 3, 10, 11, 12, 13, 14, 15] (by decide +kernel) (by decide +kernel)
set_option maxRecDepth 20000 in
theorem gX2_timeOf_X2_leg : GoodIn wsX2_timeOf (wsV RX2 66 RX2 yX2_leg wsX2_leg) := goodIn_app (goodIn_of _ (by decide +kernel)) ggX2_timeOf_X2_leg
theorem dX2_timeOf_0 : decode cX2_timeOf 0 = .ok (.iconst 0, 1) := by decide +kernel
theorem dX2_timeOf_1 : decode cX2_timeOf 1 = .ok (.istore_n 3, 1) := by decide +kernel
theorem dX2_timeOf_2 : decode cX2_timeOf 2 = .ok (.bipush 7, 2) := by decide +kernel
theorem dX2_timeOf_4 : decode cX2_timeOf 4 = .ok (.istore 4, 2) := by decide +kernel
theorem dX2_timeOf_6 : decode cX2_timeOf 6 = .ok (.iconst 0, 1) := by decide +kernel
theorem dX2_timeOf_7 : decode cX2_timeOf 7 = .ok (.istore 5, 2) := by decide +kernel
theorem dX2_timeOf_9 : decode cX2_timeOf 9 = .ok (.iload 5, 2) := by decide +kernel
theorem dX2_timeOf_11 : decode cX2_timeOf 11 = .ok (.iload_n 2, 1) := by decide +kernel
theorem dX2_timeOf_12 : decode cX2_timeOf 12 = .ok (.if_icmp .ge 32, 3) := by decide +kernel
theorem dX2_timeOf_15 : decode cX2_timeOf 15 = .ok (.aload_n 1, 1) := by decide +kernel
theorem dX2_timeOf_16 : decode cX2_timeOf 16 = .ok (.iload 5, 2) := by decide +kernel
theorem dX2_timeOf_18 : decode cX2_timeOf 18 = .ok (.invokestatic 42, 3) := by decide +kernel
theorem dX2_timeOf_21 : decode cX2_timeOf 21 = .ok (.istore 6, 2) := by decide +kernel
theorem dX2_timeOf_23 : decode cX2_timeOf 23 = .ok (.iload_n 3, 1) := by decide +kernel
theorem dX2_timeOf_24 : decode cX2_timeOf 24 = .ok (.aload_n 0, 1) := by decide +kernel
theorem dX2_timeOf_25 : decode cX2_timeOf 25 = .ok (.iload 4, 2) := by decide +kernel
theorem dX2_timeOf_27 : decode cX2_timeOf 27 = .ok (.iload 6, 2) := by decide +kernel
theorem dX2_timeOf_29 : decode cX2_timeOf 29 = .ok (.invokevirtual 66, 3) := by decide +kernel
theorem dX2_timeOf_32 : decode cX2_timeOf 32 = .ok (.iadd, 1) := by decide +kernel
theorem dX2_timeOf_33 : decode cX2_timeOf 33 = .ok (.istore_n 3, 1) := by decide +kernel
theorem dX2_timeOf_34 : decode cX2_timeOf 34 = .ok (.iload 6, 2) := by decide +kernel
theorem dX2_timeOf_36 : decode cX2_timeOf 36 = .ok (.istore 4, 2) := by decide +kernel
theorem dX2_timeOf_38 : decode cX2_timeOf 38 = .ok (.iinc 5 1, 3) := by decide +kernel
theorem dX2_timeOf_41 : decode cX2_timeOf 41 = .ok (.goto (-32), 3) := by decide +kernel
theorem dX2_timeOf_44 : decode cX2_timeOf 44 = .ok (.iload_n 3, 1) := by decide +kernel
theorem dX2_timeOf_45 : decode cX2_timeOf 45 = .ok (.ireturn, 1) := by decide +kernel
set_option maxRecDepth 20000 in
theorem ggX2_bestJobAt_X4_at : GoodIn wsX2_bestJobAt wsX4_at := goodIn_r _ [5] (by decide +kernel) (by decide +kernel)
set_option maxRecDepth 20000 in
theorem gX2_bestJobAt_X4_at_n42 : GoodIn wsX2_bestJobAt (wsX4_at) := ggX2_bestJobAt_X4_at
theorem dX2_bestJobAt_0 : decode cX2_bestJobAt 0 = .ok (.aload_n 0, 1) := by decide +kernel
theorem dX2_bestJobAt_1 : decode cX2_bestJobAt 1 = .ok (.getfield 15, 3) := by decide +kernel
theorem dX2_bestJobAt_4 : decode cX2_bestJobAt 4 = .ok (.aload_n 0, 1) := by decide +kernel
theorem dX2_bestJobAt_5 : decode cX2_bestJobAt 5 = .ok (.getfield 25, 3) := by decide +kernel
theorem dX2_bestJobAt_8 : decode cX2_bestJobAt 8 = .ok (.iload_n 1, 1) := by decide +kernel
theorem dX2_bestJobAt_9 : decode cX2_bestJobAt 9 = .ok (.invokestatic 42, 3) := by decide +kernel
theorem dX2_bestJobAt_12 : decode cX2_bestJobAt 12 = .ok (.invokestatic 42, 3) := by decide +kernel
theorem dX2_bestJobAt_15 : decode cX2_bestJobAt 15 = .ok (.ireturn, 1) := by decide +kernel
set_option maxRecDepth 20000 in
theorem ggX2_findBest_X2_restBehind : GoodIn wsX2_findBest wsX2_restBehind := goodIn_r _ [8, 9, 10, 11, 7, 12, 1, 13, 14, 15, 16, 2, 17, 18, 19, 20, 21, 22, 23, 24, 27, 28, 29, 30, 31, 32] (by decide +kernel) (by decide +kernel)
set_option maxRecDepth 20000 in
theorem gX2_findBest_X2_restBehind : GoodIn wsX2_findBest (wsV RX2 70 RX2 yX2_restBehind wsX2_restBehind) := goodIn_app (goodIn_of _ (by decide +kernel)) ggX2_findBest_X2_restBehind
set_option maxRecDepth 20000 in
theorem ggX2_findBest_X4_put : GoodIn wsX2_findBest wsX4_put := goodIn_r _ [26] (by decide +kernel) (by decide +kernel)
set_option maxRecDepth 20000 in
theorem gX2_findBest_X4_put_n59 : GoodIn wsX2_findBest (wsX4_put) := ggX2_findBest_X4_put
set_option maxRecDepth 20000 in
theorem ggX2_findBest_X2_bestFollower : GoodIn wsX2_findBest wsX2_bestFollower := goodIn_r _ [12, 1, 13, 14, 15, 7, 16, 2, 17, 18, 19, 20, 21, 22, 23, 24, 27, 28, 29, 30, 31, 32] (by decide +kernel) (by decide +kernel)
set_option maxRecDepth 20000 in
theorem gX2_findBest_X2_bestFollower : GoodIn wsX2_findBest (wsV RX2 73 RX2 yX2_bestFollower wsX2_bestFollower) := goodIn_app (goodIn_of _ (by decide +kernel)) ggX2_findBest_X2_bestFollower
theorem dX2_findBest_0 : decode cX2_findBest 0 = .ok (.iconst 1, 1) := by decide +kernel
theorem dX2_findBest_1 : decode cX2_findBest 1 = .ok (.aload_n 0, 1) := by decide +kernel
theorem dX2_findBest_2 : decode cX2_findBest 2 = .ok (.getfield 9, 3) := by decide +kernel
theorem dX2_findBest_5 : decode cX2_findBest 5 = .ok (.ishl, 1) := by decide +kernel
theorem dX2_findBest_6 : decode cX2_findBest 6 = .ok (.iconst 1, 1) := by decide +kernel
theorem dX2_findBest_7 : decode cX2_findBest 7 = .ok (.isub, 1) := by decide +kernel
theorem dX2_findBest_8 : decode cX2_findBest 8 = .ok (.istore_n 1, 1) := by decide +kernel
theorem dX2_findBest_9 : decode cX2_findBest 9 = .ok (.iload_n 1, 1) := by decide +kernel
theorem dX2_findBest_10 : decode cX2_findBest 10 = .ok (.ifCond .le 44, 3) := by decide +kernel
theorem dX2_findBest_13 : decode cX2_findBest 13 = .ok (.iconst 0, 1) := by decide +kernel
theorem dX2_findBest_14 : decode cX2_findBest 14 = .ok (.istore_n 2, 1) := by decide +kernel
theorem dX2_findBest_15 : decode cX2_findBest 15 = .ok (.iload_n 2, 1) := by decide +kernel
theorem dX2_findBest_16 : decode cX2_findBest 16 = .ok (.aload_n 0, 1) := by decide +kernel
theorem dX2_findBest_17 : decode cX2_findBest 17 = .ok (.getfield 9, 3) := by decide +kernel
theorem dX2_findBest_20 : decode cX2_findBest 20 = .ok (.if_icmp .ge 28, 3) := by decide +kernel
theorem dX2_findBest_23 : decode cX2_findBest 23 = .ok (.aload_n 0, 1) := by decide +kernel
theorem dX2_findBest_24 : decode cX2_findBest 24 = .ok (.getfield 22, 3) := by decide +kernel
theorem dX2_findBest_27 : decode cX2_findBest 27 = .ok (.iload_n 1, 1) := by decide +kernel
theorem dX2_findBest_28 : decode cX2_findBest 28 = .ok (.bipush 7, 2) := by decide +kernel
theorem dX2_findBest_30 : decode cX2_findBest 30 = .ok (.imul, 1) := by decide +kernel
theorem dX2_findBest_31 : decode cX2_findBest 31 = .ok (.iload_n 2, 1) := by decide +kernel
theorem dX2_findBest_32 : decode cX2_findBest 32 = .ok (.iadd, 1) := by decide +kernel
theorem dX2_findBest_33 : decode cX2_findBest 33 = .ok (.aload_n 0, 1) := by decide +kernel
theorem dX2_findBest_34 : decode cX2_findBest 34 = .ok (.iload_n 1, 1) := by decide +kernel
theorem dX2_findBest_35 : decode cX2_findBest 35 = .ok (.iload_n 2, 1) := by decide +kernel
theorem dX2_findBest_36 : decode cX2_findBest 36 = .ok (.invokevirtual 70, 3) := by decide +kernel
theorem dX2_findBest_39 : decode cX2_findBest 39 = .ok (.invokestatic 59, 3) := by decide +kernel
theorem dX2_findBest_42 : decode cX2_findBest 42 = .ok (.iinc 2 1, 3) := by decide +kernel
theorem dX2_findBest_45 : decode cX2_findBest 45 = .ok (.goto (-30), 3) := by decide +kernel
theorem dX2_findBest_48 : decode cX2_findBest 48 = .ok (.iinc 1 (-1), 3) := by decide +kernel
theorem dX2_findBest_51 : decode cX2_findBest 51 = .ok (.goto (-42), 3) := by decide +kernel
theorem dX2_findBest_54 : decode cX2_findBest 54 = .ok (.iconst 0, 1) := by decide +kernel
theorem dX2_findBest_55 : decode cX2_findBest 55 = .ok (.istore_n 1, 1) := by decide +kernel
theorem dX2_findBest_56 : decode cX2_findBest 56 = .ok (.bipush 7, 2) := by decide +kernel
theorem dX2_findBest_58 : decode cX2_findBest 58 = .ok (.istore_n 2, 1) := by decide +kernel
theorem dX2_findBest_59 : decode cX2_findBest 59 = .ok (.iconst 0, 1) := by decide +kernel
theorem dX2_findBest_60 : decode cX2_findBest 60 = .ok (.istore_n 3, 1) := by decide +kernel
theorem dX2_findBest_61 : decode cX2_findBest 61 = .ok (.iload_n 3, 1) := by decide +kernel
theorem dX2_findBest_62 : decode cX2_findBest 62 = .ok (.aload_n 0, 1) := by decide +kernel
theorem dX2_findBest_63 : decode cX2_findBest 63 = .ok (.getfield 9, 3) := by decide +kernel
theorem dX2_findBest_66 : decode cX2_findBest 66 = .ok (.if_icmp .ge 31, 3) := by decide +kernel
theorem dX2_findBest_69 : decode cX2_findBest 69 = .ok (.aload_n 0, 1) := by decide +kernel
theorem dX2_findBest_70 : decode cX2_findBest 70 = .ok (.iload_n 1, 1) := by decide +kernel
theorem dX2_findBest_71 : decode cX2_findBest 71 = .ok (.iload_n 2, 1) := by decide +kernel
theorem dX2_findBest_72 : decode cX2_findBest 72 = .ok (.invokevirtual 73, 3) := by decide +kernel
theorem dX2_findBest_75 : decode cX2_findBest 75 = .ok (.istore_n 2, 1) := by decide +kernel
theorem dX2_findBest_76 : decode cX2_findBest 76 = .ok (.aload_n 0, 1) := by decide +kernel
theorem dX2_findBest_77 : decode cX2_findBest 77 = .ok (.getfield 25, 3) := by decide +kernel
theorem dX2_findBest_80 : decode cX2_findBest 80 = .ok (.iload_n 3, 1) := by decide +kernel
theorem dX2_findBest_81 : decode cX2_findBest 81 = .ok (.iload_n 2, 1) := by decide +kernel
theorem dX2_findBest_82 : decode cX2_findBest 82 = .ok (.invokestatic 59, 3) := by decide +kernel
theorem dX2_findBest_85 : decode cX2_findBest 85 = .ok (.iload_n 1, 1) := by decide +kernel
theorem dX2_findBest_86 : decode cX2_findBest 86 = .ok (.iconst 1, 1) := by decide +kernel
theorem dX2_findBest_87 : decode cX2_findBest 87 = .ok (.iload_n 2, 1) := by decide +kernel
theorem dX2_findBest_88 : decode cX2_findBest 88 = .ok (.ishl, 1) := by decide +kernel
theorem dX2_findBest_89 : decode cX2_findBest 89 = .ok (.ior, 1) := by decide +kernel
theorem dX2_findBest_90 : decode cX2_findBest 90 = .ok (.istore_n 1, 1) := by decide +kernel
theorem dX2_findBest_91 : decode cX2_findBest 91 = .ok (.iinc 3 1, 3) := by decide +kernel
theorem dX2_findBest_94 : decode cX2_findBest 94 = .ok (.goto (-33), 3) := by decide +kernel
theorem dX2_findBest_97 : decode cX2_findBest 97 = .ok (.return_, 1) := by decide +kernel
set_option maxRecDepth 20000 in
theorem ggX2_restBehind_X2_bestFollower : GoodIn wsX2_restBehind wsX2_bestFollower := goodIn_r _ [5, 6, 7, 8, 9, 4, 10, 11, 12, 13, 14, 15, 16, 17, 18, 19, 20, 21, 22, 23, 24, 25] (by decide +kernel) (by decide +kernel)
set_option maxRecDepth 20000 in
theorem gX2_restBehind_X2_bestFollower : GoodIn wsX2_restBehind (wsV RX2 73 RX2 yX2_bestFollower wsX2_bestFollower) := goodIn_app (goodIn_of _ (by decide +kernel)) ggX2_restBehind_X2_bestFollower
set_option maxRecDepth 20000 in
theorem ggX2_restBehind_X2_restThrough : GoodIn wsX2_restBehind wsX2_restThrough := goodIn_r _ [10, 11, 12, 13, 14, 4, 15, 16, 17, 18, 19, 20, 21, 22, 23, 24, 25] (by decide +kernel) (by decide +kernel)
set_option maxRecDepth 20000 in
theorem gX2_restBehind_X2_restThrough : GoodIn wsX2_restBehind (wsV RX2 76 RX2 yX2_restThrough wsX2_restThrough) := goodIn_app (goodIn_of _ (by decide +kernel)) ggX2_restBehind_X2_restThrough
theorem dX2_restBehind_0 : decode cX2_restBehind 0 = .ok (.aload_n 0, 1) := by decide +kernel
theorem dX2_restBehind_1 : decode cX2_restBehind 1 = .ok (.iload_n 1, 1) := by decide +kernel
theorem dX2_restBehind_2 : decode cX2_restBehind 2 = .ok (.iload_n 2, 1) := by decide +kernel
theorem dX2_restBehind_3 : decode cX2_restBehind 3 = .ok (.invokevirtual 73, 3) := by decide +kernel
theorem dX2_restBehind_6 : decode cX2_restBehind 6 = .ok (.istore_n 3, 1) := by decide +kernel
theorem dX2_restBehind_7 : decode cX2_restBehind 7 = .ok (.iload_n 3, 1) := by decide +kernel
theorem dX2_restBehind_8 : decode cX2_restBehind 8 = .ok (.iconst (-1), 1) := by decide +kernel
theorem dX2_restBehind_9 : decode cX2_restBehind 9 = .ok (.if_icmp .ne 7, 3) := by decide +kernel
theorem dX2_restBehind_12 : decode cX2_restBehind 12 = .ok (.iconst 0, 1) := by decide +kernel
theorem dX2_restBehind_13 : decode cX2_restBehind 13 = .ok (.goto 10, 3) := by decide +kernel
theorem dX2_restBehind_16 : decode cX2_restBehind 16 = .ok (.aload_n 0, 1) := by decide +kernel
theorem dX2_restBehind_17 : decode cX2_restBehind 17 = .ok (.iload_n 1, 1) := by decide +kernel
theorem dX2_restBehind_18 : decode cX2_restBehind 18 = .ok (.iload_n 2, 1) := by decide +kernel
theorem dX2_restBehind_19 : decode cX2_restBehind 19 = .ok (.iload_n 3, 1) := by decide +kernel
theorem dX2_restBehind_20 : decode cX2_restBehind 20 = .ok (.invokevirtual 76, 3) := by decide +kernel
theorem dX2_restBehind_23 : decode cX2_restBehind 23 = .ok (.ireturn, 1) := by decide +kernel
set_option maxRecDepth 20000 in
theorem ggX2_restThrough_X2_leg : GoodIn wsX2_restThrough wsX2_leg := goodIn_r _ [6, 7, 8, 9, 10, 11, 12, 13, 14, 15, 16] (by decide +kernel) (by decide +kernel)
set_option maxRecDepth 20000 in
theorem gX2_restThrough_X2_leg : GoodIn wsX2_restThrough (wsV RX2 66 RX2 yX2_leg wsX2_leg) := goodIn_app (goodIn_of _ (by decide +kernel)) ggX2_restThrough_X2_leg
set_option maxRecDepth 20000 in
theorem ggX2_restThrough_X4_at : GoodIn wsX2_restThrough wsX4_at := goodIn_r _ [10] (by decide +kernel) (by decide +kernel)
set_option maxRecDepth 20000 in
theorem gX2_restThrough_X4_at_n42 : GoodIn wsX2_restThrough (wsX4_at) := ggX2_restThrough_X4_at
theorem dX2_restThrough_0 : decode cX2_restThrough 0 = .ok (.aload_n 0, 1) := by decide +kernel
theorem dX2_restThrough_1 : decode cX2_restThrough 1 = .ok (.iload_n 2, 1) := by decide +kernel
theorem dX2_restThrough_2 : decode cX2_restThrough 2 = .ok (.iload_n 3, 1) := by decide +kernel
theorem dX2_restThrough_3 : decode cX2_restThrough 3 = .ok (.invokevirtual 66, 3) := by decide +kernel
theorem dX2_restThrough_6 : decode cX2_restThrough 6 = .ok (.aload_n 0, 1) := by decide +kernel
theorem dX2_restThrough_7 : decode cX2_restThrough 7 = .ok (.getfield 22, 3) := by decide +kernel
theorem dX2_restThrough_10 : decode cX2_restThrough 10 = .ok (.iload_n 1, 1) := by decide +kernel
theorem dX2_restThrough_11 : decode cX2_restThrough 11 = .ok (.iconst 1, 1) := by decide +kernel
theorem dX2_restThrough_12 : decode cX2_restThrough 12 = .ok (.iload_n 3, 1) := by decide +kernel
theorem dX2_restThrough_13 : decode cX2_restThrough 13 = .ok (.ishl, 1) := by decide +kernel
theorem dX2_restThrough_14 : decode cX2_restThrough 14 = .ok (.ior, 1) := by decide +kernel
theorem dX2_restThrough_15 : decode cX2_restThrough 15 = .ok (.bipush 7, 2) := by decide +kernel
theorem dX2_restThrough_17 : decode cX2_restThrough 17 = .ok (.imul, 1) := by decide +kernel
theorem dX2_restThrough_18 : decode cX2_restThrough 18 = .ok (.iload_n 3, 1) := by decide +kernel
theorem dX2_restThrough_19 : decode cX2_restThrough 19 = .ok (.iadd, 1) := by decide +kernel
theorem dX2_restThrough_20 : decode cX2_restThrough 20 = .ok (.invokestatic 42, 3) := by decide +kernel
theorem dX2_restThrough_23 : decode cX2_restThrough 23 = .ok (.iadd, 1) := by decide +kernel
theorem dX2_restThrough_24 : decode cX2_restThrough 24 = .ok (.ireturn, 1) := by decide +kernel
set_option maxRecDepth 20000 in
theorem ggX2_bestFollower_X2_restThrough : GoodIn wsX2_bestFollower wsX2_restThrough := goodIn_r _ [6, 7, 8, 9, 10, 5, 11, 12, 13, 14, 15, 16, 17, 18, 19, 20, 21] (by decide +kernel) (by decide +kernel)
set_option maxRecDepth 20000 in
theorem gX2_bestFollower_X2_restThrough : GoodIn wsX2_bestFollower (wsV RX2 76 RX2 yX2_restThrough wsX2_restThrough) := goodIn_app (goodIn_of _ (by decide +kernel)) ggX2_bestFollower_X2_restThrough
theorem dX2_bestFollower_0 : decode cX2_bestFollower 0 = .ok (.iconst (-1), 1) := by decide +kernel
theorem dX2_bestFollower_1 : decode cX2_bestFollower 1 = .ok (.istore_n 3, 1) := by decide +kernel
theorem dX2_bestFollower_2 : decode cX2_bestFollower 2 = .ok (.iconst 0, 1) := by decide +kernel
theorem dX2_bestFollower_3 : decode cX2_bestFollower 3 = .ok (.istore 4, 2) := by decide +kernel
theorem dX2_bestFollower_5 : decode cX2_bestFollower 5 = .ok (.iconst 0, 1) := by decide +kernel
theorem dX2_bestFollower_6 : decode cX2_bestFollower 6 = .ok (.istore 5, 2) := by decide +kernel
theorem dX2_bestFollower_8 : decode cX2_bestFollower 8 = .ok (.iload 5, 2) := by decide +kernel
theorem dX2_bestFollower_10 : decode cX2_bestFollower 10 = .ok (.aload_n 0, 1) := by decide +kernel
theorem dX2_bestFollower_11 : decode cX2_bestFollower 11 = .ok (.getfield 9, 3) := by decide +kernel
theorem dX2_bestFollower_14 : decode cX2_bestFollower 14 = .ok (.if_icmp .ge 47, 3) := by decide +kernel
theorem dX2_bestFollower_17 : decode cX2_bestFollower 17 = .ok (.iload_n 1, 1) := by decide +kernel
theorem dX2_bestFollower_18 : decode cX2_bestFollower 18 = .ok (.iload 5, 2) := by decide +kernel
theorem dX2_bestFollower_20 : decode cX2_bestFollower 20 = .ok (.ishr, 1) := by decide +kernel
theorem dX2_bestFollower_21 : decode cX2_bestFollower 21 = .ok (.iconst 1, 1) := by decide +kernel
theorem dX2_bestFollower_22 : decode cX2_bestFollower 22 = .ok (.iand, 1) := by decide +kernel
theorem dX2_bestFollower_23 : decode cX2_bestFollower 23 = .ok (.ifCond .ne 32, 3) := by decide +kernel
theorem dX2_bestFollower_26 : decode cX2_bestFollower 26 = .ok (.aload_n 0, 1) := by decide +kernel
theorem dX2_bestFollower_27 : decode cX2_bestFollower 27 = .ok (.iload_n 1, 1) := by decide +kernel
theorem dX2_bestFollower_28 : decode cX2_bestFollower 28 = .ok (.iload_n 2, 1) := by decide +kernel
theorem dX2_bestFollower_29 : decode cX2_bestFollower 29 = .ok (.iload 5, 2) := by decide +kernel
theorem dX2_bestFollower_31 : decode cX2_bestFollower 31 = .ok (.invokevirtual 76, 3) := by decide +kernel
theorem dX2_bestFollower_34 : decode cX2_bestFollower 34 = .ok (.istore 6, 2) := by decide +kernel
theorem dX2_bestFollower_36 : decode cX2_bestFollower 36 = .ok (.iload_n 3, 1) := by decide +kernel
theorem dX2_bestFollower_37 : decode cX2_bestFollower 37 = .ok (.iconst (-1), 1) := by decide +kernel
theorem dX2_bestFollower_38 : decode cX2_bestFollower 38 = .ok (.if_icmp .eq 10, 3) := by decide +kernel
theorem dX2_bestFollower_41 : decode cX2_bestFollower 41 = .ok (.iload 6, 2) := by decide +kernel
theorem dX2_bestFollower_43 : decode cX2_bestFollower 43 = .ok (.iload 4, 2) := by decide +kernel
theorem dX2_bestFollower_45 : decode cX2_bestFollower 45 = .ok (.if_icmp .ge 10, 3) := by decide +kernel
theorem dX2_bestFollower_48 : decode cX2_bestFollower 48 = .ok (.iload 5, 2) := by decide +kernel
theorem dX2_bestFollower_50 : decode cX2_bestFollower 50 = .ok (.istore_n 3, 1) := by decide +kernel
theorem dX2_bestFollower_51 : decode cX2_bestFollower 51 = .ok (.iload 6, 2) := by decide +kernel
theorem dX2_bestFollower_53 : decode cX2_bestFollower 53 = .ok (.istore 4, 2) := by decide +kernel
theorem dX2_bestFollower_55 : decode cX2_bestFollower 55 = .ok (.iinc 5 1, 3) := by decide +kernel
theorem dX2_bestFollower_58 : decode cX2_bestFollower 58 = .ok (.goto (-50), 3) := by decide +kernel
theorem dX2_bestFollower_61 : decode cX2_bestFollower 61 = .ok (.iload_n 3, 1) := by decide +kernel
theorem dX2_bestFollower_62 : decode cX2_bestFollower 62 = .ok (.ireturn, 1) := by decide +kernel
set_option maxRecDepth 20000 in
theorem ggX2_timeByTrying_X4_put : GoodIn wsX2_timeByTrying wsX4_put := goodIn_r _ [9] (by decide +kernel) (by decide +kernel)
set_option maxRecDepth 20000 in
theorem gX2_timeByTrying_X4_put_n59 : GoodIn wsX2_timeByTrying (wsX4_put) := ggX2_timeByTrying_X4_put
set_option maxRecDepth 20000 in
theorem ggX2_timeByTrying_X2_timeOf : GoodIn wsX2_timeByTrying wsX2_timeOf := goodIn_r _ [14, 15, 8, 16, 17, 18, 19, 13, 20, 21, 30, 31, 32, 33, 34, 35] (by decide +kernel) (by decide +kernel)
set_option maxRecDepth 20000 in
theorem gX2_timeByTrying_X2_timeOf : GoodIn wsX2_timeByTrying (wsV RX2 80 RX2 yX2_timeOf wsX2_timeOf) := goodIn_app (goodIn_of _ (by decide +kernel)) ggX2_timeByTrying_X2_timeOf
set_option maxRecDepth 20000 in
theorem ggX2_timeByTrying_X2_advanceOrder : GoodIn wsX2_timeByTrying wsX2_advanceOrder := goodIn_r _ [25, 1, 2, 15, 8, 16, 26, 27, 28, 13, 29, 7, 9, 30, 31, 32, 33, 34, 35] (by decide +kernel) (by decide +kernel)
set_option maxRecDepth 20000 in
theorem gX2_timeByTrying_X2_advanceOrder : GoodIn wsX2_timeByTrying (wsV RX2 83 RX2 yX2_advanceOrder wsX2_advanceOrder) := goodIn_app (goodIn_of _ (by decide +kernel)) ggX2_timeByTrying_X2_advanceOrder
theorem dX2_timeByTrying_0 : decode cX2_timeByTrying 0 = .ok (.iconst 0, 1) := by decide +kernel
theorem dX2_timeByTrying_1 : decode cX2_timeByTrying 1 = .ok (.istore_n 1, 1) := by decide +kernel
theorem dX2_timeByTrying_2 : decode cX2_timeByTrying 2 = .ok (.iload_n 1, 1) := by decide +kernel
theorem dX2_timeByTrying_3 : decode cX2_timeByTrying 3 = .ok (.aload_n 0, 1) := by decide +kernel
theorem dX2_timeByTrying_4 : decode cX2_timeByTrying 4 = .ok (.getfield 9, 3) := by decide +kernel
theorem dX2_timeByTrying_7 : decode cX2_timeByTrying 7 = .ok (.if_icmp .ge 18, 3) := by decide +kernel
theorem dX2_timeByTrying_10 : decode cX2_timeByTrying 10 = .ok (.aload_n 0, 1) := by decide +kernel
theorem dX2_timeByTrying_11 : decode cX2_timeByTrying 11 = .ok (.getfield 28, 3) := by decide +kernel
theorem dX2_timeByTrying_14 : decode cX2_timeByTrying 14 = .ok (.iload_n 1, 1) := by decide +kernel
theorem dX2_timeByTrying_15 : decode cX2_timeByTrying 15 = .ok (.iload_n 1, 1) := by decide +kernel
theorem dX2_timeByTrying_16 : decode cX2_timeByTrying 16 = .ok (.invokestatic 59, 3) := by decide +kernel
theorem dX2_timeByTrying_19 : decode cX2_timeByTrying 19 = .ok (.iinc 1 1, 3) := by decide +kernel
theorem dX2_timeByTrying_22 : decode cX2_timeByTrying 22 = .ok (.goto (-20), 3) := by decide +kernel
theorem dX2_timeByTrying_25 : decode cX2_timeByTrying 25 = .ok (.aload_n 0, 1) := by decide +kernel
theorem dX2_timeByTrying_26 : decode cX2_timeByTrying 26 = .ok (.aload_n 0, 1) := by decide +kernel
theorem dX2_timeByTrying_27 : decode cX2_timeByTrying 27 = .ok (.getfield 28, 3) := by decide +kernel
theorem dX2_timeByTrying_30 : decode cX2_timeByTrying 30 = .ok (.aload_n 0, 1) := by decide +kernel
theorem dX2_timeByTrying_31 : decode cX2_timeByTrying 31 = .ok (.getfield 9, 3) := by decide +kernel
theorem dX2_timeByTrying_34 : decode cX2_timeByTrying 34 = .ok (.invokevirtual 80, 3) := by decide +kernel
theorem dX2_timeByTrying_37 : decode cX2_timeByTrying 37 = .ok (.istore_n 1, 1) := by decide +kernel
theorem dX2_timeByTrying_38 : decode cX2_timeByTrying 38 = .ok (.iconst 1, 1) := by decide +kernel
theorem dX2_timeByTrying_39 : decode cX2_timeByTrying 39 = .ok (.istore_n 2, 1) := by decide +kernel
theorem dX2_timeByTrying_40 : decode cX2_timeByTrying 40 = .ok (.iload_n 2, 1) := by decide +kernel
theorem dX2_timeByTrying_41 : decode cX2_timeByTrying 41 = .ok (.sipush 5040, 3) := by decide +kernel
theorem dX2_timeByTrying_44 : decode cX2_timeByTrying 44 = .ok (.if_icmp .ge 33, 3) := by decide +kernel
theorem dX2_timeByTrying_47 : decode cX2_timeByTrying 47 = .ok (.aload_n 0, 1) := by decide +kernel
theorem dX2_timeByTrying_48 : decode cX2_timeByTrying 48 = .ok (.invokevirtual 83, 3) := by decide +kernel
theorem dX2_timeByTrying_51 : decode cX2_timeByTrying 51 = .ok (.ifCond .eq 26, 3) := by decide +kernel
theorem dX2_timeByTrying_54 : decode cX2_timeByTrying 54 = .ok (.iload_n 1, 1) := by decide +kernel
theorem dX2_timeByTrying_55 : decode cX2_timeByTrying 55 = .ok (.aload_n 0, 1) := by decide +kernel
theorem dX2_timeByTrying_56 : decode cX2_timeByTrying 56 = .ok (.aload_n 0, 1) := by decide +kernel
theorem dX2_timeByTrying_57 : decode cX2_timeByTrying 57 = .ok (.getfield 28, 3) := by decide +kernel
theorem dX2_timeByTrying_60 : decode cX2_timeByTrying 60 = .ok (.aload_n 0, 1) := by decide +kernel
theorem dX2_timeByTrying_61 : decode cX2_timeByTrying 61 = .ok (.getfield 9, 3) := by decide +kernel
theorem dX2_timeByTrying_64 : decode cX2_timeByTrying 64 = .ok (.invokevirtual 80, 3) := by decide +kernel
theorem dX2_timeByTrying_67 : decode cX2_timeByTrying 67 = .ok (.invokestatic 87, 3) := by decide +kernel
theorem dX2_timeByTrying_70 : decode cX2_timeByTrying 70 = .ok (.istore_n 1, 1) := by decide +kernel
theorem dX2_timeByTrying_71 : decode cX2_timeByTrying 71 = .ok (.iinc 2 1, 3) := by decide +kernel
theorem dX2_timeByTrying_74 : decode cX2_timeByTrying 74 = .ok (.goto (-34), 3) := by decide +kernel
theorem dX2_timeByTrying_77 : decode cX2_timeByTrying 77 = .ok (.iload_n 1, 1) := by decide +kernel
theorem dX2_timeByTrying_78 : decode cX2_timeByTrying 78 = .ok (.ireturn, 1) := by decide +kernel
set_option maxRecDepth 20000 in
theorem ggX2_advanceOrder_X4_at : GoodIn wsX2_advanceOrder wsX4_at := goodIn_r _ [5] (by decide +kernel) (by decide +kernel)
set_option maxRecDepth 20000 in
theorem gX2_advanceOrder_X4_at_n42 : GoodIn wsX2_advanceOrder (wsX4_at) := ggX2_advanceOrder_X4_at
set_option maxRecDepth 20000 in
theorem ggX2_advanceOrder_X2_swap : GoodIn wsX2_advanceOrder wsX2_swap := goodIn_r _ [10, 2, 3, 4, 5, 11, 12, 13, 14, 15, 16, 17, 18] (by decide +kernel) (by decide +kernel)
set_option maxRecDepth 20000 in
theorem gX2_advanceOrder_X2_swap : GoodIn wsX2_advanceOrder (wsV RX2 92 RX2 yX2_swap wsX2_swap) := goodIn_app (goodIn_of _ (by decide +kernel)) ggX2_advanceOrder_X2_swap
theorem dX2_advanceOrder_0 : decode cX2_advanceOrder 0 = .ok (.aload_n 0, 1) := by decide +kernel
theorem dX2_advanceOrder_1 : decode cX2_advanceOrder 1 = .ok (.getfield 9, 3) := by decide +kernel
theorem dX2_advanceOrder_4 : decode cX2_advanceOrder 4 = .ok (.iconst 2, 1) := by decide +kernel
theorem dX2_advanceOrder_5 : decode cX2_advanceOrder 5 = .ok (.isub, 1) := by decide +kernel
theorem dX2_advanceOrder_6 : decode cX2_advanceOrder 6 = .ok (.istore_n 1, 1) := by decide +kernel
theorem dX2_advanceOrder_7 : decode cX2_advanceOrder 7 = .ok (.iload_n 1, 1) := by decide +kernel
theorem dX2_advanceOrder_8 : decode cX2_advanceOrder 8 = .ok (.ifCond .lt 30, 3) := by decide +kernel
theorem dX2_advanceOrder_11 : decode cX2_advanceOrder 11 = .ok (.aload_n 0, 1) := by decide +kernel
theorem dX2_advanceOrder_12 : decode cX2_advanceOrder 12 = .ok (.getfield 28, 3) := by decide +kernel
theorem dX2_advanceOrder_15 : decode cX2_advanceOrder 15 = .ok (.iload_n 1, 1) := by decide +kernel
theorem dX2_advanceOrder_16 : decode cX2_advanceOrder 16 = .ok (.invokestatic 42, 3) := by decide +kernel
theorem dX2_advanceOrder_19 : decode cX2_advanceOrder 19 = .ok (.aload_n 0, 1) := by decide +kernel
theorem dX2_advanceOrder_20 : decode cX2_advanceOrder 20 = .ok (.getfield 28, 3) := by decide +kernel
theorem dX2_advanceOrder_23 : decode cX2_advanceOrder 23 = .ok (.iload_n 1, 1) := by decide +kernel
theorem dX2_advanceOrder_24 : decode cX2_advanceOrder 24 = .ok (.iconst 1, 1) := by decide +kernel
theorem dX2_advanceOrder_25 : decode cX2_advanceOrder 25 = .ok (.iadd, 1) := by decide +kernel
theorem dX2_advanceOrder_26 : decode cX2_advanceOrder 26 = .ok (.invokestatic 42, 3) := by decide +kernel
theorem dX2_advanceOrder_29 : decode cX2_advanceOrder 29 = .ok (.if_icmp .le 9, 3) := by decide +kernel
theorem dX2_advanceOrder_32 : decode cX2_advanceOrder 32 = .ok (.iinc 1 (-1), 3) := by decide +kernel
theorem dX2_advanceOrder_35 : decode cX2_advanceOrder 35 = .ok (.goto (-28), 3) := by decide +kernel
theorem dX2_advanceOrder_38 : decode cX2_advanceOrder 38 = .ok (.iload_n 1, 1) := by decide +kernel
theorem dX2_advanceOrder_39 : decode cX2_advanceOrder 39 = .ok (.ifCond .ge 5, 3) := by decide +kernel
theorem dX2_advanceOrder_42 : decode cX2_advanceOrder 42 = .ok (.iconst 0, 1) := by decide +kernel
theorem dX2_advanceOrder_43 : decode cX2_advanceOrder 43 = .ok (.ireturn, 1) := by decide +kernel
theorem dX2_advanceOrder_44 : decode cX2_advanceOrder 44 = .ok (.aload_n 0, 1) := by decide +kernel
theorem dX2_advanceOrder_45 : decode cX2_advanceOrder 45 = .ok (.getfield 9, 3) := by decide +kernel
theorem dX2_advanceOrder_48 : decode cX2_advanceOrder 48 = .ok (.iconst 1, 1) := by decide +kernel
theorem dX2_advanceOrder_49 : decode cX2_advanceOrder 49 = .ok (.isub, 1) := by decide +kernel
theorem dX2_advanceOrder_50 : decode cX2_advanceOrder 50 = .ok (.istore_n 2, 1) := by decide +kernel
theorem dX2_advanceOrder_51 : decode cX2_advanceOrder 51 = .ok (.iload_n 2, 1) := by decide +kernel
theorem dX2_advanceOrder_52 : decode cX2_advanceOrder 52 = .ok (.iload_n 1, 1) := by decide +kernel
theorem dX2_advanceOrder_53 : decode cX2_advanceOrder 53 = .ok (.if_icmp .le 28, 3) := by decide +kernel
theorem dX2_advanceOrder_56 : decode cX2_advanceOrder 56 = .ok (.aload_n 0, 1) := by decide +kernel
theorem dX2_advanceOrder_57 : decode cX2_advanceOrder 57 = .ok (.getfield 28, 3) := by decide +kernel
theorem dX2_advanceOrder_60 : decode cX2_advanceOrder 60 = .ok (.iload_n 2, 1) := by decide +kernel
theorem dX2_advanceOrder_61 : decode cX2_advanceOrder 61 = .ok (.invokestatic 42, 3) := by decide +kernel
theorem dX2_advanceOrder_64 : decode cX2_advanceOrder 64 = .ok (.aload_n 0, 1) := by decide +kernel
theorem dX2_advanceOrder_65 : decode cX2_advanceOrder 65 = .ok (.getfield 28, 3) := by decide +kernel
theorem dX2_advanceOrder_68 : decode cX2_advanceOrder 68 = .ok (.iload_n 1, 1) := by decide +kernel
theorem dX2_advanceOrder_69 : decode cX2_advanceOrder 69 = .ok (.invokestatic 42, 3) := by decide +kernel
theorem dX2_advanceOrder_72 : decode cX2_advanceOrder 72 = .ok (.if_icmp .ge 9, 3) := by decide +kernel
theorem dX2_advanceOrder_75 : decode cX2_advanceOrder 75 = .ok (.iinc 2 (-1), 3) := by decide +kernel
theorem dX2_advanceOrder_78 : decode cX2_advanceOrder 78 = .ok (.goto (-27), 3) := by decide +kernel
theorem dX2_advanceOrder_81 : decode cX2_advanceOrder 81 = .ok (.aload_n 0, 1) := by decide +kernel
theorem dX2_advanceOrder_82 : decode cX2_advanceOrder 82 = .ok (.iload_n 1, 1) := by decide +kernel
theorem dX2_advanceOrder_83 : decode cX2_advanceOrder 83 = .ok (.iload_n 2, 1) := by decide +kernel
theorem dX2_advanceOrder_84 : decode cX2_advanceOrder 84 = .ok (.invokevirtual 92, 3) := by decide +kernel
theorem dX2_advanceOrder_87 : decode cX2_advanceOrder 87 = .ok (.iload_n 1, 1) := by decide +kernel
theorem dX2_advanceOrder_88 : decode cX2_advanceOrder 88 = .ok (.iconst 1, 1) := by decide +kernel
theorem dX2_advanceOrder_89 : decode cX2_advanceOrder 89 = .ok (.iadd, 1) := by decide +kernel
theorem dX2_advanceOrder_90 : decode cX2_advanceOrder 90 = .ok (.istore_n 3, 1) := by decide +kernel
theorem dX2_advanceOrder_91 : decode cX2_advanceOrder 91 = .ok (.aload_n 0, 1) := by decide +kernel
theorem dX2_advanceOrder_92 : decode cX2_advanceOrder 92 = .ok (.getfield 9, 3) := by decide +kernel
theorem dX2_advanceOrder_95 : decode cX2_advanceOrder 95 = .ok (.iconst 1, 1) := by decide +kernel
theorem dX2_advanceOrder_96 : decode cX2_advanceOrder 96 = .ok (.isub, 1) := by decide +kernel
theorem dX2_advanceOrder_97 : decode cX2_advanceOrder 97 = .ok (.istore 4, 2) := by decide +kernel
theorem dX2_advanceOrder_99 : decode cX2_advanceOrder 99 = .ok (.iload_n 3, 1) := by decide +kernel
theorem dX2_advanceOrder_100 : decode cX2_advanceOrder 100 = .ok (.iload 4, 2) := by decide +kernel
theorem dX2_advanceOrder_102 : decode cX2_advanceOrder 102 = .ok (.if_icmp .ge 19, 3) := by decide +kernel
theorem dX2_advanceOrder_105 : decode cX2_advanceOrder 105 = .ok (.aload_n 0, 1) := by decide +kernel
theorem dX2_advanceOrder_106 : decode cX2_advanceOrder 106 = .ok (.iload_n 3, 1) := by decide +kernel
theorem dX2_advanceOrder_107 : decode cX2_advanceOrder 107 = .ok (.iload 4, 2) := by decide +kernel
theorem dX2_advanceOrder_109 : decode cX2_advanceOrder 109 = .ok (.invokevirtual 92, 3) := by decide +kernel
theorem dX2_advanceOrder_112 : decode cX2_advanceOrder 112 = .ok (.iinc 3 1, 3) := by decide +kernel
theorem dX2_advanceOrder_115 : decode cX2_advanceOrder 115 = .ok (.iinc 4 (-1), 3) := by decide +kernel
theorem dX2_advanceOrder_118 : decode cX2_advanceOrder 118 = .ok (.goto (-19), 3) := by decide +kernel
theorem dX2_advanceOrder_121 : decode cX2_advanceOrder 121 = .ok (.iconst 1, 1) := by decide +kernel
theorem dX2_advanceOrder_122 : decode cX2_advanceOrder 122 = .ok (.ireturn, 1) := by decide +kernel
set_option maxRecDepth 20000 in
theorem ggX2_timeByInsertion_X2_insert : GoodIn wsX2_timeByInsertion wsX2_insert := goodIn_r _ [7, 2, 8, 9, 10, 11, 12, 13, 6, 14, 15, 16, 17, 18, 19, 20, 21, 22, 23, 24, 25, 26, 27, 28, 29, 30, 31] (by decide +kernel) (by decide +kernel)
set_option maxRecDepth 20000 in
theorem gX2_timeByInsertion_X2_insert : GoodIn wsX2_timeByInsertion (wsV RX2 96 RX2 yX2_insert wsX2_insert) := goodIn_app (goodIn_of _ (by decide +kernel)) ggX2_timeByInsertion_X2_insert
set_option maxRecDepth 20000 in
theorem ggX2_timeByInsertion_X2_timeOf : GoodIn wsX2_timeByInsertion wsX2_timeOf := goodIn_r _ [14, 15, 9, 16, 17, 18, 19, 6, 20, 21, 26, 27, 28, 29, 30, 31] (by decide +kernel) (by decide +kernel)
set_option maxRecDepth 20000 in
theorem gX2_timeByInsertion_X2_timeOf : GoodIn wsX2_timeByInsertion (wsV RX2 80 RX2 yX2_timeOf wsX2_timeOf) := goodIn_app (goodIn_of _ (by decide +kernel)) ggX2_timeByInsertion_X2_timeOf
theorem dX2_timeByInsertion_0 : decode cX2_timeByInsertion 0 = .ok (.iconst 0, 1) := by decide +kernel
theorem dX2_timeByInsertion_1 : decode cX2_timeByInsertion 1 = .ok (.istore_n 1, 1) := by decide +kernel
theorem dX2_timeByInsertion_2 : decode cX2_timeByInsertion 2 = .ok (.iload_n 1, 1) := by decide +kernel
theorem dX2_timeByInsertion_3 : decode cX2_timeByInsertion 3 = .ok (.aload_n 0, 1) := by decide +kernel
theorem dX2_timeByInsertion_4 : decode cX2_timeByInsertion 4 = .ok (.getfield 9, 3) := by decide +kernel
theorem dX2_timeByInsertion_7 : decode cX2_timeByInsertion 7 = .ok (.if_icmp .ge 14, 3) := by decide +kernel
theorem dX2_timeByInsertion_10 : decode cX2_timeByInsertion 10 = .ok (.aload_n 0, 1) := by decide +kernel
theorem dX2_timeByInsertion_11 : decode cX2_timeByInsertion 11 = .ok (.iload_n 1, 1) := by decide +kernel
theorem dX2_timeByInsertion_12 : decode cX2_timeByInsertion 12 = .ok (.invokevirtual 96, 3) := by decide +kernel
theorem dX2_timeByInsertion_15 : decode cX2_timeByInsertion 15 = .ok (.iinc 1 1, 3) := by decide +kernel
theorem dX2_timeByInsertion_18 : decode cX2_timeByInsertion 18 = .ok (.goto (-16), 3) := by decide +kernel
theorem dX2_timeByInsertion_21 : decode cX2_timeByInsertion 21 = .ok (.aload_n 0, 1) := by decide +kernel
theorem dX2_timeByInsertion_22 : decode cX2_timeByInsertion 22 = .ok (.aload_n 0, 1) := by decide +kernel
theorem dX2_timeByInsertion_23 : decode cX2_timeByInsertion 23 = .ok (.getfield 28, 3) := by decide +kernel
theorem dX2_timeByInsertion_26 : decode cX2_timeByInsertion 26 = .ok (.aload_n 0, 1) := by decide +kernel
theorem dX2_timeByInsertion_27 : decode cX2_timeByInsertion 27 = .ok (.getfield 9, 3) := by decide +kernel
theorem dX2_timeByInsertion_30 : decode cX2_timeByInsertion 30 = .ok (.invokevirtual 80, 3) := by decide +kernel
theorem dX2_timeByInsertion_33 : decode cX2_timeByInsertion 33 = .ok (.ireturn, 1) := by decide +kernel
set_option maxRecDepth 20000 in
theorem ggX2_insert_X4_put : GoodIn wsX2_insert wsX4_put := goodIn_r _ [4] (by decide +kernel) (by decide +kernel)
set_option maxRecDepth 20000 in
theorem gX2_insert_X4_put_n59 : GoodIn wsX2_insert (wsX4_put) := ggX2_insert_X4_put
set_option maxRecDepth 20000 in
theorem ggX2_insert_X2_timeOf : GoodIn wsX2_insert wsX2_timeOf := goodIn_r _ [9, 10, 3, 11, 12, 13, 14, 8, 15, 16, 21, 22, 23, 24, 25, 26] (by decide +kernel) (by decide +kernel)
set_option maxRecDepth 20000 in
theorem gX2_insert_X2_timeOf : GoodIn wsX2_insert (wsV RX2 80 RX2 yX2_timeOf wsX2_timeOf) := goodIn_app (goodIn_of _ (by decide +kernel)) ggX2_insert_X2_timeOf
set_option maxRecDepth 20000 in
theorem ggX2_insert_X2_swap : GoodIn wsX2_insert wsX2_swap := goodIn_r _ [20, 1, 10, 3, 11, 2, 4, 21, 22, 23, 24, 25, 26] (by decide +kernel) (by decide +kernel)
set_option maxRecDepth 20000 in
theorem gX2_insert_X2_swap : GoodIn wsX2_insert (wsV RX2 92 RX2 yX2_swap wsX2_swap) := goodIn_app (goodIn_of _ (by decide +kernel)) ggX2_insert_X2_swap
theorem dX2_insert_0 : decode cX2_insert 0 = .ok (.aload_n 0, 1) := by decide +kernel
theorem dX2_insert_1 : decode cX2_insert 1 = .ok (.getfield 28, 3) := by decide +kernel
theorem dX2_insert_4 : decode cX2_insert 4 = .ok (.iload_n 1, 1) := by decide +kernel
theorem dX2_insert_5 : decode cX2_insert 5 = .ok (.iload_n 1, 1) := by decide +kernel
theorem dX2_insert_6 : decode cX2_insert 6 = .ok (.invokestatic 59, 3) := by decide +kernel
theorem dX2_insert_9 : decode cX2_insert 9 = .ok (.aload_n 0, 1) := by decide +kernel
theorem dX2_insert_10 : decode cX2_insert 10 = .ok (.aload_n 0, 1) := by decide +kernel
theorem dX2_insert_11 : decode cX2_insert 11 = .ok (.getfield 28, 3) := by decide +kernel
theorem dX2_insert_14 : decode cX2_insert 14 = .ok (.iload_n 1, 1) := by decide +kernel
theorem dX2_insert_15 : decode cX2_insert 15 = .ok (.iconst 1, 1) := by decide +kernel
theorem dX2_insert_16 : decode cX2_insert 16 = .ok (.iadd, 1) := by decide +kernel
theorem dX2_insert_17 : decode cX2_insert 17 = .ok (.invokevirtual 80, 3) := by decide +kernel
theorem dX2_insert_20 : decode cX2_insert 20 = .ok (.istore_n 2, 1) := by decide +kernel
theorem dX2_insert_21 : decode cX2_insert 21 = .ok (.iload_n 1, 1) := by decide +kernel
theorem dX2_insert_22 : decode cX2_insert 22 = .ok (.istore_n 3, 1) := by decide +kernel
theorem dX2_insert_23 : decode cX2_insert 23 = .ok (.iload_n 1, 1) := by decide +kernel
theorem dX2_insert_24 : decode cX2_insert 24 = .ok (.iconst 1, 1) := by decide +kernel
theorem dX2_insert_25 : decode cX2_insert 25 = .ok (.isub, 1) := by decide +kernel
theorem dX2_insert_26 : decode cX2_insert 26 = .ok (.istore 4, 2) := by decide +kernel
theorem dX2_insert_28 : decode cX2_insert 28 = .ok (.iload 4, 2) := by decide +kernel
theorem dX2_insert_30 : decode cX2_insert 30 = .ok (.ifCond .lt 44, 3) := by decide +kernel
theorem dX2_insert_33 : decode cX2_insert 33 = .ok (.aload_n 0, 1) := by decide +kernel
theorem dX2_insert_34 : decode cX2_insert 34 = .ok (.iload 4, 2) := by decide +kernel
theorem dX2_insert_36 : decode cX2_insert 36 = .ok (.iload 4, 2) := by decide +kernel
theorem dX2_insert_38 : decode cX2_insert 38 = .ok (.iconst 1, 1) := by decide +kernel
theorem dX2_insert_39 : decode cX2_insert 39 = .ok (.iadd, 1) := by decide +kernel
theorem dX2_insert_40 : decode cX2_insert 40 = .ok (.invokevirtual 92, 3) := by decide +kernel
theorem dX2_insert_43 : decode cX2_insert 43 = .ok (.aload_n 0, 1) := by decide +kernel
theorem dX2_insert_44 : decode cX2_insert 44 = .ok (.aload_n 0, 1) := by decide +kernel
theorem dX2_insert_45 : decode cX2_insert 45 = .ok (.getfield 28, 3) := by decide +kernel
theorem dX2_insert_48 : decode cX2_insert 48 = .ok (.iload_n 1, 1) := by decide +kernel
theorem dX2_insert_49 : decode cX2_insert 49 = .ok (.iconst 1, 1) := by decide +kernel
theorem dX2_insert_50 : decode cX2_insert 50 = .ok (.iadd, 1) := by decide +kernel
theorem dX2_insert_51 : decode cX2_insert 51 = .ok (.invokevirtual 80, 3) := by decide +kernel
theorem dX2_insert_54 : decode cX2_insert 54 = .ok (.istore 5, 2) := by decide +kernel
theorem dX2_insert_56 : decode cX2_insert 56 = .ok (.iload 5, 2) := by decide +kernel
theorem dX2_insert_58 : decode cX2_insert 58 = .ok (.iload_n 2, 1) := by decide +kernel
theorem dX2_insert_59 : decode cX2_insert 59 = .ok (.if_icmp .gt 9, 3) := by decide +kernel
theorem dX2_insert_62 : decode cX2_insert 62 = .ok (.iload 5, 2) := by decide +kernel
theorem dX2_insert_64 : decode cX2_insert 64 = .ok (.istore_n 2, 1) := by decide +kernel
theorem dX2_insert_65 : decode cX2_insert 65 = .ok (.iload 4, 2) := by decide +kernel
theorem dX2_insert_67 : decode cX2_insert 67 = .ok (.istore_n 3, 1) := by decide +kernel
theorem dX2_insert_68 : decode cX2_insert 68 = .ok (.iinc 4 (-1), 3) := by decide +kernel
theorem dX2_insert_71 : decode cX2_insert 71 = .ok (.goto (-43), 3) := by decide +kernel
theorem dX2_insert_74 : decode cX2_insert 74 = .ok (.iconst 0, 1) := by decide +kernel
theorem dX2_insert_75 : decode cX2_insert 75 = .ok (.istore 4, 2) := by decide +kernel
theorem dX2_insert_77 : decode cX2_insert 77 = .ok (.iload 4, 2) := by decide +kernel
theorem dX2_insert_79 : decode cX2_insert 79 = .ok (.iload_n 3, 1) := by decide +kernel
theorem dX2_insert_80 : decode cX2_insert 80 = .ok (.if_icmp .ge 19, 3) := by decide +kernel
theorem dX2_insert_83 : decode cX2_insert 83 = .ok (.aload_n 0, 1) := by decide +kernel
theorem dX2_insert_84 : decode cX2_insert 84 = .ok (.iload 4, 2) := by decide +kernel
theorem dX2_insert_86 : decode cX2_insert 86 = .ok (.iload 4, 2) := by decide +kernel
theorem dX2_insert_88 : decode cX2_insert 88 = .ok (.iconst 1, 1) := by decide +kernel
theorem dX2_insert_89 : decode cX2_insert 89 = .ok (.iadd, 1) := by decide +kernel
theorem dX2_insert_90 : decode cX2_insert 90 = .ok (.invokevirtual 92, 3) := by decide +kernel
theorem dX2_insert_93 : decode cX2_insert 93 = .ok (.iinc 4 1, 3) := by decide +kernel
theorem dX2_insert_96 : decode cX2_insert 96 = .ok (.goto (-19), 3) := by decide +kernel
theorem dX2_insert_99 : decode cX2_insert 99 = .ok (.return_, 1) := by decide +kernel
set_option maxRecDepth 20000 in
theorem ggX2_swap_X4_at : GoodIn wsX2_swap wsX4_at := goodIn_r _ [4] (by decide +kernel) (by decide +kernel)
set_option maxRecDepth 20000 in
theorem gX2_swap_X4_at_n42 : GoodIn wsX2_swap (wsX4_at) := ggX2_swap_X4_at
set_option maxRecDepth 20000 in
theorem ggX2_swap_X4_put : GoodIn wsX2_swap wsX4_put := goodIn_r _ [6] (by decide +kernel) (by decide +kernel)
set_option maxRecDepth 20000 in
theorem gX2_swap_X4_put_n59 : GoodIn wsX2_swap (wsX4_put) := ggX2_swap_X4_put
theorem dX2_swap_0 : decode cX2_swap 0 = .ok (.aload_n 0, 1) := by decide +kernel
theorem dX2_swap_1 : decode cX2_swap 1 = .ok (.getfield 28, 3) := by decide +kernel
theorem dX2_swap_4 : decode cX2_swap 4 = .ok (.iload_n 1, 1) := by decide +kernel
theorem dX2_swap_5 : decode cX2_swap 5 = .ok (.invokestatic 42, 3) := by decide +kernel
theorem dX2_swap_8 : decode cX2_swap 8 = .ok (.istore_n 3, 1) := by decide +kernel
theorem dX2_swap_9 : decode cX2_swap 9 = .ok (.aload_n 0, 1) := by decide +kernel
theorem dX2_swap_10 : decode cX2_swap 10 = .ok (.getfield 28, 3) := by decide +kernel
theorem dX2_swap_13 : decode cX2_swap 13 = .ok (.iload_n 1, 1) := by decide +kernel
theorem dX2_swap_14 : decode cX2_swap 14 = .ok (.aload_n 0, 1) := by decide +kernel
theorem dX2_swap_15 : decode cX2_swap 15 = .ok (.getfield 28, 3) := by decide +kernel
theorem dX2_swap_18 : decode cX2_swap 18 = .ok (.iload_n 2, 1) := by decide +kernel
theorem dX2_swap_19 : decode cX2_swap 19 = .ok (.invokestatic 42, 3) := by decide +kernel
theorem dX2_swap_22 : decode cX2_swap 22 = .ok (.invokestatic 59, 3) := by decide +kernel
theorem dX2_swap_25 : decode cX2_swap 25 = .ok (.aload_n 0, 1) := by decide +kernel
theorem dX2_swap_26 : decode cX2_swap 26 = .ok (.getfield 28, 3) := by decide +kernel
theorem dX2_swap_29 : decode cX2_swap 29 = .ok (.iload_n 2, 1) := by decide +kernel
theorem dX2_swap_30 : decode cX2_swap 30 = .ok (.iload_n 3, 1) := by decide +kernel
theorem dX2_swap_31 : decode cX2_swap 31 = .ok (.invokestatic 59, 3) := by decide +kernel
theorem dX2_swap_34 : decode cX2_swap 34 = .ok (.return_, 1) := by decide +kernel
theorem dX3_init_0 : decode cX3_init 0 = .ok (.aload_n 0, 1) := by decide +kernel
theorem dX3_init_1 : decode cX3_init 1 = .ok (.invokespecial 3, 3) := by decide +kernel
theorem dX3_init_4 : decode cX3_init 4 = .ok (.aload_n 0, 1) := by decide +kernel
theorem dX3_init_5 : decode cX3_init 5 = .ok (.iconst (-1), 1) := by decide +kernel
theorem dX3_init_6 : decode cX3_init 6 = .ok (.putfield 9, 3) := by decide +kernel
theorem dX3_init_9 : decode cX3_init 9 = .ok (.aload_n 0, 1) := by decide +kernel
theorem dX3_init_10 : decode cX3_init 10 = .ok (.iconst 1, 1) := by decide +kernel
theorem dX3_init_11 : decode cX3_init 11 = .ok (.putfield 15, 3) := by decide +kernel
theorem dX3_init_14 : decode cX3_init 14 = .ok (.aload_n 0, 1) := by decide +kernel
theorem dX3_init_15 : decode cX3_init 15 = .ok (.iconst 0, 1) := by decide +kernel
theorem dX3_init_16 : decode cX3_init 16 = .ok (.putfield 19, 3) := by decide +kernel
theorem dX3_init_19 : decode cX3_init 19 = .ok (.aload_n 0, 1) := by decide +kernel
theorem dX3_init_20 : decode cX3_init 20 = .ok (.bipush 11, 2) := by decide +kernel
theorem dX3_init_22 : decode cX3_init 22 = .ok (.newarray .int, 2) := by decide +kernel
theorem dX3_init_24 : decode cX3_init 24 = .ok (.putfield 22, 3) := by decide +kernel
theorem dX3_init_27 : decode cX3_init 27 = .ok (.aload_n 0, 1) := by decide +kernel
theorem dX3_init_28 : decode cX3_init 28 = .ok (.iload_n 1, 1) := by decide +kernel
theorem dX3_init_29 : decode cX3_init 29 = .ok (.putfield 26, 3) := by decide +kernel
theorem dX3_init_32 : decode cX3_init 32 = .ok (.aload_n 0, 1) := by decide +kernel
theorem dX3_init_33 : decode cX3_init 33 = .ok (.iload_n 2, 1) := by decide +kernel
theorem dX3_init_34 : decode cX3_init 34 = .ok (.putfield 29, 3) := by decide +kernel
theorem dX3_init_37 : decode cX3_init 37 = .ok (.aload_n 0, 1) := by decide +kernel
theorem dX3_init_38 : decode cX3_init 38 = .ok (.iload_n 3, 1) := by decide +kernel
theorem dX3_init_39 : decode cX3_init 39 = .ok (.putfield 32, 3) := by decide +kernel
theorem dX3_init_42 : decode cX3_init 42 = .ok (.aload_n 0, 1) := by decide +kernel
theorem dX3_init_43 : decode cX3_init 43 = .ok (.iload 4, 2) := by decide +kernel
theorem dX3_init_45 : decode cX3_init 45 = .ok (.putfield 35, 3) := by decide +kernel
theorem dX3_init_48 : decode cX3_init 48 = .ok (.return_, 1) := by decide +kernel
theorem dX3_isInDrive_0 : decode cX3_isInDrive 0 = .ok (.aload_n 0, 1) := by decide +kernel
theorem dX3_isInDrive_1 : decode cX3_isInDrive 1 = .ok (.getfield 9, 3) := by decide +kernel
theorem dX3_isInDrive_4 : decode cX3_isInDrive 4 = .ok (.iconst (-1), 1) := by decide +kernel
theorem dX3_isInDrive_5 : decode cX3_isInDrive 5 = .ok (.if_icmp .eq 7, 3) := by decide +kernel
theorem dX3_isInDrive_8 : decode cX3_isInDrive 8 = .ok (.iconst 1, 1) := by decide +kernel
theorem dX3_isInDrive_9 : decode cX3_isInDrive 9 = .ok (.goto 4, 3) := by decide +kernel
theorem dX3_isInDrive_12 : decode cX3_isInDrive 12 = .ok (.iconst 0, 1) := by decide +kernel
theorem dX3_isInDrive_13 : decode cX3_isInDrive 13 = .ok (.ireturn, 1) := by decide +kernel
theorem dX3_places_0 : decode cX3_places 0 = .ok (.aload_n 0, 1) := by decide +kernel
theorem dX3_places_1 : decode cX3_places 1 = .ok (.getfield 29, 3) := by decide +kernel
theorem dX3_places_4 : decode cX3_places 4 = .ok (.aload_n 0, 1) := by decide +kernel
theorem dX3_places_5 : decode cX3_places 5 = .ok (.getfield 32, 3) := by decide +kernel
theorem dX3_places_8 : decode cX3_places 8 = .ok (.imul, 1) := by decide +kernel
theorem dX3_places_9 : decode cX3_places 9 = .ok (.ireturn, 1) := by decide +kernel
set_option maxRecDepth 20000 in
theorem ggX3_beginOf_X4_at : GoodIn wsX3_beginOf wsX4_at := goodIn_r _ [4] (by decide +kernel) (by decide +kernel)
set_option maxRecDepth 20000 in
theorem gX3_beginOf_X4_at_n38 : GoodIn wsX3_beginOf (wsX4_at) := ggX3_beginOf_X4_at
theorem dX3_beginOf_0 : decode cX3_beginOf 0 = .ok (.aload_n 0, 1) := by decide +kernel
theorem dX3_beginOf_1 : decode cX3_beginOf 1 = .ok (.getfield 22, 3) := by decide +kernel
theorem dX3_beginOf_4 : decode cX3_beginOf 4 = .ok (.iload_n 1, 1) := by decide +kernel
theorem dX3_beginOf_5 : decode cX3_beginOf 5 = .ok (.invokestatic 38, 3) := by decide +kernel
theorem dX3_beginOf_8 : decode cX3_beginOf 8 = .ok (.ireturn, 1) := by decide +kernel
set_option maxRecDepth 20000 in
theorem ggX3_endOf_X4_at : GoodIn wsX3_endOf wsX4_at := goodIn_r _ [4] (by decide +kernel) (by decide +kernel)
set_option maxRecDepth 20000 in
theorem gX3_endOf_X4_at_n38 : GoodIn wsX3_endOf (wsX4_at) := ggX3_endOf_X4_at
theorem dX3_endOf_0 : decode cX3_endOf 0 = .ok (.aload_n 0, 1) := by decide +kernel
theorem dX3_endOf_1 : decode cX3_endOf 1 = .ok (.getfield 22, 3) := by decide +kernel
theorem dX3_endOf_4 : decode cX3_endOf 4 = .ok (.iload_n 1, 1) := by decide +kernel
theorem dX3_endOf_5 : decode cX3_endOf 5 = .ok (.iconst 1, 1) := by decide +kernel
theorem dX3_endOf_6 : decode cX3_endOf 6 = .ok (.iadd, 1) := by decide +kernel
theorem dX3_endOf_7 : decode cX3_endOf 7 = .ok (.invokestatic 38, 3) := by decide +kernel
theorem dX3_endOf_10 : decode cX3_endOf 10 = .ok (.ireturn, 1) := by decide +kernel
set_option maxRecDepth 20000 in
theorem ggX3_hasRoomFor_X3_beginOf : GoodIn wsX3_hasRoomFor wsX3_beginOf := goodIn_r _ [6, 7, 8, 9, 10, 17, 18, 19, 20, 21, 22, 23, 24] (by decide +kernel) (by decide +kernel)
set_option maxRecDepth 20000 in
theorem gX3_hasRoomFor_X3_beginOf : GoodIn wsX3_hasRoomFor (wsV RX3 42 RX3 yX3_beginOf wsX3_beginOf) := goodIn_app (goodIn_of _ (by decide +kernel)) ggX3_hasRoomFor_X3_beginOf
set_option maxRecDepth 20000 in
theorem ggX3_hasRoomFor_X3_places : GoodIn wsX3_hasRoomFor wsX3_places := goodIn_r _ [14, 15, 16, 17, 18, 19, 20, 21, 22, 23, 24] (by decide +kernel) (by decide +kernel)
set_option maxRecDepth 20000 in
theorem gX3_hasRoomFor_X3_places : GoodIn wsX3_hasRoomFor (wsV RX3 46 RX3 yX3_places wsX3_places) := goodIn_app (goodIn_of _ (by decide +kernel)) ggX3_hasRoomFor_X3_places
theorem dX3_hasRoomFor_0 : decode cX3_hasRoomFor 0 = .ok (.aload_n 0, 1) := by decide +kernel
theorem dX3_hasRoomFor_1 : decode cX3_hasRoomFor 1 = .ok (.getfield 19, 3) := by decide +kernel
theorem dX3_hasRoomFor_4 : decode cX3_hasRoomFor 4 = .ok (.bipush 10, 2) := by decide +kernel
theorem dX3_hasRoomFor_6 : decode cX3_hasRoomFor 6 = .ok (.if_icmp .ge 24, 3) := by decide +kernel
theorem dX3_hasRoomFor_9 : decode cX3_hasRoomFor 9 = .ok (.aload_n 0, 1) := by decide +kernel
theorem dX3_hasRoomFor_10 : decode cX3_hasRoomFor 10 = .ok (.aload_n 0, 1) := by decide +kernel
theorem dX3_hasRoomFor_11 : decode cX3_hasRoomFor 11 = .ok (.getfield 19, 3) := by decide +kernel
theorem dX3_hasRoomFor_14 : decode cX3_hasRoomFor 14 = .ok (.invokevirtual 42, 3) := by decide +kernel
theorem dX3_hasRoomFor_17 : decode cX3_hasRoomFor 17 = .ok (.iload_n 1, 1) := by decide +kernel
theorem dX3_hasRoomFor_18 : decode cX3_hasRoomFor 18 = .ok (.iadd, 1) := by decide +kernel
theorem dX3_hasRoomFor_19 : decode cX3_hasRoomFor 19 = .ok (.aload_n 0, 1) := by decide +kernel
theorem dX3_hasRoomFor_20 : decode cX3_hasRoomFor 20 = .ok (.invokevirtual 46, 3) := by decide +kernel
theorem dX3_hasRoomFor_23 : decode cX3_hasRoomFor 23 = .ok (.if_icmp .gt 7, 3) := by decide +kernel
theorem dX3_hasRoomFor_26 : decode cX3_hasRoomFor 26 = .ok (.iconst 1, 1) := by decide +kernel
theorem dX3_hasRoomFor_27 : decode cX3_hasRoomFor 27 = .ok (.goto 4, 3) := by decide +kernel
theorem dX3_hasRoomFor_30 : decode cX3_hasRoomFor 30 = .ok (.iconst 0, 1) := by decide +kernel
theorem dX3_hasRoomFor_31 : decode cX3_hasRoomFor 31 = .ok (.ireturn, 1) := by decide +kernel
set_option maxRecDepth 20000 in
theorem ggX3_append_X3_beginOf : GoodIn wsX3_append wsX3_beginOf := goodIn_r _ [7, 1, 8, 9, 10, 13, 14, 15, 16, 17, 18, 19, 20] (by decide +kernel) (by decide +kernel)
set_option maxRecDepth 20000 in
theorem gX3_append_X3_beginOf : GoodIn wsX3_append (wsV RX3 42 RX3 yX3_beginOf wsX3_beginOf) := goodIn_app (goodIn_of _ (by decide +kernel)) ggX3_append_X3_beginOf
set_option maxRecDepth 20000 in
theorem ggX3_append_X4_put : GoodIn wsX3_append wsX4_put := goodIn_r _ [12] (by decide +kernel) (by decide +kernel)
set_option maxRecDepth 20000 in
theorem gX3_append_X4_put_n50 : GoodIn wsX3_append (wsX4_put) := ggX3_append_X4_put
theorem dX3_append_0 : decode cX3_append 0 = .ok (.aload_n 0, 1) := by decide +kernel
theorem dX3_append_1 : decode cX3_append 1 = .ok (.getfield 22, 3) := by decide +kernel
theorem dX3_append_4 : decode cX3_append 4 = .ok (.aload_n 0, 1) := by decide +kernel
theorem dX3_append_5 : decode cX3_append 5 = .ok (.getfield 19, 3) := by decide +kernel
theorem dX3_append_8 : decode cX3_append 8 = .ok (.iconst 1, 1) := by decide +kernel
theorem dX3_append_9 : decode cX3_append 9 = .ok (.iadd, 1) := by decide +kernel
theorem dX3_append_10 : decode cX3_append 10 = .ok (.aload_n 0, 1) := by decide +kernel
theorem dX3_append_11 : decode cX3_append 11 = .ok (.aload_n 0, 1) := by decide +kernel
theorem dX3_append_12 : decode cX3_append 12 = .ok (.getfield 19, 3) := by decide +kernel
theorem dX3_append_15 : decode cX3_append 15 = .ok (.invokevirtual 42, 3) := by decide +kernel
theorem dX3_append_18 : decode cX3_append 18 = .ok (.iload_n 1, 1) := by decide +kernel
theorem dX3_append_19 : decode cX3_append 19 = .ok (.iadd, 1) := by decide +kernel
theorem dX3_append_20 : decode cX3_append 20 = .ok (.invokestatic 50, 3) := by decide +kernel
theorem dX3_append_23 : decode cX3_append 23 = .ok (.aload_n 0, 1) := by decide +kernel
theorem dX3_append_24 : decode cX3_append 24 = .ok (.dup, 1) := by decide +kernel
theorem dX3_append_25 : decode cX3_append 25 = .ok (.getfield 19, 3) := by decide +kernel
theorem dX3_append_28 : decode cX3_append 28 = .ok (.iconst 1, 1) := by decide +kernel
theorem dX3_append_29 : decode cX3_append 29 = .ok (.iadd, 1) := by decide +kernel
theorem dX3_append_30 : decode cX3_append 30 = .ok (.putfield 19, 3) := by decide +kernel
theorem dX3_append_33 : decode cX3_append 33 = .ok (.aload_n 0, 1) := by decide +kernel
theorem dX3_append_34 : decode cX3_append 34 = .ok (.getfield 19, 3) := by decide +kernel
theorem dX3_append_37 : decode cX3_append 37 = .ok (.iconst 1, 1) := by decide +kernel
theorem dX3_append_38 : decode cX3_append 38 = .ok (.isub, 1) := by decide +kernel
theorem dX3_append_39 : decode cX3_append 39 = .ok (.ireturn, 1) := by decide +kernel
theorem dX3_trackOf_0 : decode cX3_trackOf 0 = .ok (.aload_n 0, 1) := by decide +kernel
theorem dX3_trackOf_1 : decode cX3_trackOf 1 = .ok (.getfield 32, 3) := by decide +kernel
theorem dX3_trackOf_4 : decode cX3_trackOf 4 = .ok (.ifCond .le 12, 3) := by decide +kernel
theorem dX3_trackOf_7 : decode cX3_trackOf 7 = .ok (.iload_n 1, 1) := by decide +kernel
theorem dX3_trackOf_8 : decode cX3_trackOf 8 = .ok (.aload_n 0, 1) := by decide +kernel
theorem dX3_trackOf_9 : decode cX3_trackOf 9 = .ok (.getfield 32, 3) := by decide +kernel
theorem dX3_trackOf_12 : decode cX3_trackOf 12 = .ok (.idiv, 1) := by decide +kernel
theorem dX3_trackOf_13 : decode cX3_trackOf 13 = .ok (.goto 4, 3) := by decide +kernel
theorem dX3_trackOf_16 : decode cX3_trackOf 16 = .ok (.iconst 0, 1) := by decide +kernel
theorem dX3_trackOf_17 : decode cX3_trackOf 17 = .ok (.istore_n 2, 1) := by decide +kernel
theorem dX3_trackOf_18 : decode cX3_trackOf 18 = .ok (.iload_n 2, 1) := by decide +kernel
theorem dX3_trackOf_19 : decode cX3_trackOf 19 = .ok (.aload_n 0, 1) := by decide +kernel
theorem dX3_trackOf_20 : decode cX3_trackOf 20 = .ok (.getfield 29, 3) := by decide +kernel
theorem dX3_trackOf_23 : decode cX3_trackOf 23 = .ok (.if_icmp .ge 7, 3) := by decide +kernel
theorem dX3_trackOf_26 : decode cX3_trackOf 26 = .ok (.iload_n 2, 1) := by decide +kernel
theorem dX3_trackOf_27 : decode cX3_trackOf 27 = .ok (.goto 9, 3) := by decide +kernel
theorem dX3_trackOf_30 : decode cX3_trackOf 30 = .ok (.aload_n 0, 1) := by decide +kernel
theorem dX3_trackOf_31 : decode cX3_trackOf 31 = .ok (.getfield 29, 3) := by decide +kernel
theorem dX3_trackOf_34 : decode cX3_trackOf 34 = .ok (.iconst 1, 1) := by decide +kernel
theorem dX3_trackOf_35 : decode cX3_trackOf 35 = .ok (.isub, 1) := by decide +kernel
theorem dX3_trackOf_36 : decode cX3_trackOf 36 = .ok (.ireturn, 1) := by decide +kernel
set_option maxRecDepth 20000 in
theorem ggX3_distanceAlong_X3_trackOf : GoodIn wsX3_distanceAlong wsX3_trackOf := goodIn_r _ [10, 1, 11, 12, 13, 14, 15, 16, 17, 18, 19] (by decide +kernel) (by decide +kernel)
set_option maxRecDepth 20000 in
theorem gX3_distanceAlong_X3_trackOf : GoodIn wsX3_distanceAlong (wsV RX3 54 RX3 yX3_trackOf wsX3_trackOf) := goodIn_app (goodIn_of _ (by decide +kernel)) ggX3_distanceAlong_X3_trackOf
theorem dX3_distanceAlong_0 : decode cX3_distanceAlong 0 = .ok (.aload_n 0, 1) := by decide +kernel
theorem dX3_distanceAlong_1 : decode cX3_distanceAlong 1 = .ok (.iload_n 1, 1) := by decide +kernel
theorem dX3_distanceAlong_2 : decode cX3_distanceAlong 2 = .ok (.invokevirtual 54, 3) := by decide +kernel
theorem dX3_distanceAlong_5 : decode cX3_distanceAlong 5 = .ok (.istore_n 2, 1) := by decide +kernel
theorem dX3_distanceAlong_6 : decode cX3_distanceAlong 6 = .ok (.iload_n 1, 1) := by decide +kernel
theorem dX3_distanceAlong_7 : decode cX3_distanceAlong 7 = .ok (.iload_n 2, 1) := by decide +kernel
theorem dX3_distanceAlong_8 : decode cX3_distanceAlong 8 = .ok (.aload_n 0, 1) := by decide +kernel
theorem dX3_distanceAlong_9 : decode cX3_distanceAlong 9 = .ok (.getfield 32, 3) := by decide +kernel
theorem dX3_distanceAlong_12 : decode cX3_distanceAlong 12 = .ok (.imul, 1) := by decide +kernel
theorem dX3_distanceAlong_13 : decode cX3_distanceAlong 13 = .ok (.isub, 1) := by decide +kernel
theorem dX3_distanceAlong_14 : decode cX3_distanceAlong 14 = .ok (.aload_n 0, 1) := by decide +kernel
theorem dX3_distanceAlong_15 : decode cX3_distanceAlong 15 = .ok (.getfield 32, 3) := by decide +kernel
theorem dX3_distanceAlong_18 : decode cX3_distanceAlong 18 = .ok (.iconst 1, 1) := by decide +kernel
theorem dX3_distanceAlong_19 : decode cX3_distanceAlong 19 = .ok (.isub, 1) := by decide +kernel
theorem dX3_distanceAlong_20 : decode cX3_distanceAlong 20 = .ok (.invokestatic 57, 3) := by decide +kernel
theorem dX3_distanceAlong_23 : decode cX3_distanceAlong 23 = .ok (.istore_n 3, 1) := by decide +kernel
theorem dX3_distanceAlong_24 : decode cX3_distanceAlong 24 = .ok (.iload_n 2, 1) := by decide +kernel
theorem dX3_distanceAlong_25 : decode cX3_distanceAlong 25 = .ok (.iconst 1, 1) := by decide +kernel
theorem dX3_distanceAlong_26 : decode cX3_distanceAlong 26 = .ok (.iand, 1) := by decide +kernel
theorem dX3_distanceAlong_27 : decode cX3_distanceAlong 27 = .ok (.ifCond .ne 7, 3) := by decide +kernel
theorem dX3_distanceAlong_30 : decode cX3_distanceAlong 30 = .ok (.iload_n 3, 1) := by decide +kernel
theorem dX3_distanceAlong_31 : decode cX3_distanceAlong 31 = .ok (.goto 11, 3) := by decide +kernel
theorem dX3_distanceAlong_34 : decode cX3_distanceAlong 34 = .ok (.aload_n 0, 1) := by decide +kernel
theorem dX3_distanceAlong_35 : decode cX3_distanceAlong 35 = .ok (.getfield 32, 3) := by decide +kernel
theorem dX3_distanceAlong_38 : decode cX3_distanceAlong 38 = .ok (.iconst 1, 1) := by decide +kernel
theorem dX3_distanceAlong_39 : decode cX3_distanceAlong 39 = .ok (.isub, 1) := by decide +kernel
theorem dX3_distanceAlong_40 : decode cX3_distanceAlong 40 = .ok (.iload_n 3, 1) := by decide +kernel
theorem dX3_distanceAlong_41 : decode cX3_distanceAlong 41 = .ok (.isub, 1) := by decide +kernel
theorem dX3_distanceAlong_42 : decode cX3_distanceAlong 42 = .ok (.ireturn, 1) := by decide +kernel
set_option maxRecDepth 20000 in
theorem ggX4_init_X1_init : GoodIn wsX4_init wsX1_init := goodIn_r _ [19, 20, 2, 3, 21, 22, 23, 24, 25, 26, 42, 43, 44, 45, 46] (by decide +kernel) (by decide +kernel)
set_option maxRecDepth 20000 in
theorem gX4_init_X1_init_n30 : GoodIn wsX4_init (wsX1_init) := ggX4_init_X1_init
set_option maxRecDepth 20000 in
theorem ggX4_init_X2_init : GoodIn wsX4_init wsX2_init := goodIn_r _ [28, 29, 2, 3, 30, 23, 31, 32, 33, 34, 35, 47, 48, 49, 50, 51, 52] (by decide +kernel) (by decide +kernel)
set_option maxRecDepth 20000 in
theorem gX4_init_X2_init_n37 : GoodIn wsX4_init (wsX2_init) := ggX4_init_X2_init
theorem dX4_init_0 : decode cX4_init 0 = .ok (.aload_n 0, 1) := by decide +kernel
theorem dX4_init_1 : decode cX4_init 1 = .ok (.invokespecial 1, 3) := by decide +kernel
theorem dX4_init_4 : decode cX4_init 4 = .ok (.aload_n 0, 1) := by decide +kernel
theorem dX4_init_5 : decode cX4_init 5 = .ok (.bipush 8, 2) := by decide +kernel
theorem dX4_init_7 : decode cX4_init 7 = .ok (.anewarray 9, 3) := by decide +kernel
theorem dX4_init_10 : decode cX4_init 10 = .ok (.putfield 11, 3) := by decide +kernel
theorem dX4_init_13 : decode cX4_init 13 = .ok (.aload_n 0, 1) := by decide +kernel
theorem dX4_init_14 : decode cX4_init 14 = .ok (.iconst 0, 1) := by decide +kernel
theorem dX4_init_15 : decode cX4_init 15 = .ok (.putfield 15, 3) := by decide +kernel
theorem dX4_init_18 : decode cX4_init 18 = .ok (.aload_n 0, 1) := by decide +kernel
theorem dX4_init_19 : decode cX4_init 19 = .ok (.iconst 3, 1) := by decide +kernel
theorem dX4_init_20 : decode cX4_init 20 = .ok (.anewarray 19, 3) := by decide +kernel
theorem dX4_init_23 : decode cX4_init 23 = .ok (.putfield 21, 3) := by decide +kernel
theorem dX4_init_26 : decode cX4_init 26 = .ok (.aload_n 0, 1) := by decide +kernel
theorem dX4_init_27 : decode cX4_init 27 = .ok (.iconst 0, 1) := by decide +kernel
theorem dX4_init_28 : decode cX4_init 28 = .ok (.putfield 25, 3) := by decide +kernel
theorem dX4_init_31 : decode cX4_init 31 = .ok (.aload_n 0, 1) := by decide +kernel
theorem dX4_init_32 : decode cX4_init 32 = .ok (.new 28, 3) := by decide +kernel
theorem dX4_init_35 : decode cX4_init 35 = .ok (.dup, 1) := by decide +kernel
theorem dX4_init_36 : decode cX4_init 36 = .ok (.invokespecial 30, 3) := by decide +kernel
theorem dX4_init_39 : decode cX4_init 39 = .ok (.putfield 31, 3) := by decide +kernel
theorem dX4_init_42 : decode cX4_init 42 = .ok (.aload_n 0, 1) := by decide +kernel
theorem dX4_init_43 : decode cX4_init 43 = .ok (.new 35, 3) := by decide +kernel
theorem dX4_init_46 : decode cX4_init 46 = .ok (.dup, 1) := by decide +kernel
theorem dX4_init_47 : decode cX4_init 47 = .ok (.invokespecial 37, 3) := by decide +kernel
theorem dX4_init_50 : decode cX4_init 50 = .ok (.putfield 38, 3) := by decide +kernel
theorem dX4_init_53 : decode cX4_init 53 = .ok (.return_, 1) := by decide +kernel
set_option maxRecDepth 20000 in
theorem ggX4_tape_X4_lowestFreeSlot : GoodIn wsX4_tape wsX4_lowestFreeSlot := goodIn_r _ [14, 15, 16, 17, 13, 18, 6, 33, 34, 35, 36, 37, 38, 39, 40, 41, 42, 43, 44, 45, 46] (by decide +kernel) (by decide +kernel)
set_option maxRecDepth 20000 in
theorem gX4_tape_X4_lowestFreeSlot : GoodIn wsX4_tape (wsV RX4 56 RX4 yX4_lowestFreeSlot wsX4_lowestFreeSlot) := goodIn_app (goodIn_of _ (by decide +kernel)) ggX4_tape_X4_lowestFreeSlot
set_option maxRecDepth 20000 in
theorem ggX4_tape_X3_init : GoodIn wsX4_tape wsX3_init := goodIn_r _ [20, 21, 22, 23, 24, 25, 26, 27, 28, 29, 30, 31, 32, 39, 40, 41, 42, 43, 44, 45, 46] (by decide +kernel) (by decide +kernel)
set_option maxRecDepth 20000 in
theorem gX4_tape_X3_init_n60 : GoodIn wsX4_tape (wsX3_init) := ggX4_tape_X3_init
theorem dX4_tape_0 : decode cX4_tape 0 = .ok (.iload_n 1, 1) := by decide +kernel
theorem dX4_tape_1 : decode cX4_tape 1 = .ok (.iconst 1, 1) := by decide +kernel
theorem dX4_tape_2 : decode cX4_tape 2 = .ok (.if_icmp .lt 9, 3) := by decide +kernel
theorem dX4_tape_5 : decode cX4_tape 5 = .ok (.iload_n 1, 1) := by decide +kernel
theorem dX4_tape_6 : decode cX4_tape 6 = .ok (.bipush 8, 2) := by decide +kernel
theorem dX4_tape_8 : decode cX4_tape 8 = .ok (.if_icmp .le 13, 3) := by decide +kernel
theorem dX4_tape_11 : decode cX4_tape 11 = .ok (.new 42, 3) := by decide +kernel
theorem dX4_tape_14 : decode cX4_tape 14 = .ok (.dup, 1) := by decide +kernel
theorem dX4_tape_15 : decode cX4_tape 15 = .ok (.ldc 44, 2) := by decide +kernel
theorem dX4_tape_17 : decode cX4_tape 17 = .ok (.invokespecial 46, 3) := by decide +kernel
theorem dX4_tape_20 : decode cX4_tape 20 = .ok (.athrow, 1) := by decide +kernel
theorem dX4_tape_21 : decode cX4_tape 21 = .ok (.iload_n 2, 1) := by decide +kernel
theorem dX4_tape_22 : decode cX4_tape 22 = .ok (.iconst 4, 1) := by decide +kernel
theorem dX4_tape_23 : decode cX4_tape 23 = .ok (.if_icmp .lt 10, 3) := by decide +kernel
theorem dX4_tape_26 : decode cX4_tape 26 = .ok (.iload_n 2, 1) := by decide +kernel
theorem dX4_tape_27 : decode cX4_tape 27 = .ok (.sipush 200, 3) := by decide +kernel
theorem dX4_tape_30 : decode cX4_tape 30 = .ok (.if_icmp .le 13, 3) := by decide +kernel
theorem dX4_tape_33 : decode cX4_tape 33 = .ok (.new 42, 3) := by decide +kernel
theorem dX4_tape_36 : decode cX4_tape 36 = .ok (.dup, 1) := by decide +kernel
theorem dX4_tape_37 : decode cX4_tape 37 = .ok (.ldc 49, 2) := by decide +kernel
theorem dX4_tape_39 : decode cX4_tape 39 = .ok (.invokespecial 46, 3) := by decide +kernel
theorem dX4_tape_42 : decode cX4_tape 42 = .ok (.athrow, 1) := by decide +kernel
theorem dX4_tape_43 : decode cX4_tape 43 = .ok (.aload_n 0, 1) := by decide +kernel
theorem dX4_tape_44 : decode cX4_tape 44 = .ok (.getfield 15, 3) := by decide +kernel
theorem dX4_tape_47 : decode cX4_tape 47 = .ok (.aload_n 0, 1) := by decide +kernel
theorem dX4_tape_48 : decode cX4_tape 48 = .ok (.getfield 11, 3) := by decide +kernel
theorem dX4_tape_51 : decode cX4_tape 51 = .ok (.arraylength, 1) := by decide +kernel
theorem dX4_tape_52 : decode cX4_tape 52 = .ok (.if_icmp .lt 13, 3) := by decide +kernel
theorem dX4_tape_55 : decode cX4_tape 55 = .ok (.new 51, 3) := by decide +kernel
theorem dX4_tape_58 : decode cX4_tape 58 = .ok (.dup, 1) := by decide +kernel
theorem dX4_tape_59 : decode cX4_tape 59 = .ok (.ldc 53, 2) := by decide +kernel
theorem dX4_tape_61 : decode cX4_tape 61 = .ok (.invokespecial 55, 3) := by decide +kernel
theorem dX4_tape_64 : decode cX4_tape 64 = .ok (.athrow, 1) := by decide +kernel
theorem dX4_tape_65 : decode cX4_tape 65 = .ok (.aload_n 0, 1) := by decide +kernel
theorem dX4_tape_66 : decode cX4_tape 66 = .ok (.getfield 11, 3) := by decide +kernel
theorem dX4_tape_69 : decode cX4_tape 69 = .ok (.aload_n 0, 1) := by decide +kernel
theorem dX4_tape_70 : decode cX4_tape 70 = .ok (.getfield 15, 3) := by decide +kernel
theorem dX4_tape_73 : decode cX4_tape 73 = .ok (.new 9, 3) := by decide +kernel
theorem dX4_tape_76 : decode cX4_tape 76 = .ok (.dup, 1) := by decide +kernel
theorem dX4_tape_77 : decode cX4_tape 77 = .ok (.aload_n 0, 1) := by decide +kernel
theorem dX4_tape_78 : decode cX4_tape 78 = .ok (.getfield 15, 3) := by decide +kernel
theorem dX4_tape_81 : decode cX4_tape 81 = .ok (.iload_n 1, 1) := by decide +kernel
theorem dX4_tape_82 : decode cX4_tape 82 = .ok (.iload_n 2, 1) := by decide +kernel
theorem dX4_tape_83 : decode cX4_tape 83 = .ok (.aload_n 0, 1) := by decide +kernel
theorem dX4_tape_84 : decode cX4_tape 84 = .ok (.invokevirtual 56, 3) := by decide +kernel
theorem dX4_tape_87 : decode cX4_tape 87 = .ok (.invokespecial 60, 3) := by decide +kernel
theorem dX4_tape_90 : decode cX4_tape 90 = .ok (.aastore, 1) := by decide +kernel
theorem dX4_tape_91 : decode cX4_tape 91 = .ok (.aload_n 0, 1) := by decide +kernel
theorem dX4_tape_92 : decode cX4_tape 92 = .ok (.dup, 1) := by decide +kernel
theorem dX4_tape_93 : decode cX4_tape 93 = .ok (.getfield 15, 3) := by decide +kernel
theorem dX4_tape_96 : decode cX4_tape 96 = .ok (.iconst 1, 1) := by decide +kernel
theorem dX4_tape_97 : decode cX4_tape 97 = .ok (.iadd, 1) := by decide +kernel
theorem dX4_tape_98 : decode cX4_tape 98 = .ok (.putfield 15, 3) := by decide +kernel
theorem dX4_tape_101 : decode cX4_tape 101 = .ok (.aload_n 0, 1) := by decide +kernel
theorem dX4_tape_102 : decode cX4_tape 102 = .ok (.getfield 15, 3) := by decide +kernel
theorem dX4_tape_105 : decode cX4_tape 105 = .ok (.iconst 1, 1) := by decide +kernel
theorem dX4_tape_106 : decode cX4_tape 106 = .ok (.isub, 1) := by decide +kernel
theorem dX4_tape_107 : decode cX4_tape 107 = .ok (.ireturn, 1) := by decide +kernel
set_option maxRecDepth 20000 in
theorem ggX4_carry_X4_tapeNumbered : GoodIn wsX4_carry wsX4_tapeNumbered := goodIn_ca (goodIn_r _ [9, 1, 2, 10, 28, 29, 30, 31, 32, 33] (by decide +kernel) (by decide +kernel)) (goodIn_sub (fun _ h => List.mem_cons_of_mem _ (List.mem_append_left _ (List.mem_append_right _ h))) (by decide +kernel))
set_option maxRecDepth 20000 in
theorem gX4_carry_X4_tapeNumbered : GoodIn wsX4_carry (wsV RX4 63 RX4 yX4_tapeNumbered wsX4_tapeNumbered) := goodIn_app (goodIn_of _ (by decide +kernel)) ggX4_carry_X4_tapeNumbered
set_option maxRecDepth 20000 in
theorem ggX4_carry_X3_isInDrive : GoodIn wsX4_carry wsX3_isInDrive := goodIn_r _ [14, 15, 20, 21, 22, 23, 24, 25, 26, 27] (by decide +kernel) (by decide +kernel)
set_option maxRecDepth 20000 in
theorem gX4_carry_X3_isInDrive_n72 : GoodIn wsX4_carry (wsX3_isInDrive) := ggX4_carry_X3_isInDrive
set_option maxRecDepth 20000 in
theorem ggX4_carry_X4_isFree : GoodIn wsX4_carry wsX4_isFree := goodIn_r _ [19, 10, 28, 29, 30, 31, 32, 33, 20, 21, 22, 23, 24, 25, 26, 27] (by decide +kernel) (by decide +kernel)
set_option maxRecDepth 20000 in
theorem gX4_carry_X4_isFree : GoodIn wsX4_carry (wsV RX4 76 RX4 yX4_isFree wsX4_isFree) := goodIn_app (goodIn_of _ (by decide +kernel)) ggX4_carry_X4_isFree
theorem dX4_carry_0 : decode cX4_carry 0 = .ok (.aload_n 0, 1) := by decide +kernel
theorem dX4_carry_1 : decode cX4_carry 1 = .ok (.iload_n 1, 1) := by decide +kernel
theorem dX4_carry_2 : decode cX4_carry 2 = .ok (.invokevirtual 63, 3) := by decide +kernel
theorem dX4_carry_5 : decode cX4_carry 5 = .ok (.astore_n 3, 1) := by decide +kernel
theorem dX4_carry_6 : decode cX4_carry 6 = .ok (.iload_n 2, 1) := by decide +kernel
theorem dX4_carry_7 : decode cX4_carry 7 = .ok (.ifCond .lt 9, 3) := by decide +kernel
theorem dX4_carry_10 : decode cX4_carry 10 = .ok (.iload_n 2, 1) := by decide +kernel
theorem dX4_carry_11 : decode cX4_carry 11 = .ok (.bipush 12, 2) := by decide +kernel
theorem dX4_carry_13 : decode cX4_carry 13 = .ok (.if_icmp .lt 13, 3) := by decide +kernel
theorem dX4_carry_16 : decode cX4_carry 16 = .ok (.new 67, 3) := by decide +kernel
theorem dX4_carry_19 : decode cX4_carry 19 = .ok (.dup, 1) := by decide +kernel
theorem dX4_carry_20 : decode cX4_carry 20 = .ok (.ldc 69, 2) := by decide +kernel
theorem dX4_carry_22 : decode cX4_carry 22 = .ok (.invokespecial 71, 3) := by decide +kernel
theorem dX4_carry_25 : decode cX4_carry 25 = .ok (.athrow, 1) := by decide +kernel
theorem dX4_carry_26 : decode cX4_carry 26 = .ok (.aload_n 3, 1) := by decide +kernel
theorem dX4_carry_27 : decode cX4_carry 27 = .ok (.invokevirtual 72, 3) := by decide +kernel
theorem dX4_carry_30 : decode cX4_carry 30 = .ok (.ifCond .ne 11, 3) := by decide +kernel
theorem dX4_carry_33 : decode cX4_carry 33 = .ok (.aload_n 0, 1) := by decide +kernel
theorem dX4_carry_34 : decode cX4_carry 34 = .ok (.iload_n 2, 1) := by decide +kernel
theorem dX4_carry_35 : decode cX4_carry 35 = .ok (.invokevirtual 76, 3) := by decide +kernel
theorem dX4_carry_38 : decode cX4_carry 38 = .ok (.ifCond .ne 13, 3) := by decide +kernel
theorem dX4_carry_41 : decode cX4_carry 41 = .ok (.new 51, 3) := by decide +kernel
theorem dX4_carry_44 : decode cX4_carry 44 = .ok (.dup, 1) := by decide +kernel
theorem dX4_carry_45 : decode cX4_carry 45 = .ok (.ldc 80, 2) := by decide +kernel
theorem dX4_carry_47 : decode cX4_carry 47 = .ok (.invokespecial 55, 3) := by decide +kernel
theorem dX4_carry_50 : decode cX4_carry 50 = .ok (.athrow, 1) := by decide +kernel
theorem dX4_carry_51 : decode cX4_carry 51 = .ok (.aload_n 3, 1) := by decide +kernel
theorem dX4_carry_52 : decode cX4_carry 52 = .ok (.getfield 82, 3) := by decide +kernel
theorem dX4_carry_55 : decode cX4_carry 55 = .ok (.istore 4, 2) := by decide +kernel
theorem dX4_carry_57 : decode cX4_carry 57 = .ok (.aload_n 3, 1) := by decide +kernel
theorem dX4_carry_58 : decode cX4_carry 58 = .ok (.iload_n 2, 1) := by decide +kernel
theorem dX4_carry_59 : decode cX4_carry 59 = .ok (.putfield 82, 3) := by decide +kernel
theorem dX4_carry_62 : decode cX4_carry 62 = .ok (.iload 4, 2) := by decide +kernel
theorem dX4_carry_64 : decode cX4_carry 64 = .ok (.ireturn, 1) := by decide +kernel
set_option maxRecDepth 20000 in
theorem ggX4_placeOf_X4_tapeNumbered : GoodIn wsX4_placeOf wsX4_tapeNumbered := goodIn_ca (goodIn_r _ [5, 6, 7, 8, 22, 23, 24, 25, 26, 27] (by decide +kernel) (by decide +kernel)) (goodIn_sub (fun _ h => List.mem_cons_of_mem _ (List.mem_append_right _ h)) (by decide +kernel))
set_option maxRecDepth 20000 in
theorem gX4_placeOf_X4_tapeNumbered : GoodIn wsX4_placeOf (wsV RX4 63 RX4 yX4_tapeNumbered wsX4_tapeNumbered) := goodIn_app (goodIn_of _ (by decide +kernel)) ggX4_placeOf_X4_tapeNumbered
set_option maxRecDepth 20000 in
theorem ggX4_placeOf_X3_isInDrive : GoodIn wsX4_placeOf wsX3_isInDrive := goodIn_r _ [12, 13, 14, 15, 16, 17, 18, 19, 20, 21] (by decide +kernel) (by decide +kernel)
set_option maxRecDepth 20000 in
theorem gX4_placeOf_X3_isInDrive_n72 : GoodIn wsX4_placeOf (wsX3_isInDrive) := ggX4_placeOf_X3_isInDrive
theorem dX4_placeOf_0 : decode cX4_placeOf 0 = .ok (.aload_n 0, 1) := by decide +kernel
theorem dX4_placeOf_1 : decode cX4_placeOf 1 = .ok (.iload_n 1, 1) := by decide +kernel
theorem dX4_placeOf_2 : decode cX4_placeOf 2 = .ok (.invokevirtual 63, 3) := by decide +kernel
theorem dX4_placeOf_5 : decode cX4_placeOf 5 = .ok (.astore_n 2, 1) := by decide +kernel
theorem dX4_placeOf_6 : decode cX4_placeOf 6 = .ok (.aload_n 2, 1) := by decide +kernel
theorem dX4_placeOf_7 : decode cX4_placeOf 7 = .ok (.invokevirtual 72, 3) := by decide +kernel
theorem dX4_placeOf_10 : decode cX4_placeOf 10 = .ok (.ifCond .eq 12, 3) := by decide +kernel
theorem dX4_placeOf_13 : decode cX4_placeOf 13 = .ok (.iconst (-1), 1) := by decide +kernel
theorem dX4_placeOf_14 : decode cX4_placeOf 14 = .ok (.aload_n 2, 1) := by decide +kernel
theorem dX4_placeOf_15 : decode cX4_placeOf 15 = .ok (.getfield 85, 3) := by decide +kernel
theorem dX4_placeOf_18 : decode cX4_placeOf 18 = .ok (.isub, 1) := by decide +kernel
theorem dX4_placeOf_19 : decode cX4_placeOf 19 = .ok (.goto 7, 3) := by decide +kernel
theorem dX4_placeOf_22 : decode cX4_placeOf 22 = .ok (.aload_n 2, 1) := by decide +kernel
theorem dX4_placeOf_23 : decode cX4_placeOf 23 = .ok (.getfield 82, 3) := by decide +kernel
theorem dX4_placeOf_26 : decode cX4_placeOf 26 = .ok (.ireturn, 1) := by decide +kernel
set_option maxRecDepth 20000 in
theorem ggX4_files_X4_tapeNumbered : GoodIn wsX4_files wsX4_tapeNumbered := goodIn_ca (goodIn_r _ [5, 6, 7, 8, 17, 18, 19, 20, 21, 22] (by decide +kernel) (by decide +kernel)) (goodIn_sub (fun _ h => List.mem_cons_of_mem _ (List.mem_append_right _ h)) (by decide +kernel))
set_option maxRecDepth 20000 in
theorem gX4_files_X4_tapeNumbered : GoodIn wsX4_files (wsV RX4 63 RX4 yX4_tapeNumbered wsX4_tapeNumbered) := goodIn_app (goodIn_of _ (by decide +kernel)) ggX4_files_X4_tapeNumbered
theorem dX4_files_0 : decode cX4_files 0 = .ok (.aload_n 0, 1) := by decide +kernel
theorem dX4_files_1 : decode cX4_files 1 = .ok (.iload_n 1, 1) := by decide +kernel
theorem dX4_files_2 : decode cX4_files 2 = .ok (.invokevirtual 63, 3) := by decide +kernel
theorem dX4_files_5 : decode cX4_files 5 = .ok (.getfield 88, 3) := by decide +kernel
theorem dX4_files_8 : decode cX4_files 8 = .ok (.ireturn, 1) := by decide +kernel
set_option maxRecDepth 20000 in
theorem ggX4_start_X4_tapeNumbered : GoodIn wsX4_start wsX4_tapeNumbered := goodIn_ca (goodIn_r _ [5, 6, 7, 8, 19, 20, 21, 22, 23, 24] (by decide +kernel) (by decide +kernel)) (goodIn_sub (fun _ h => List.mem_cons_of_mem _ (List.mem_append_right _ h)) (by decide +kernel))
set_option maxRecDepth 20000 in
theorem gX4_start_X4_tapeNumbered : GoodIn wsX4_start (wsV RX4 63 RX4 yX4_tapeNumbered wsX4_tapeNumbered) := goodIn_app (goodIn_of _ (by decide +kernel)) ggX4_start_X4_tapeNumbered
set_option maxRecDepth 20000 in
theorem ggX4_start_X4_refuseMissingFile : GoodIn wsX4_start wsX4_refuseMissingFile := goodIn_ca (goodIn_r _ [11, 6, 7, 25, 26, 27, 28, 29, 30, 31, 32] (by decide +kernel) (by decide +kernel)) (goodIn_sub (fun _ h => List.mem_cons_of_mem _ (List.mem_append_right _ h)) (by decide +kernel))
set_option maxRecDepth 20000 in
theorem gX4_start_X4_refuseMissingFile : GoodIn wsX4_start (va_wsS RX4 91 yX4_refuseMissingFile wsX4_refuseMissingFile) := goodIn_app (goodIn_of _ (by decide +kernel)) ggX4_start_X4_refuseMissingFile
set_option maxRecDepth 20000 in
theorem ggX4_start_X3_beginOf : GoodIn wsX4_start wsX3_beginOf := goodIn_r _ [15, 16, 17, 4, 18, 25, 26, 27, 28, 29, 30, 31, 32] (by decide +kernel) (by decide +kernel)
set_option maxRecDepth 20000 in
theorem gX4_start_X3_beginOf_n95 : GoodIn wsX4_start (wsX3_beginOf) := ggX4_start_X3_beginOf
theorem dX4_start_0 : decode cX4_start 0 = .ok (.aload_n 0, 1) := by decide +kernel
theorem dX4_start_1 : decode cX4_start 1 = .ok (.iload_n 1, 1) := by decide +kernel
theorem dX4_start_2 : decode cX4_start 2 = .ok (.invokevirtual 63, 3) := by decide +kernel
theorem dX4_start_5 : decode cX4_start 5 = .ok (.astore_n 3, 1) := by decide +kernel
theorem dX4_start_6 : decode cX4_start 6 = .ok (.aload_n 3, 1) := by decide +kernel
theorem dX4_start_7 : decode cX4_start 7 = .ok (.iload_n 2, 1) := by decide +kernel
theorem dX4_start_8 : decode cX4_start 8 = .ok (.invokestatic 91, 3) := by decide +kernel
theorem dX4_start_11 : decode cX4_start 11 = .ok (.aload_n 3, 1) := by decide +kernel
theorem dX4_start_12 : decode cX4_start 12 = .ok (.iload_n 2, 1) := by decide +kernel
theorem dX4_start_13 : decode cX4_start 13 = .ok (.invokevirtual 95, 3) := by decide +kernel
theorem dX4_start_16 : decode cX4_start 16 = .ok (.ireturn, 1) := by decide +kernel
set_option maxRecDepth 20000 in
theorem ggX4_along_X4_tapeNumbered : GoodIn wsX4_along wsX4_tapeNumbered := goodIn_ca (goodIn_r _ [7, 1, 2, 8, 26, 27, 28, 29, 30, 31] (by decide +kernel) (by decide +kernel)) (goodIn_sub (fun _ h => List.mem_cons_of_mem _ (List.mem_append_right _ h)) (by decide +kernel))
set_option maxRecDepth 20000 in
theorem gX4_along_X4_tapeNumbered : GoodIn wsX4_along (wsV RX4 63 RX4 yX4_tapeNumbered wsX4_tapeNumbered) := goodIn_app (goodIn_of _ (by decide +kernel)) ggX4_along_X4_tapeNumbered
set_option maxRecDepth 20000 in
theorem ggX4_along_X3_places : GoodIn wsX4_along wsX3_places := goodIn_r _ [12, 13, 14, 32, 33, 34, 35, 36, 37, 38, 39] (by decide +kernel) (by decide +kernel)
set_option maxRecDepth 20000 in
theorem gX4_along_X3_places_n99 : GoodIn wsX4_along (wsX3_places) := ggX4_along_X3_places
set_option maxRecDepth 20000 in
theorem ggX4_along_X3_distanceAlong : GoodIn wsX4_along wsX3_distanceAlong := goodIn_r _ [17, 14, 18, 19, 20, 21, 22, 23, 24, 10, 25, 13, 32, 33, 34, 35, 36, 37, 38, 39] (by decide +kernel) (by decide +kernel)
set_option maxRecDepth 20000 in
theorem gX4_along_X3_distanceAlong_n104 : GoodIn wsX4_along (wsX3_distanceAlong) := ggX4_along_X3_distanceAlong
theorem dX4_along_0 : decode cX4_along 0 = .ok (.aload_n 0, 1) := by decide +kernel
theorem dX4_along_1 : decode cX4_along 1 = .ok (.iload_n 1, 1) := by decide +kernel
theorem dX4_along_2 : decode cX4_along 2 = .ok (.invokevirtual 63, 3) := by decide +kernel
theorem dX4_along_5 : decode cX4_along 5 = .ok (.astore_n 3, 1) := by decide +kernel
theorem dX4_along_6 : decode cX4_along 6 = .ok (.iload_n 2, 1) := by decide +kernel
theorem dX4_along_7 : decode cX4_along 7 = .ok (.ifCond .lt 11, 3) := by decide +kernel
theorem dX4_along_10 : decode cX4_along 10 = .ok (.iload_n 2, 1) := by decide +kernel
theorem dX4_along_11 : decode cX4_along 11 = .ok (.aload_n 3, 1) := by decide +kernel
theorem dX4_along_12 : decode cX4_along 12 = .ok (.invokevirtual 99, 3) := by decide +kernel
theorem dX4_along_15 : decode cX4_along 15 = .ok (.if_icmp .lt 13, 3) := by decide +kernel
theorem dX4_along_18 : decode cX4_along 18 = .ok (.new 67, 3) := by decide +kernel
theorem dX4_along_21 : decode cX4_along 21 = .ok (.dup, 1) := by decide +kernel
theorem dX4_along_22 : decode cX4_along 22 = .ok (.ldc 102, 2) := by decide +kernel
theorem dX4_along_24 : decode cX4_along 24 = .ok (.invokespecial 71, 3) := by decide +kernel
theorem dX4_along_27 : decode cX4_along 27 = .ok (.athrow, 1) := by decide +kernel
theorem dX4_along_28 : decode cX4_along 28 = .ok (.aload_n 3, 1) := by decide +kernel
theorem dX4_along_29 : decode cX4_along 29 = .ok (.iload_n 2, 1) := by decide +kernel
theorem dX4_along_30 : decode cX4_along 30 = .ok (.invokevirtual 104, 3) := by decide +kernel
theorem dX4_along_33 : decode cX4_along 33 = .ok (.ireturn, 1) := by decide +kernel
set_option maxRecDepth 20000 in
theorem ggX4_drive_X0_init : GoodIn wsX4_drive wsX0_init := goodIn_r _ [11, 12, 13, 14, 15, 16, 17, 18, 19, 20, 21, 28, 29, 30, 31, 32, 33, 34] (by decide +kernel) (by decide +kernel)
set_option maxRecDepth 20000 in
theorem gX4_drive_X0_init_n111 : GoodIn wsX4_drive (wsX0_init) := ggX4_drive_X0_init
theorem dX4_drive_0 : decode cX4_drive 0 = .ok (.iload_n 1, 1) := by decide +kernel
theorem dX4_drive_1 : decode cX4_drive 1 = .ok (.ifCond .eq 18, 3) := by decide +kernel
theorem dX4_drive_4 : decode cX4_drive 4 = .ok (.iload_n 1, 1) := by decide +kernel
theorem dX4_drive_5 : decode cX4_drive 5 = .ok (.iconst 1, 1) := by decide +kernel
theorem dX4_drive_6 : decode cX4_drive 6 = .ok (.if_icmp .eq 13, 3) := by decide +kernel
theorem dX4_drive_9 : decode cX4_drive 9 = .ok (.new 42, 3) := by decide +kernel
theorem dX4_drive_12 : decode cX4_drive 12 = .ok (.dup, 1) := by decide +kernel
theorem dX4_drive_13 : decode cX4_drive 13 = .ok (.ldc 107, 2) := by decide +kernel
theorem dX4_drive_15 : decode cX4_drive 15 = .ok (.invokespecial 46, 3) := by decide +kernel
theorem dX4_drive_18 : decode cX4_drive 18 = .ok (.athrow, 1) := by decide +kernel
theorem dX4_drive_19 : decode cX4_drive 19 = .ok (.aload_n 0, 1) := by decide +kernel
theorem dX4_drive_20 : decode cX4_drive 20 = .ok (.getfield 25, 3) := by decide +kernel
theorem dX4_drive_23 : decode cX4_drive 23 = .ok (.aload_n 0, 1) := by decide +kernel
theorem dX4_drive_24 : decode cX4_drive 24 = .ok (.getfield 21, 3) := by decide +kernel
theorem dX4_drive_27 : decode cX4_drive 27 = .ok (.arraylength, 1) := by decide +kernel
theorem dX4_drive_28 : decode cX4_drive 28 = .ok (.if_icmp .lt 13, 3) := by decide +kernel
theorem dX4_drive_31 : decode cX4_drive 31 = .ok (.new 51, 3) := by decide +kernel
theorem dX4_drive_34 : decode cX4_drive 34 = .ok (.dup, 1) := by decide +kernel
theorem dX4_drive_35 : decode cX4_drive 35 = .ok (.ldc 109, 2) := by decide +kernel
theorem dX4_drive_37 : decode cX4_drive 37 = .ok (.invokespecial 55, 3) := by decide +kernel
theorem dX4_drive_40 : decode cX4_drive 40 = .ok (.athrow, 1) := by decide +kernel
theorem dX4_drive_41 : decode cX4_drive 41 = .ok (.aload_n 0, 1) := by decide +kernel
theorem dX4_drive_42 : decode cX4_drive 42 = .ok (.getfield 21, 3) := by decide +kernel
theorem dX4_drive_45 : decode cX4_drive 45 = .ok (.aload_n 0, 1) := by decide +kernel
theorem dX4_drive_46 : decode cX4_drive 46 = .ok (.getfield 25, 3) := by decide +kernel
theorem dX4_drive_49 : decode cX4_drive 49 = .ok (.iload_n 1, 1) := by decide +kernel
theorem dX4_drive_50 : decode cX4_drive 50 = .ok (.ifCond .ne 20, 3) := by decide +kernel
theorem dX4_drive_53 : decode cX4_drive 53 = .ok (.new 19, 3) := by decide +kernel
theorem dX4_drive_56 : decode cX4_drive 56 = .ok (.dup, 1) := by decide +kernel
theorem dX4_drive_57 : decode cX4_drive 57 = .ok (.aload_n 0, 1) := by decide +kernel
theorem dX4_drive_58 : decode cX4_drive 58 = .ok (.getfield 25, 3) := by decide +kernel
theorem dX4_drive_61 : decode cX4_drive 61 = .ok (.iconst 1, 1) := by decide +kernel
theorem dX4_drive_62 : decode cX4_drive 62 = .ok (.bipush 9, 2) := by decide +kernel
theorem dX4_drive_64 : decode cX4_drive 64 = .ok (.invokespecial 111, 3) := by decide +kernel
theorem dX4_drive_67 : decode cX4_drive 67 = .ok (.goto 16, 3) := by decide +kernel
theorem dX4_drive_70 : decode cX4_drive 70 = .ok (.new 19, 3) := by decide +kernel
theorem dX4_drive_73 : decode cX4_drive 73 = .ok (.dup, 1) := by decide +kernel
theorem dX4_drive_74 : decode cX4_drive 74 = .ok (.aload_n 0, 1) := by decide +kernel
theorem dX4_drive_75 : decode cX4_drive 75 = .ok (.getfield 25, 3) := by decide +kernel
theorem dX4_drive_78 : decode cX4_drive 78 = .ok (.iconst 2, 1) := by decide +kernel
theorem dX4_drive_79 : decode cX4_drive 79 = .ok (.iconst 1, 1) := by decide +kernel
theorem dX4_drive_80 : decode cX4_drive 80 = .ok (.invokespecial 111, 3) := by decide +kernel
theorem dX4_drive_83 : decode cX4_drive 83 = .ok (.aastore, 1) := by decide +kernel
theorem dX4_drive_84 : decode cX4_drive 84 = .ok (.aload_n 0, 1) := by decide +kernel
theorem dX4_drive_85 : decode cX4_drive 85 = .ok (.dup, 1) := by decide +kernel
theorem dX4_drive_86 : decode cX4_drive 86 = .ok (.getfield 25, 3) := by decide +kernel
theorem dX4_drive_89 : decode cX4_drive 89 = .ok (.iconst 1, 1) := by decide +kernel
theorem dX4_drive_90 : decode cX4_drive 90 = .ok (.iadd, 1) := by decide +kernel
theorem dX4_drive_91 : decode cX4_drive 91 = .ok (.putfield 25, 3) := by decide +kernel
theorem dX4_drive_94 : decode cX4_drive 94 = .ok (.aload_n 0, 1) := by decide +kernel
theorem dX4_drive_95 : decode cX4_drive 95 = .ok (.getfield 25, 3) := by decide +kernel
theorem dX4_drive_98 : decode cX4_drive 98 = .ok (.iconst 1, 1) := by decide +kernel
theorem dX4_drive_99 : decode cX4_drive 99 = .ok (.isub, 1) := by decide +kernel
theorem dX4_drive_100 : decode cX4_drive 100 = .ok (.ireturn, 1) := by decide +kernel
set_option maxRecDepth 20000 in
theorem ggX4_mount_X4_driveNumbered : GoodIn wsX4_mount wsX4_driveNumbered := goodIn_ca (goodIn_r _ [7, 8, 9, 10, 49, 50, 51, 52, 53, 54] (by decide +kernel) (by decide +kernel)) (goodIn_sub (fun _ h => List.mem_cons_of_mem _ (List.mem_append_right _ h)) (by decide +kernel))
set_option maxRecDepth 20000 in
theorem gX4_mount_X4_driveNumbered : GoodIn wsX4_mount (wsV RX4 114 RX4 yX4_driveNumbered wsX4_driveNumbered) := goodIn_app (goodIn_of _ (by decide +kernel)) ggX4_mount_X4_driveNumbered
set_option maxRecDepth 20000 in
theorem ggX4_mount_X4_tapeNumbered : GoodIn wsX4_mount wsX4_tapeNumbered := goodIn_ca (goodIn_r _ [14, 8, 9, 15, 49, 50, 51, 52, 53, 54] (by decide +kernel) (by decide +kernel)) (goodIn_sub (fun _ h => List.mem_cons_of_mem _ (List.mem_append_right _ h)) (by decide +kernel))
set_option maxRecDepth 20000 in
theorem gX4_mount_X4_tapeNumbered : GoodIn wsX4_mount (wsV RX4 63 RX4 yX4_tapeNumbered wsX4_tapeNumbered) := goodIn_app (goodIn_of _ (by decide +kernel)) ggX4_mount_X4_tapeNumbered
set_option maxRecDepth 20000 in
theorem ggX4_mount_X3_isInDrive : GoodIn wsX4_mount wsX3_isInDrive := goodIn_r _ [19, 20, 41, 42, 43, 44, 45, 46, 47, 48] (by decide +kernel) (by decide +kernel)
set_option maxRecDepth 20000 in
theorem gX4_mount_X3_isInDrive_n72 : GoodIn wsX4_mount (wsX3_isInDrive) := ggX4_mount_X3_isInDrive
set_option maxRecDepth 20000 in
theorem ggX4_mount_X0_robotTime : GoodIn wsX4_mount wsX0_robotTime := goodIn_r _ [24, 25, 26, 27, 28, 29, 34, 35, 36, 37, 38, 39, 40] (by decide +kernel) (by decide +kernel)
set_option maxRecDepth 20000 in
theorem gX4_mount_X0_robotTime_n134 : GoodIn wsX4_mount (wsX0_robotTime) := ggX4_mount_X0_robotTime
set_option maxRecDepth 20000 in
theorem ggX4_mount_X0_spend : GoodIn wsX4_mount wsX0_spend := goodIn_r _ [32, 33, 34, 35, 36, 37, 38, 39, 40] (by decide +kernel) (by decide +kernel)
set_option maxRecDepth 20000 in
theorem gX4_mount_X0_spend_n137 : GoodIn wsX4_mount (wsX0_spend) := ggX4_mount_X0_spend
theorem dX4_mount_0 : decode cX4_mount 0 = .ok (.aload_n 0, 1) := by decide +kernel
theorem dX4_mount_1 : decode cX4_mount 1 = .ok (.iload_n 1, 1) := by decide +kernel
theorem dX4_mount_2 : decode cX4_mount 2 = .ok (.invokevirtual 114, 3) := by decide +kernel
theorem dX4_mount_5 : decode cX4_mount 5 = .ok (.astore_n 3, 1) := by decide +kernel
theorem dX4_mount_6 : decode cX4_mount 6 = .ok (.aload_n 0, 1) := by decide +kernel
theorem dX4_mount_7 : decode cX4_mount 7 = .ok (.iload_n 2, 1) := by decide +kernel
theorem dX4_mount_8 : decode cX4_mount 8 = .ok (.invokevirtual 63, 3) := by decide +kernel
theorem dX4_mount_11 : decode cX4_mount 11 = .ok (.astore 4, 2) := by decide +kernel
theorem dX4_mount_13 : decode cX4_mount 13 = .ok (.aload_n 3, 1) := by decide +kernel
theorem dX4_mount_14 : decode cX4_mount 14 = .ok (.getfield 118, 3) := by decide +kernel
theorem dX4_mount_17 : decode cX4_mount 17 = .ok (.ifnonnull 19, 3) := by decide +kernel
theorem dX4_mount_20 : decode cX4_mount 20 = .ok (.aload 4, 2) := by decide +kernel
theorem dX4_mount_22 : decode cX4_mount 22 = .ok (.invokevirtual 72, 3) := by decide +kernel
theorem dX4_mount_25 : decode cX4_mount 25 = .ok (.ifCond .ne 11, 3) := by decide +kernel
theorem dX4_mount_28 : decode cX4_mount 28 = .ok (.aload 4, 2) := by decide +kernel
theorem dX4_mount_30 : decode cX4_mount 30 = .ok (.getfield 122, 3) := by decide +kernel
theorem dX4_mount_33 : decode cX4_mount 33 = .ok (.ifCond .ne 13, 3) := by decide +kernel
theorem dX4_mount_36 : decode cX4_mount 36 = .ok (.new 51, 3) := by decide +kernel
theorem dX4_mount_39 : decode cX4_mount 39 = .ok (.dup, 1) := by decide +kernel
theorem dX4_mount_40 : decode cX4_mount 40 = .ok (.ldc 126, 2) := by decide +kernel
theorem dX4_mount_42 : decode cX4_mount 42 = .ok (.invokespecial 55, 3) := by decide +kernel
theorem dX4_mount_45 : decode cX4_mount 45 = .ok (.athrow, 1) := by decide +kernel
theorem dX4_mount_46 : decode cX4_mount 46 = .ok (.aload_n 3, 1) := by decide +kernel
theorem dX4_mount_47 : decode cX4_mount 47 = .ok (.aload 4, 2) := by decide +kernel
theorem dX4_mount_49 : decode cX4_mount 49 = .ok (.putfield 118, 3) := by decide +kernel
theorem dX4_mount_52 : decode cX4_mount 52 = .ok (.aload_n 3, 1) := by decide +kernel
theorem dX4_mount_53 : decode cX4_mount 53 = .ok (.iconst 0, 1) := by decide +kernel
theorem dX4_mount_54 : decode cX4_mount 54 = .ok (.putfield 128, 3) := by decide +kernel
theorem dX4_mount_57 : decode cX4_mount 57 = .ok (.aload 4, 2) := by decide +kernel
theorem dX4_mount_59 : decode cX4_mount 59 = .ok (.aload_n 3, 1) := by decide +kernel
theorem dX4_mount_60 : decode cX4_mount 60 = .ok (.getfield 131, 3) := by decide +kernel
theorem dX4_mount_63 : decode cX4_mount 63 = .ok (.putfield 85, 3) := by decide +kernel
theorem dX4_mount_66 : decode cX4_mount 66 = .ok (.aload_n 3, 1) := by decide +kernel
theorem dX4_mount_67 : decode cX4_mount 67 = .ok (.aload_n 3, 1) := by decide +kernel
theorem dX4_mount_68 : decode cX4_mount 68 = .ok (.aload 4, 2) := by decide +kernel
theorem dX4_mount_70 : decode cX4_mount 70 = .ok (.getfield 82, 3) := by decide +kernel
theorem dX4_mount_73 : decode cX4_mount 73 = .ok (.invokevirtual 134, 3) := by decide +kernel
theorem dX4_mount_76 : decode cX4_mount 76 = .ok (.invokevirtual 137, 3) := by decide +kernel
theorem dX4_mount_79 : decode cX4_mount 79 = .ok (.ireturn, 1) := by decide +kernel
set_option maxRecDepth 20000 in
theorem ggX4_unmount_X4_driveNumbered : GoodIn wsX4_unmount wsX4_driveNumbered := goodIn_ca (goodIn_r _ [5, 6, 7, 8, 60, 61, 62, 63, 64, 65] (by decide +kernel) (by decide +kernel)) (goodIn_sub (fun _ h => List.mem_cons_of_mem _ (List.mem_append_left _ (List.mem_append_right _ h))) (by decide +kernel))
set_option maxRecDepth 20000 in
theorem gX4_unmount_X4_driveNumbered : GoodIn wsX4_unmount (wsV RX4 114 RX4 yX4_driveNumbered wsX4_driveNumbered) := goodIn_app (goodIn_of _ (by decide +kernel)) ggX4_unmount_X4_driveNumbered
set_option maxRecDepth 20000 in
theorem ggX4_unmount_X4_mountedIn : GoodIn wsX4_unmount wsX4_mountedIn := goodIn_ca (goodIn_r _ [11, 12, 13, 45, 46, 47, 48, 49, 50, 51] (by decide +kernel) (by decide +kernel)) (goodIn_sub (fun _ h => List.mem_cons_of_mem _ (List.mem_append_right _ h)) (by decide +kernel))
set_option maxRecDepth 20000 in
theorem gX4_unmount_X4_mountedIn : GoodIn wsX4_unmount (va_wsS RX4 140 yX4_mountedIn wsX4_mountedIn) := goodIn_app (goodIn_of _ (by decide +kernel)) ggX4_unmount_X4_mountedIn
set_option maxRecDepth 20000 in
theorem ggX4_unmount_X0_wayTime : GoodIn wsX4_unmount wsX0_wayTime := goodIn_r _ [17, 18, 19, 20, 21, 22, 23, 24, 25, 26, 27, 28, 29, 30, 31, 32, 33, 34, 35, 36, 45, 46, 47, 48, 49, 50, 51, 52, 53, 54, 55, 56, 57, 58, 59] (by decide +kernel) (by decide +kernel)
set_option maxRecDepth 20000 in
theorem gX4_unmount_X0_wayTime_n144 : GoodIn wsX4_unmount (wsX0_wayTime) := ggX4_unmount_X0_wayTime
set_option maxRecDepth 20000 in
theorem ggX4_unmount_X0_robotTime : GoodIn wsX4_unmount wsX0_robotTime := goodIn_r _ [39, 40, 18, 19, 20, 21, 45, 46, 47, 48, 49, 50, 51] (by decide +kernel) (by decide +kernel)
set_option maxRecDepth 20000 in
theorem gX4_unmount_X0_robotTime_n134 : GoodIn wsX4_unmount (wsX0_robotTime) := ggX4_unmount_X0_robotTime
set_option maxRecDepth 20000 in
theorem ggX4_unmount_X0_spend : GoodIn wsX4_unmount wsX0_spend := goodIn_r _ [43, 44, 45, 46, 47, 48, 49, 50, 51] (by decide +kernel) (by decide +kernel)
set_option maxRecDepth 20000 in
theorem gX4_unmount_X0_spend_n137 : GoodIn wsX4_unmount (wsX0_spend) := ggX4_unmount_X0_spend
theorem dX4_unmount_0 : decode cX4_unmount 0 = .ok (.aload_n 0, 1) := by decide +kernel
theorem dX4_unmount_1 : decode cX4_unmount 1 = .ok (.iload_n 1, 1) := by decide +kernel
theorem dX4_unmount_2 : decode cX4_unmount 2 = .ok (.invokevirtual 114, 3) := by decide +kernel
theorem dX4_unmount_5 : decode cX4_unmount 5 = .ok (.astore_n 2, 1) := by decide +kernel
theorem dX4_unmount_6 : decode cX4_unmount 6 = .ok (.aload_n 2, 1) := by decide +kernel
theorem dX4_unmount_7 : decode cX4_unmount 7 = .ok (.invokestatic 140, 3) := by decide +kernel
theorem dX4_unmount_10 : decode cX4_unmount 10 = .ok (.astore_n 3, 1) := by decide +kernel
theorem dX4_unmount_11 : decode cX4_unmount 11 = .ok (.aload_n 2, 1) := by decide +kernel
theorem dX4_unmount_12 : decode cX4_unmount 12 = .ok (.aload_n 3, 1) := by decide +kernel
theorem dX4_unmount_13 : decode cX4_unmount 13 = .ok (.aload_n 2, 1) := by decide +kernel
theorem dX4_unmount_14 : decode cX4_unmount 14 = .ok (.getfield 128, 3) := by decide +kernel
theorem dX4_unmount_17 : decode cX4_unmount 17 = .ok (.iconst 0, 1) := by decide +kernel
theorem dX4_unmount_18 : decode cX4_unmount 18 = .ok (.invokevirtual 144, 3) := by decide +kernel
theorem dX4_unmount_21 : decode cX4_unmount 21 = .ok (.istore 4, 2) := by decide +kernel
theorem dX4_unmount_23 : decode cX4_unmount 23 = .ok (.aload_n 2, 1) := by decide +kernel
theorem dX4_unmount_24 : decode cX4_unmount 24 = .ok (.aconst_null, 1) := by decide +kernel
theorem dX4_unmount_25 : decode cX4_unmount 25 = .ok (.putfield 118, 3) := by decide +kernel
theorem dX4_unmount_28 : decode cX4_unmount 28 = .ok (.aload_n 2, 1) := by decide +kernel
theorem dX4_unmount_29 : decode cX4_unmount 29 = .ok (.iconst (-1), 1) := by decide +kernel
theorem dX4_unmount_30 : decode cX4_unmount 30 = .ok (.putfield 128, 3) := by decide +kernel
theorem dX4_unmount_33 : decode cX4_unmount 33 = .ok (.aload_n 3, 1) := by decide +kernel
theorem dX4_unmount_34 : decode cX4_unmount 34 = .ok (.iconst (-1), 1) := by decide +kernel
theorem dX4_unmount_35 : decode cX4_unmount 35 = .ok (.putfield 85, 3) := by decide +kernel
theorem dX4_unmount_38 : decode cX4_unmount 38 = .ok (.aload_n 2, 1) := by decide +kernel
theorem dX4_unmount_39 : decode cX4_unmount 39 = .ok (.iload 4, 2) := by decide +kernel
theorem dX4_unmount_41 : decode cX4_unmount 41 = .ok (.aload_n 2, 1) := by decide +kernel
theorem dX4_unmount_42 : decode cX4_unmount 42 = .ok (.aload_n 3, 1) := by decide +kernel
theorem dX4_unmount_43 : decode cX4_unmount 43 = .ok (.getfield 82, 3) := by decide +kernel
theorem dX4_unmount_46 : decode cX4_unmount 46 = .ok (.invokevirtual 134, 3) := by decide +kernel
theorem dX4_unmount_49 : decode cX4_unmount 49 = .ok (.iadd, 1) := by decide +kernel
theorem dX4_unmount_50 : decode cX4_unmount 50 = .ok (.invokevirtual 137, 3) := by decide +kernel
theorem dX4_unmount_53 : decode cX4_unmount 53 = .ok (.ireturn, 1) := by decide +kernel
set_option maxRecDepth 20000 in
theorem ggX4_write_X4_driveNumbered : GoodIn wsX4_write wsX4_driveNumbered := goodIn_ca (goodIn_r _ [9, 10, 11, 12, 83, 84, 85, 86, 87, 88] (by decide +kernel) (by decide +kernel)) (goodIn_sub (fun _ h => List.mem_cons_of_mem _ (List.mem_append_right _ h)) (by decide +kernel))
set_option maxRecDepth 20000 in
theorem gX4_write_X4_driveNumbered : GoodIn wsX4_write (wsV RX4 114 RX4 yX4_driveNumbered wsX4_driveNumbered) := goodIn_app (goodIn_of _ (by decide +kernel)) ggX4_write_X4_driveNumbered
set_option maxRecDepth 20000 in
theorem ggX4_write_X4_mountedIn : GoodIn wsX4_write wsX4_mountedIn := goodIn_ca (goodIn_r _ [15, 3, 4, 89, 90, 91, 92, 93, 94, 95] (by decide +kernel) (by decide +kernel)) (goodIn_sub (fun _ h => List.mem_cons_of_mem _ (List.mem_append_left _ (List.mem_append_right _ h))) (by decide +kernel))
set_option maxRecDepth 20000 in
theorem gX4_write_X4_mountedIn : GoodIn wsX4_write (va_wsS RX4 140 yX4_mountedIn wsX4_mountedIn) := goodIn_app (goodIn_of _ (by decide +kernel)) ggX4_write_X4_mountedIn
set_option maxRecDepth 20000 in
theorem ggX4_write_X4_refuseUnclean : GoodIn wsX4_write wsX4_refuseUnclean := goodIn_ca (goodIn_r _ [18, 3, 4, 19, 20, 21, 22, 23, 89, 90, 91, 92, 93, 94, 95] (by decide +kernel) (by decide +kernel)) (goodIn_sub (fun _ h => List.mem_cons_of_mem _ (List.mem_append_left _ (List.mem_append_right _ h))) (by decide +kernel))
set_option maxRecDepth 20000 in
theorem gX4_write_X4_refuseUnclean : GoodIn wsX4_write (va_wsS RX4 150 yX4_refuseUnclean wsX4_refuseUnclean) := goodIn_app (goodIn_of _ (by decide +kernel)) ggX4_write_X4_refuseUnclean
set_option maxRecDepth 20000 in
theorem ggX4_write_X3_hasRoomFor : GoodIn wsX4_write wsX3_hasRoomFor := goodIn_r _ [27, 28, 29, 30, 31, 25, 32, 33, 34, 8, 35, 36, 37, 38, 39, 40, 41, 96, 97, 98, 99, 100, 101, 102, 103] (by decide +kernel) (by decide +kernel)
set_option maxRecDepth 20000 in
theorem gX4_write_X3_hasRoomFor_n154 : GoodIn wsX4_write (wsX3_hasRoomFor) := ggX4_write_X3_hasRoomFor
set_option maxRecDepth 20000 in
theorem ggX4_write_X3_append : GoodIn wsX4_write wsX3_append := goodIn_r _ [44, 33, 28, 29, 30, 31, 25, 32, 34, 8, 35, 45, 46, 96, 97, 98, 99, 100, 101, 102, 103] (by decide +kernel) (by decide +kernel)
set_option maxRecDepth 20000 in
theorem gX4_write_X3_append_n159 : GoodIn wsX4_write (wsX3_append) := ggX4_write_X3_append
set_option maxRecDepth 20000 in
theorem ggX4_write_X0_passFile : GoodIn wsX4_write wsX0_passFile := goodIn_r _ [49, 50, 23, 51, 52, 53, 20, 54, 30, 25, 31, 32, 33, 34, 8, 35, 55, 56, 57, 58, 59, 60, 61, 62, 63, 64, 65, 66, 67, 41, 68, 69, 70, 71, 72, 73, 74, 40, 75, 76, 77, 78, 79, 80, 81, 82, 89, 90, 91, 92, 93, 94, 95, 96, 97, 98, 99, 100, 101, 102, 103] (by decide +kernel) (by decide +kernel)
set_option maxRecDepth 20000 in
theorem gX4_write_X0_passFile_n162 : GoodIn wsX4_write (wsX0_passFile) := ggX4_write_X0_passFile
theorem dX4_write_0 : decode cX4_write 0 = .ok (.aload_n 0, 1) := by decide +kernel
theorem dX4_write_1 : decode cX4_write 1 = .ok (.iload_n 1, 1) := by decide +kernel
theorem dX4_write_2 : decode cX4_write 2 = .ok (.invokevirtual 114, 3) := by decide +kernel
theorem dX4_write_5 : decode cX4_write 5 = .ok (.astore_n 3, 1) := by decide +kernel
theorem dX4_write_6 : decode cX4_write 6 = .ok (.iload_n 2, 1) := by decide +kernel
theorem dX4_write_7 : decode cX4_write 7 = .ok (.iconst 1, 1) := by decide +kernel
theorem dX4_write_8 : decode cX4_write 8 = .ok (.if_icmp .lt 9, 3) := by decide +kernel
theorem dX4_write_11 : decode cX4_write 11 = .ok (.iload_n 2, 1) := by decide +kernel
theorem dX4_write_12 : decode cX4_write 12 = .ok (.bipush 100, 2) := by decide +kernel
theorem dX4_write_14 : decode cX4_write 14 = .ok (.if_icmp .le 13, 3) := by decide +kernel
theorem dX4_write_17 : decode cX4_write 17 = .ok (.new 42, 3) := by decide +kernel
theorem dX4_write_20 : decode cX4_write 20 = .ok (.dup, 1) := by decide +kernel
theorem dX4_write_21 : decode cX4_write 21 = .ok (.ldc 148, 2) := by decide +kernel
theorem dX4_write_23 : decode cX4_write 23 = .ok (.invokespecial 46, 3) := by decide +kernel
theorem dX4_write_26 : decode cX4_write 26 = .ok (.athrow, 1) := by decide +kernel
theorem dX4_write_27 : decode cX4_write 27 = .ok (.aload_n 3, 1) := by decide +kernel
theorem dX4_write_28 : decode cX4_write 28 = .ok (.invokestatic 140, 3) := by decide +kernel
theorem dX4_write_31 : decode cX4_write 31 = .ok (.astore 4, 2) := by decide +kernel
theorem dX4_write_33 : decode cX4_write 33 = .ok (.aload_n 3, 1) := by decide +kernel
theorem dX4_write_34 : decode cX4_write 34 = .ok (.invokestatic 150, 3) := by decide +kernel
theorem dX4_write_37 : decode cX4_write 37 = .ok (.aload 4, 2) := by decide +kernel
theorem dX4_write_39 : decode cX4_write 39 = .ok (.iload_n 2, 1) := by decide +kernel
theorem dX4_write_40 : decode cX4_write 40 = .ok (.invokevirtual 154, 3) := by decide +kernel
theorem dX4_write_43 : decode cX4_write 43 = .ok (.ifCond .ne 13, 3) := by decide +kernel
theorem dX4_write_46 : decode cX4_write 46 = .ok (.new 51, 3) := by decide +kernel
theorem dX4_write_49 : decode cX4_write 49 = .ok (.dup, 1) := by decide +kernel
theorem dX4_write_50 : decode cX4_write 50 = .ok (.ldc 157, 2) := by decide +kernel
theorem dX4_write_52 : decode cX4_write 52 = .ok (.invokespecial 55, 3) := by decide +kernel
theorem dX4_write_55 : decode cX4_write 55 = .ok (.athrow, 1) := by decide +kernel
theorem dX4_write_56 : decode cX4_write 56 = .ok (.aload 4, 2) := by decide +kernel
theorem dX4_write_58 : decode cX4_write 58 = .ok (.iload_n 2, 1) := by decide +kernel
theorem dX4_write_59 : decode cX4_write 59 = .ok (.invokevirtual 159, 3) := by decide +kernel
theorem dX4_write_62 : decode cX4_write 62 = .ok (.istore 5, 2) := by decide +kernel
theorem dX4_write_64 : decode cX4_write 64 = .ok (.aload_n 3, 1) := by decide +kernel
theorem dX4_write_65 : decode cX4_write 65 = .ok (.aload 4, 2) := by decide +kernel
theorem dX4_write_67 : decode cX4_write 67 = .ok (.iload 5, 2) := by decide +kernel
theorem dX4_write_69 : decode cX4_write 69 = .ok (.invokevirtual 162, 3) := by decide +kernel
theorem dX4_write_72 : decode cX4_write 72 = .ok (.ireturn, 1) := by decide +kernel
set_option maxRecDepth 20000 in
theorem ggX4_read_X4_driveNumbered : GoodIn wsX4_read wsX4_driveNumbered := goodIn_ca (goodIn_r _ [5, 6, 7, 8, 70, 71, 72, 73, 74, 75] (by decide +kernel) (by decide +kernel)) (goodIn_sub (fun _ h => List.mem_cons_of_mem _ (List.mem_append_left _ (List.mem_append_right _ h))) (by decide +kernel))
set_option maxRecDepth 20000 in
theorem gX4_read_X4_driveNumbered : GoodIn wsX4_read (wsV RX4 114 RX4 yX4_driveNumbered wsX4_driveNumbered) := goodIn_app (goodIn_of _ (by decide +kernel)) ggX4_read_X4_driveNumbered
set_option maxRecDepth 20000 in
theorem ggX4_read_X4_mountedIn : GoodIn wsX4_read wsX4_mountedIn := goodIn_ca (goodIn_r _ [11, 12, 13, 76, 77, 78, 79, 80, 81, 82] (by decide +kernel) (by decide +kernel)) (goodIn_sub (fun _ h => List.mem_cons_of_mem _ (List.mem_append_right _ h)) (by decide +kernel))
set_option maxRecDepth 20000 in
theorem gX4_read_X4_mountedIn : GoodIn wsX4_read (va_wsS RX4 140 yX4_mountedIn wsX4_mountedIn) := goodIn_app (goodIn_of _ (by decide +kernel)) ggX4_read_X4_mountedIn
set_option maxRecDepth 20000 in
theorem ggX4_read_X4_refuseMissingFile : GoodIn wsX4_read wsX4_refuseMissingFile := goodIn_ca (goodIn_r _ [16, 6, 7, 83, 84, 85, 86, 87, 88, 89, 90] (by decide +kernel) (by decide +kernel)) (goodIn_sub (fun _ h => List.mem_cons_of_mem _ (List.mem_append_left _ (List.mem_append_right _ h))) (by decide +kernel))
set_option maxRecDepth 20000 in
theorem gX4_read_X4_refuseMissingFile : GoodIn wsX4_read (va_wsS RX4 91 yX4_refuseMissingFile wsX4_refuseMissingFile) := goodIn_app (goodIn_of _ (by decide +kernel)) ggX4_read_X4_refuseMissingFile
set_option maxRecDepth 20000 in
theorem ggX4_read_X4_refuseUnclean : GoodIn wsX4_read wsX4_refuseUnclean := goodIn_ca (goodIn_r _ [19, 12, 13, 20, 21, 22, 23, 24, 76, 77, 78, 79, 80, 81, 82] (by decide +kernel) (by decide +kernel)) (goodIn_sub (fun _ h => List.mem_cons_of_mem _ (List.mem_append_right _ h)) (by decide +kernel))
set_option maxRecDepth 20000 in
theorem gX4_read_X4_refuseUnclean : GoodIn wsX4_read (va_wsS RX4 150 yX4_refuseUnclean wsX4_refuseUnclean) := goodIn_app (goodIn_of _ (by decide +kernel)) ggX4_read_X4_refuseUnclean
set_option maxRecDepth 20000 in
theorem ggX4_read_X0_passFile : GoodIn wsX4_read wsX0_passFile := goodIn_r _ [27, 28, 24, 29, 30, 31, 21, 32, 33, 34, 35, 36, 37, 38, 4, 39, 40, 41, 42, 43, 44, 45, 46, 47, 48, 49, 50, 51, 52, 53, 54, 55, 56, 57, 58, 59, 60, 61, 62, 63, 64, 65, 66, 67, 68, 69, 76, 77, 78, 79, 80, 81, 82, 83, 84, 85, 86, 87, 88, 89, 90] (by decide +kernel) (by decide +kernel)
set_option maxRecDepth 20000 in
theorem gX4_read_X0_passFile_n162 : GoodIn wsX4_read (wsX0_passFile) := ggX4_read_X0_passFile
theorem dX4_read_0 : decode cX4_read 0 = .ok (.aload_n 0, 1) := by decide +kernel
theorem dX4_read_1 : decode cX4_read 1 = .ok (.iload_n 1, 1) := by decide +kernel
theorem dX4_read_2 : decode cX4_read 2 = .ok (.invokevirtual 114, 3) := by decide +kernel
theorem dX4_read_5 : decode cX4_read 5 = .ok (.astore_n 3, 1) := by decide +kernel
theorem dX4_read_6 : decode cX4_read 6 = .ok (.aload_n 3, 1) := by decide +kernel
theorem dX4_read_7 : decode cX4_read 7 = .ok (.invokestatic 140, 3) := by decide +kernel
theorem dX4_read_10 : decode cX4_read 10 = .ok (.astore 4, 2) := by decide +kernel
theorem dX4_read_12 : decode cX4_read 12 = .ok (.aload 4, 2) := by decide +kernel
theorem dX4_read_14 : decode cX4_read 14 = .ok (.iload_n 2, 1) := by decide +kernel
theorem dX4_read_15 : decode cX4_read 15 = .ok (.invokestatic 91, 3) := by decide +kernel
theorem dX4_read_18 : decode cX4_read 18 = .ok (.aload_n 3, 1) := by decide +kernel
theorem dX4_read_19 : decode cX4_read 19 = .ok (.invokestatic 150, 3) := by decide +kernel
theorem dX4_read_22 : decode cX4_read 22 = .ok (.aload_n 3, 1) := by decide +kernel
theorem dX4_read_23 : decode cX4_read 23 = .ok (.aload 4, 2) := by decide +kernel
theorem dX4_read_25 : decode cX4_read 25 = .ok (.iload_n 2, 1) := by decide +kernel
theorem dX4_read_26 : decode cX4_read 26 = .ok (.invokevirtual 162, 3) := by decide +kernel
theorem dX4_read_29 : decode cX4_read 29 = .ok (.ireturn, 1) := by decide +kernel
set_option maxRecDepth 20000 in
theorem ggX4_clean_X4_driveNumbered : GoodIn wsX4_clean wsX4_driveNumbered := goodIn_ca (goodIn_r _ [7, 8, 9, 10, 23, 24, 25, 26, 27, 28] (by decide +kernel) (by decide +kernel)) (goodIn_sub (fun _ h => List.mem_cons_of_mem _ (List.mem_append_right _ h)) (by decide +kernel))
set_option maxRecDepth 20000 in
theorem gX4_clean_X4_driveNumbered : GoodIn wsX4_clean (wsV RX4 114 RX4 yX4_driveNumbered wsX4_driveNumbered) := goodIn_app (goodIn_of _ (by decide +kernel)) ggX4_clean_X4_driveNumbered
set_option maxRecDepth 20000 in
theorem ggX4_clean_X0_spend : GoodIn wsX4_clean wsX0_spend := goodIn_r _ [14, 15, 16, 17, 18, 19, 20, 21, 22] (by decide +kernel) (by decide +kernel)
set_option maxRecDepth 20000 in
theorem gX4_clean_X0_spend_n137 : GoodIn wsX4_clean (wsX0_spend) := ggX4_clean_X0_spend
theorem dX4_clean_0 : decode cX4_clean 0 = .ok (.aload_n 0, 1) := by decide +kernel
theorem dX4_clean_1 : decode cX4_clean 1 = .ok (.iload_n 1, 1) := by decide +kernel
theorem dX4_clean_2 : decode cX4_clean 2 = .ok (.invokevirtual 114, 3) := by decide +kernel
theorem dX4_clean_5 : decode cX4_clean 5 = .ok (.astore_n 2, 1) := by decide +kernel
theorem dX4_clean_6 : decode cX4_clean 6 = .ok (.aload_n 2, 1) := by decide +kernel
theorem dX4_clean_7 : decode cX4_clean 7 = .ok (.getfield 118, 3) := by decide +kernel
theorem dX4_clean_10 : decode cX4_clean 10 = .ok (.ifnull 13, 3) := by decide +kernel
theorem dX4_clean_13 : decode cX4_clean 13 = .ok (.new 51, 3) := by decide +kernel
theorem dX4_clean_16 : decode cX4_clean 16 = .ok (.dup, 1) := by decide +kernel
theorem dX4_clean_17 : decode cX4_clean 17 = .ok (.ldc 166, 2) := by decide +kernel
theorem dX4_clean_19 : decode cX4_clean 19 = .ok (.invokespecial 55, 3) := by decide +kernel
theorem dX4_clean_22 : decode cX4_clean 22 = .ok (.athrow, 1) := by decide +kernel
theorem dX4_clean_23 : decode cX4_clean 23 = .ok (.aload_n 2, 1) := by decide +kernel
theorem dX4_clean_24 : decode cX4_clean 24 = .ok (.getfield 168, 3) := by decide +kernel
theorem dX4_clean_27 : decode cX4_clean 27 = .ok (.istore_n 3, 1) := by decide +kernel
theorem dX4_clean_28 : decode cX4_clean 28 = .ok (.aload_n 2, 1) := by decide +kernel
theorem dX4_clean_29 : decode cX4_clean 29 = .ok (.iconst 0, 1) := by decide +kernel
theorem dX4_clean_30 : decode cX4_clean 30 = .ok (.putfield 168, 3) := by decide +kernel
theorem dX4_clean_33 : decode cX4_clean 33 = .ok (.aload_n 2, 1) := by decide +kernel
theorem dX4_clean_34 : decode cX4_clean 34 = .ok (.bipush 50, 2) := by decide +kernel
theorem dX4_clean_36 : decode cX4_clean 36 = .ok (.invokevirtual 137, 3) := by decide +kernel
theorem dX4_clean_39 : decode cX4_clean 39 = .ok (.pop, 1) := by decide +kernel
theorem dX4_clean_40 : decode cX4_clean 40 = .ok (.iload_n 3, 1) := by decide +kernel
theorem dX4_clean_41 : decode cX4_clean 41 = .ok (.ireturn, 1) := by decide +kernel
set_option maxRecDepth 20000 in
theorem ggX4_clock_X4_driveNumbered : GoodIn wsX4_clock wsX4_driveNumbered := goodIn_ca (goodIn_r _ [5, 6, 7, 8, 16, 17, 18, 19, 20, 21] (by decide +kernel) (by decide +kernel)) (goodIn_sub (fun _ h => List.mem_cons_of_mem _ (List.mem_append_right _ h)) (by decide +kernel))
set_option maxRecDepth 20000 in
theorem gX4_clock_X4_driveNumbered : GoodIn wsX4_clock (wsV RX4 114 RX4 yX4_driveNumbered wsX4_driveNumbered) := goodIn_app (goodIn_of _ (by decide +kernel)) ggX4_clock_X4_driveNumbered
theorem dX4_clock_0 : decode cX4_clock 0 = .ok (.aload_n 0, 1) := by decide +kernel
theorem dX4_clock_1 : decode cX4_clock 1 = .ok (.iload_n 1, 1) := by decide +kernel
theorem dX4_clock_2 : decode cX4_clock 2 = .ok (.invokevirtual 114, 3) := by decide +kernel
theorem dX4_clock_5 : decode cX4_clock 5 = .ok (.getfield 171, 3) := by decide +kernel
theorem dX4_clock_8 : decode cX4_clock 8 = .ok (.ireturn, 1) := by decide +kernel
set_option maxRecDepth 20000 in
theorem ggX4_stands_X4_driveNumbered : GoodIn wsX4_stands wsX4_driveNumbered := goodIn_ca (goodIn_r _ [5, 6, 7, 8, 16, 17, 18, 19, 20, 21] (by decide +kernel) (by decide +kernel)) (goodIn_sub (fun _ h => List.mem_cons_of_mem _ (List.mem_append_right _ h)) (by decide +kernel))
set_option maxRecDepth 20000 in
theorem gX4_stands_X4_driveNumbered : GoodIn wsX4_stands (wsV RX4 114 RX4 yX4_driveNumbered wsX4_driveNumbered) := goodIn_app (goodIn_of _ (by decide +kernel)) ggX4_stands_X4_driveNumbered
theorem dX4_stands_0 : decode cX4_stands 0 = .ok (.aload_n 0, 1) := by decide +kernel
theorem dX4_stands_1 : decode cX4_stands 1 = .ok (.iload_n 1, 1) := by decide +kernel
theorem dX4_stands_2 : decode cX4_stands 2 = .ok (.invokevirtual 114, 3) := by decide +kernel
theorem dX4_stands_5 : decode cX4_stands 5 = .ok (.getfield 128, 3) := by decide +kernel
theorem dX4_stands_8 : decode cX4_stands 8 = .ok (.ireturn, 1) := by decide +kernel
set_option maxRecDepth 20000 in
theorem ggX4_job_X4_tapeNumbered : GoodIn wsX4_job wsX4_tapeNumbered := goodIn_ca (goodIn_r _ [11, 12, 13, 14, 33, 34, 35, 36, 37, 38] (by decide +kernel) (by decide +kernel)) (goodIn_sub (fun _ h => List.mem_cons_of_mem _ (List.mem_append_right _ h)) (by decide +kernel))
set_option maxRecDepth 20000 in
theorem gX4_job_X4_tapeNumbered : GoodIn wsX4_job (wsV RX4 63 RX4 yX4_tapeNumbered wsX4_tapeNumbered) := goodIn_app (goodIn_of _ (by decide +kernel)) ggX4_job_X4_tapeNumbered
set_option maxRecDepth 20000 in
theorem ggX4_job_X4_refuseMissingFile : GoodIn wsX4_job wsX4_refuseMissingFile := goodIn_ca (goodIn_r _ [17, 12, 13, 44, 45, 46, 47, 48, 49, 50, 51] (by decide +kernel) (by decide +kernel)) (goodIn_sub (fun _ h => List.mem_cons_of_mem _ (List.mem_append_right _ h)) (by decide +kernel))
set_option maxRecDepth 20000 in
theorem gX4_job_X4_refuseMissingFile : GoodIn wsX4_job (va_wsS RX4 91 yX4_refuseMissingFile wsX4_refuseMissingFile) := goodIn_app (goodIn_of _ (by decide +kernel)) ggX4_job_X4_refuseMissingFile
set_option maxRecDepth 20000 in
theorem ggX4_job_X1_countAt : GoodIn wsX4_job wsX1_countAt := goodIn_r _ [21, 22, 23, 24, 10, 25, 39, 40, 41, 42, 43] (by decide +kernel) (by decide +kernel)
set_option maxRecDepth 20000 in
theorem gX4_job_X1_countAt_n180 : GoodIn wsX4_job (wsX1_countAt) := ggX4_job_X1_countAt
set_option maxRecDepth 20000 in
theorem ggX4_job_X1_enter : GoodIn wsX4_job wsX1_enter := goodIn_r _ [28, 23, 22, 29, 30, 31, 10, 32, 39, 40, 41, 42, 43] (by decide +kernel) (by decide +kernel)
set_option maxRecDepth 20000 in
theorem gX4_job_X1_enter_n185 : GoodIn wsX4_job (wsX1_enter) := ggX4_job_X1_enter
theorem dX4_job_0 : decode cX4_job 0 = .ok (.aload_n 0, 1) := by decide +kernel
theorem dX4_job_1 : decode cX4_job 1 = .ok (.iload_n 1, 1) := by decide +kernel
theorem dX4_job_2 : decode cX4_job 2 = .ok (.invokevirtual 63, 3) := by decide +kernel
theorem dX4_job_5 : decode cX4_job 5 = .ok (.astore 4, 2) := by decide +kernel
theorem dX4_job_7 : decode cX4_job 7 = .ok (.aload 4, 2) := by decide +kernel
theorem dX4_job_9 : decode cX4_job 9 = .ok (.iload_n 2, 1) := by decide +kernel
theorem dX4_job_10 : decode cX4_job 10 = .ok (.invokestatic 91, 3) := by decide +kernel
theorem dX4_job_13 : decode cX4_job 13 = .ok (.iload_n 3, 1) := by decide +kernel
theorem dX4_job_14 : decode cX4_job 14 = .ok (.ifCond .lt 9, 3) := by decide +kernel
theorem dX4_job_17 : decode cX4_job 17 = .ok (.iload_n 3, 1) := by decide +kernel
theorem dX4_job_18 : decode cX4_job 18 = .ok (.ldc 174, 2) := by decide +kernel
theorem dX4_job_20 : decode cX4_job 20 = .ok (.if_icmp .le 13, 3) := by decide +kernel
theorem dX4_job_23 : decode cX4_job 23 = .ok (.new 42, 3) := by decide +kernel
theorem dX4_job_26 : decode cX4_job 26 = .ok (.dup, 1) := by decide +kernel
theorem dX4_job_27 : decode cX4_job 27 = .ok (.ldc 175, 2) := by decide +kernel
theorem dX4_job_29 : decode cX4_job 29 = .ok (.invokespecial 46, 3) := by decide +kernel
theorem dX4_job_32 : decode cX4_job 32 = .ok (.athrow, 1) := by decide +kernel
theorem dX4_job_33 : decode cX4_job 33 = .ok (.aload_n 0, 1) := by decide +kernel
theorem dX4_job_34 : decode cX4_job 34 = .ok (.getfield 31, 3) := by decide +kernel
theorem dX4_job_37 : decode cX4_job 37 = .ok (.getfield 177, 3) := by decide +kernel
theorem dX4_job_40 : decode cX4_job 40 = .ok (.bipush 60, 2) := by decide +kernel
theorem dX4_job_42 : decode cX4_job 42 = .ok (.if_icmp .ge 16, 3) := by decide +kernel
theorem dX4_job_45 : decode cX4_job 45 = .ok (.aload_n 0, 1) := by decide +kernel
theorem dX4_job_46 : decode cX4_job 46 = .ok (.getfield 31, 3) := by decide +kernel
theorem dX4_job_49 : decode cX4_job 49 = .ok (.iload_n 1, 1) := by decide +kernel
theorem dX4_job_50 : decode cX4_job 50 = .ok (.invokevirtual 180, 3) := by decide +kernel
theorem dX4_job_53 : decode cX4_job 53 = .ok (.bipush 7, 2) := by decide +kernel
theorem dX4_job_55 : decode cX4_job 55 = .ok (.if_icmp .lt 13, 3) := by decide +kernel
theorem dX4_job_58 : decode cX4_job 58 = .ok (.new 51, 3) := by decide +kernel
theorem dX4_job_61 : decode cX4_job 61 = .ok (.dup, 1) := by decide +kernel
theorem dX4_job_62 : decode cX4_job 62 = .ok (.ldc 183, 2) := by decide +kernel
theorem dX4_job_64 : decode cX4_job 64 = .ok (.invokespecial 55, 3) := by decide +kernel
theorem dX4_job_67 : decode cX4_job 67 = .ok (.athrow, 1) := by decide +kernel
theorem dX4_job_68 : decode cX4_job 68 = .ok (.aload_n 0, 1) := by decide +kernel
theorem dX4_job_69 : decode cX4_job 69 = .ok (.getfield 31, 3) := by decide +kernel
theorem dX4_job_72 : decode cX4_job 72 = .ok (.iload_n 1, 1) := by decide +kernel
theorem dX4_job_73 : decode cX4_job 73 = .ok (.iload_n 2, 1) := by decide +kernel
theorem dX4_job_74 : decode cX4_job 74 = .ok (.iload_n 3, 1) := by decide +kernel
theorem dX4_job_75 : decode cX4_job 75 = .ok (.invokevirtual 185, 3) := by decide +kernel
theorem dX4_job_78 : decode cX4_job 78 = .ok (.ireturn, 1) := by decide +kernel
set_option maxRecDepth 20000 in
theorem ggX4_waiting_X4_tapeNumbered : GoodIn wsX4_waiting wsX4_tapeNumbered := goodIn_ca (goodIn_r _ [6, 7, 8, 9, 18, 19, 20, 21, 22, 23] (by decide +kernel) (by decide +kernel)) (goodIn_sub (fun _ h => List.mem_cons_of_mem _ (List.mem_append_right _ h)) (by decide +kernel))
set_option maxRecDepth 20000 in
theorem gX4_waiting_X4_tapeNumbered : GoodIn wsX4_waiting (wsV RX4 63 RX4 yX4_tapeNumbered wsX4_tapeNumbered) := goodIn_app (goodIn_of _ (by decide +kernel)) ggX4_waiting_X4_tapeNumbered
set_option maxRecDepth 20000 in
theorem ggX4_waiting_X1_countAt : GoodIn wsX4_waiting wsX1_countAt := goodIn_r _ [13, 14, 15, 16, 5, 17, 32, 33, 34, 35, 36] (by decide +kernel) (by decide +kernel)
set_option maxRecDepth 20000 in
theorem gX4_waiting_X1_countAt_n180 : GoodIn wsX4_waiting (wsX1_countAt) := ggX4_waiting_X1_countAt
theorem dX4_waiting_0 : decode cX4_waiting 0 = .ok (.aload_n 0, 1) := by decide +kernel
theorem dX4_waiting_1 : decode cX4_waiting 1 = .ok (.getfield 31, 3) := by decide +kernel
theorem dX4_waiting_4 : decode cX4_waiting 4 = .ok (.aload_n 0, 1) := by decide +kernel
theorem dX4_waiting_5 : decode cX4_waiting 5 = .ok (.iload_n 1, 1) := by decide +kernel
theorem dX4_waiting_6 : decode cX4_waiting 6 = .ok (.invokevirtual 63, 3) := by decide +kernel
theorem dX4_waiting_9 : decode cX4_waiting 9 = .ok (.getfield 189, 3) := by decide +kernel
theorem dX4_waiting_12 : decode cX4_waiting 12 = .ok (.invokevirtual 180, 3) := by decide +kernel
theorem dX4_waiting_15 : decode cX4_waiting 15 = .ok (.ireturn, 1) := by decide +kernel
set_option maxRecDepth 20000 in
theorem ggX4_next_X3_isInDrive : GoodIn wsX4_next wsX3_isInDrive := goodIn_r _ [6, 7, 32, 33, 34, 35, 36, 37, 38, 39] (by decide +kernel) (by decide +kernel)
set_option maxRecDepth 20000 in
theorem gX4_next_X3_isInDrive_n72 : GoodIn wsX4_next (wsX3_isInDrive) := ggX4_next_X3_isInDrive
set_option maxRecDepth 20000 in
theorem ggX4_next_X1_countAt : GoodIn wsX4_next wsX1_countAt := goodIn_r _ [11, 12, 13, 14, 15, 16, 40, 41, 42, 43, 44] (by decide +kernel) (by decide +kernel)
set_option maxRecDepth 20000 in
theorem gX4_next_X1_countAt_n180 : GoodIn wsX4_next (wsX1_countAt) := ggX4_next_X1_countAt
set_option maxRecDepth 20000 in
theorem ggX4_next_X1_earliestDeadlineAt : GoodIn wsX4_next wsX1_earliestDeadlineAt := goodIn_r _ [19, 20, 12, 13, 21, 22, 23, 24, 25, 14, 15, 16, 40, 41, 42, 43, 44] (by decide +kernel) (by decide +kernel)
set_option maxRecDepth 20000 in
theorem gX4_next_X1_earliestDeadlineAt_n190 : GoodIn wsX4_next (wsX1_earliestDeadlineAt) := ggX4_next_X1_earliestDeadlineAt
theorem dX4_next_0 : decode cX4_next 0 = .ok (.iconst (-1), 1) := by decide +kernel
theorem dX4_next_1 : decode cX4_next 1 = .ok (.istore_n 1, 1) := by decide +kernel
theorem dX4_next_2 : decode cX4_next 2 = .ok (.iconst 0, 1) := by decide +kernel
theorem dX4_next_3 : decode cX4_next 3 = .ok (.istore_n 2, 1) := by decide +kernel
theorem dX4_next_4 : decode cX4_next 4 = .ok (.iconst 0, 1) := by decide +kernel
theorem dX4_next_5 : decode cX4_next 5 = .ok (.istore_n 3, 1) := by decide +kernel
theorem dX4_next_6 : decode cX4_next 6 = .ok (.aload_n 0, 1) := by decide +kernel
theorem dX4_next_7 : decode cX4_next 7 = .ok (.getfield 11, 3) := by decide +kernel
theorem dX4_next_10 : decode cX4_next 10 = .ok (.astore 4, 2) := by decide +kernel
theorem dX4_next_12 : decode cX4_next 12 = .ok (.aload 4, 2) := by decide +kernel
theorem dX4_next_14 : decode cX4_next 14 = .ok (.arraylength, 1) := by decide +kernel
theorem dX4_next_15 : decode cX4_next 15 = .ok (.istore 5, 2) := by decide +kernel
theorem dX4_next_17 : decode cX4_next 17 = .ok (.iconst 0, 1) := by decide +kernel
theorem dX4_next_18 : decode cX4_next 18 = .ok (.istore 6, 2) := by decide +kernel
theorem dX4_next_20 : decode cX4_next 20 = .ok (.iload 6, 2) := by decide +kernel
theorem dX4_next_22 : decode cX4_next 22 = .ok (.iload 5, 2) := by decide +kernel
theorem dX4_next_24 : decode cX4_next 24 = .ok (.if_icmp .ge 117, 3) := by decide +kernel
theorem dX4_next_27 : decode cX4_next 27 = .ok (.aload 4, 2) := by decide +kernel
theorem dX4_next_29 : decode cX4_next 29 = .ok (.iload 6, 2) := by decide +kernel
theorem dX4_next_31 : decode cX4_next 31 = .ok (.aaload, 1) := by decide +kernel
theorem dX4_next_32 : decode cX4_next 32 = .ok (.astore 7, 2) := by decide +kernel
theorem dX4_next_34 : decode cX4_next 34 = .ok (.aload 7, 2) := by decide +kernel
theorem dX4_next_36 : decode cX4_next 36 = .ok (.ifnull 99, 3) := by decide +kernel
theorem dX4_next_39 : decode cX4_next 39 = .ok (.aload 7, 2) := by decide +kernel
theorem dX4_next_41 : decode cX4_next 41 = .ok (.invokevirtual 72, 3) := by decide +kernel
theorem dX4_next_44 : decode cX4_next 44 = .ok (.ifCond .ne 91, 3) := by decide +kernel
theorem dX4_next_47 : decode cX4_next 47 = .ok (.aload 7, 2) := by decide +kernel
theorem dX4_next_49 : decode cX4_next 49 = .ok (.getfield 122, 3) := by decide +kernel
theorem dX4_next_52 : decode cX4_next 52 = .ok (.ifCond .eq 83, 3) := by decide +kernel
theorem dX4_next_55 : decode cX4_next 55 = .ok (.aload_n 0, 1) := by decide +kernel
theorem dX4_next_56 : decode cX4_next 56 = .ok (.getfield 31, 3) := by decide +kernel
theorem dX4_next_59 : decode cX4_next 59 = .ok (.aload 7, 2) := by decide +kernel
theorem dX4_next_61 : decode cX4_next 61 = .ok (.getfield 189, 3) := by decide +kernel
theorem dX4_next_64 : decode cX4_next 64 = .ok (.invokevirtual 180, 3) := by decide +kernel
theorem dX4_next_67 : decode cX4_next 67 = .ok (.istore 8, 2) := by decide +kernel
theorem dX4_next_69 : decode cX4_next 69 = .ok (.aload_n 0, 1) := by decide +kernel
theorem dX4_next_70 : decode cX4_next 70 = .ok (.getfield 31, 3) := by decide +kernel
theorem dX4_next_73 : decode cX4_next 73 = .ok (.aload 7, 2) := by decide +kernel
theorem dX4_next_75 : decode cX4_next 75 = .ok (.getfield 189, 3) := by decide +kernel
theorem dX4_next_78 : decode cX4_next 78 = .ok (.invokevirtual 190, 3) := by decide +kernel
theorem dX4_next_81 : decode cX4_next 81 = .ok (.istore 9, 2) := by decide +kernel
theorem dX4_next_83 : decode cX4_next 83 = .ok (.iload_n 1, 1) := by decide +kernel
theorem dX4_next_84 : decode cX4_next 84 = .ok (.iconst (-1), 1) := by decide +kernel
theorem dX4_next_85 : decode cX4_next 85 = .ok (.if_icmp .eq 21, 3) := by decide +kernel
theorem dX4_next_88 : decode cX4_next 88 = .ok (.iload 9, 2) := by decide +kernel
theorem dX4_next_90 : decode cX4_next 90 = .ok (.iload_n 2, 1) := by decide +kernel
theorem dX4_next_91 : decode cX4_next 91 = .ok (.if_icmp .lt 15, 3) := by decide +kernel
theorem dX4_next_94 : decode cX4_next 94 = .ok (.iload 9, 2) := by decide +kernel
theorem dX4_next_96 : decode cX4_next 96 = .ok (.iload_n 2, 1) := by decide +kernel
theorem dX4_next_97 : decode cX4_next 97 = .ok (.if_icmp .ne 13, 3) := by decide +kernel
theorem dX4_next_100 : decode cX4_next 100 = .ok (.iload 8, 2) := by decide +kernel
theorem dX4_next_102 : decode cX4_next 102 = .ok (.iload_n 3, 1) := by decide +kernel
theorem dX4_next_103 : decode cX4_next 103 = .ok (.if_icmp .le 7, 3) := by decide +kernel
theorem dX4_next_106 : decode cX4_next 106 = .ok (.iconst 1, 1) := by decide +kernel
theorem dX4_next_107 : decode cX4_next 107 = .ok (.goto 4, 3) := by decide +kernel
theorem dX4_next_110 : decode cX4_next 110 = .ok (.iconst 0, 1) := by decide +kernel
theorem dX4_next_111 : decode cX4_next 111 = .ok (.istore 10, 2) := by decide +kernel
theorem dX4_next_113 : decode cX4_next 113 = .ok (.iload 8, 2) := by decide +kernel
theorem dX4_next_115 : decode cX4_next 115 = .ok (.ifCond .le 20, 3) := by decide +kernel
theorem dX4_next_118 : decode cX4_next 118 = .ok (.iload 10, 2) := by decide +kernel
theorem dX4_next_120 : decode cX4_next 120 = .ok (.ifCond .eq 15, 3) := by decide +kernel
theorem dX4_next_123 : decode cX4_next 123 = .ok (.aload 7, 2) := by decide +kernel
theorem dX4_next_125 : decode cX4_next 125 = .ok (.getfield 189, 3) := by decide +kernel
theorem dX4_next_128 : decode cX4_next 128 = .ok (.istore_n 1, 1) := by decide +kernel
theorem dX4_next_129 : decode cX4_next 129 = .ok (.iload 9, 2) := by decide +kernel
theorem dX4_next_131 : decode cX4_next 131 = .ok (.istore_n 2, 1) := by decide +kernel
theorem dX4_next_132 : decode cX4_next 132 = .ok (.iload 8, 2) := by decide +kernel
theorem dX4_next_134 : decode cX4_next 134 = .ok (.istore_n 3, 1) := by decide +kernel
theorem dX4_next_135 : decode cX4_next 135 = .ok (.iinc 6 1, 3) := by decide +kernel
theorem dX4_next_138 : decode cX4_next 138 = .ok (.goto (-118), 3) := by decide +kernel
theorem dX4_next_141 : decode cX4_next 141 = .ok (.iload_n 1, 1) := by decide +kernel
theorem dX4_next_142 : decode cX4_next 142 = .ok (.ireturn, 1) := by decide +kernel
set_option maxRecDepth 20000 in
theorem ggX4_bestTime_X4_driveNumbered : GoodIn wsX4_bestTime wsX4_driveNumbered := goodIn_ca (goodIn_r _ [6, 7, 8, 9, 100, 101, 102, 103, 104, 105] (by decide +kernel) (by decide +kernel)) (goodIn_sub (fun _ h => List.mem_cons_of_mem _ (List.mem_append_left _ (List.mem_append_right _ h))) (by decide +kernel))
set_option maxRecDepth 20000 in
theorem gX4_bestTime_X4_driveNumbered : GoodIn wsX4_bestTime (wsV RX4 114 RX4 yX4_driveNumbered wsX4_driveNumbered) := goodIn_app (goodIn_of _ (by decide +kernel)) ggX4_bestTime_X4_driveNumbered
set_option maxRecDepth 20000 in
theorem ggX4_bestTime_X4_measureOrders : GoodIn wsX4_bestTime wsX4_measureOrders := goodIn_ca (goodIn_r _ [13, 1, 14, 15, 16, 5, 17, 18, 19, 20, 21, 22, 23, 24, 25, 26, 27, 28, 29, 30, 31, 32, 33, 34, 35, 36, 37, 38, 39, 40, 41, 42, 43, 44, 45, 46, 47, 48, 49, 50, 51, 52, 53, 54, 55, 56, 57, 58, 59, 60, 61, 62, 63, 64, 65, 66, 67, 68, 69, 70, 71, 72, 73, 74, 75, 100, 101, 102, 103, 104, 105, 112, 113, 114, 115, 116, 117, 118, 119, 120, 121, 122, 123, 124, 125, 126, 106, 107, 108, 109, 110, 111, 127, 128, 129, 130, 131] (by decide +kernel) (by decide +kernel)) (goodIn_sub (fun _ h => List.mem_cons_of_mem _ (List.mem_append_right _ h)) (by decide +kernel))
set_option maxRecDepth 20000 in
theorem gX4_bestTime_X4_measureOrders : GoodIn wsX4_bestTime (wsV RX4 193 RX4 yX4_measureOrders wsX4_measureOrders) := goodIn_app (goodIn_of _ (by decide +kernel)) ggX4_bestTime_X4_measureOrders
set_option maxRecDepth 20000 in
theorem ggX4_bestTime_X2_findBest : GoodIn wsX4_bestTime wsX2_findBest := goodIn_r _ [78, 25, 79, 80, 81, 82, 83, 21, 84, 85, 86, 87, 88, 89, 90, 91, 92, 93, 94, 95, 96, 26, 37, 5, 38, 39, 40, 106, 107, 108, 109, 110, 111] (by decide +kernel) (by decide +kernel)
set_option maxRecDepth 20000 in
theorem gX4_bestTime_X2_findBest_n196 : GoodIn wsX4_bestTime (wsX2_findBest) := ggX4_bestTime_X2_findBest
set_option maxRecDepth 20000 in
theorem ggX4_bestTime_X2_timeOf : GoodIn wsX4_bestTime wsX2_timeOf := goodIn_r _ [99, 37, 5, 38, 93, 94, 95, 21, 96, 26, 106, 107, 108, 109, 110, 111] (by decide +kernel) (by decide +kernel)
set_option maxRecDepth 20000 in
theorem gX4_bestTime_X2_timeOf_n204 : GoodIn wsX4_bestTime (wsX2_timeOf) := ggX4_bestTime_X2_timeOf
theorem dX4_bestTime_0 : decode cX4_bestTime 0 = .ok (.aload_n 0, 1) := by decide +kernel
theorem dX4_bestTime_1 : decode cX4_bestTime 1 = .ok (.aload_n 0, 1) := by decide +kernel
theorem dX4_bestTime_2 : decode cX4_bestTime 2 = .ok (.iload_n 1, 1) := by decide +kernel
theorem dX4_bestTime_3 : decode cX4_bestTime 3 = .ok (.invokevirtual 114, 3) := by decide +kernel
theorem dX4_bestTime_6 : decode cX4_bestTime 6 = .ok (.invokevirtual 193, 3) := by decide +kernel
theorem dX4_bestTime_9 : decode cX4_bestTime 9 = .ok (.aload_n 0, 1) := by decide +kernel
theorem dX4_bestTime_10 : decode cX4_bestTime 10 = .ok (.getfield 38, 3) := by decide +kernel
theorem dX4_bestTime_13 : decode cX4_bestTime 13 = .ok (.invokevirtual 196, 3) := by decide +kernel
theorem dX4_bestTime_16 : decode cX4_bestTime 16 = .ok (.aload_n 0, 1) := by decide +kernel
theorem dX4_bestTime_17 : decode cX4_bestTime 17 = .ok (.getfield 38, 3) := by decide +kernel
theorem dX4_bestTime_20 : decode cX4_bestTime 20 = .ok (.aload_n 0, 1) := by decide +kernel
theorem dX4_bestTime_21 : decode cX4_bestTime 21 = .ok (.getfield 38, 3) := by decide +kernel
theorem dX4_bestTime_24 : decode cX4_bestTime 24 = .ok (.getfield 199, 3) := by decide +kernel
theorem dX4_bestTime_27 : decode cX4_bestTime 27 = .ok (.aload_n 0, 1) := by decide +kernel
theorem dX4_bestTime_28 : decode cX4_bestTime 28 = .ok (.getfield 38, 3) := by decide +kernel
theorem dX4_bestTime_31 : decode cX4_bestTime 31 = .ok (.getfield 203, 3) := by decide +kernel
theorem dX4_bestTime_34 : decode cX4_bestTime 34 = .ok (.invokevirtual 204, 3) := by decide +kernel
theorem dX4_bestTime_37 : decode cX4_bestTime 37 = .ok (.ireturn, 1) := by decide +kernel
set_option maxRecDepth 20000 in
theorem ggX4_bestJob_X4_driveNumbered : GoodIn wsX4_bestJob wsX4_driveNumbered := goodIn_ca (goodIn_r _ [8, 1, 2, 9, 100, 101, 102, 103, 104, 105] (by decide +kernel) (by decide +kernel)) (goodIn_sub (fun _ h => List.mem_cons_of_mem _ (List.mem_append_left _ (List.mem_append_right _ h))) (by decide +kernel))
set_option maxRecDepth 20000 in
theorem gX4_bestJob_X4_driveNumbered : GoodIn wsX4_bestJob (wsV RX4 114 RX4 yX4_driveNumbered wsX4_driveNumbered) := goodIn_app (goodIn_of _ (by decide +kernel)) ggX4_bestJob_X4_driveNumbered
set_option maxRecDepth 20000 in
theorem ggX4_bestJob_X4_measureOrders : GoodIn wsX4_bestJob wsX4_measureOrders := goodIn_ca (goodIn_r _ [13, 3, 14, 15, 16, 7, 17, 18, 19, 20, 21, 22, 23, 24, 25, 26, 27, 28, 29, 30, 31, 32, 33, 34, 35, 36, 37, 38, 39, 40, 41, 42, 43, 44, 45, 46, 47, 48, 49, 50, 51, 52, 53, 54, 55, 56, 57, 58, 59, 60, 61, 62, 63, 64, 65, 66, 67, 68, 69, 70, 71, 72, 73, 74, 75, 100, 101, 102, 103, 104, 105, 112, 113, 114, 115, 116, 117, 118, 119, 120, 121, 122, 123, 124, 125, 126, 106, 107, 108, 109, 110, 111, 127, 128, 129, 130, 131] (by decide +kernel) (by decide +kernel)) (goodIn_sub (fun _ h => List.mem_cons_of_mem _ (List.mem_append_right _ h)) (by decide +kernel))
set_option maxRecDepth 20000 in
theorem gX4_bestJob_X4_measureOrders : GoodIn wsX4_bestJob (wsV RX4 193 RX4 yX4_measureOrders wsX4_measureOrders) := goodIn_app (goodIn_of _ (by decide +kernel)) ggX4_bestJob_X4_measureOrders
set_option maxRecDepth 20000 in
theorem ggX4_bestJob_X2_findBest : GoodIn wsX4_bestJob wsX2_findBest := goodIn_r _ [78, 25, 79, 80, 81, 82, 83, 21, 84, 85, 86, 87, 88, 89, 90, 91, 92, 93, 94, 95, 96, 26, 37, 7, 38, 39, 40, 106, 107, 108, 109, 110, 111] (by decide +kernel) (by decide +kernel)
set_option maxRecDepth 20000 in
theorem gX4_bestJob_X2_findBest_n196 : GoodIn wsX4_bestJob (wsX2_findBest) := ggX4_bestJob_X2_findBest
set_option maxRecDepth 20000 in
theorem ggX4_bestJob_X2_bestJobAt : GoodIn wsX4_bestJob wsX2_bestJobAt := goodIn_r _ [99, 24, 80, 37, 7, 38, 106, 107, 108, 109, 110, 111] (by decide +kernel) (by decide +kernel)
set_option maxRecDepth 20000 in
theorem gX4_bestJob_X2_bestJobAt_n210 : GoodIn wsX4_bestJob (wsX2_bestJobAt) := ggX4_bestJob_X2_bestJobAt
theorem dX4_bestJob_0 : decode cX4_bestJob 0 = .ok (.aload_n 0, 1) := by decide +kernel
theorem dX4_bestJob_1 : decode cX4_bestJob 1 = .ok (.aload_n 0, 1) := by decide +kernel
theorem dX4_bestJob_2 : decode cX4_bestJob 2 = .ok (.iload_n 1, 1) := by decide +kernel
theorem dX4_bestJob_3 : decode cX4_bestJob 3 = .ok (.invokevirtual 114, 3) := by decide +kernel
theorem dX4_bestJob_6 : decode cX4_bestJob 6 = .ok (.invokevirtual 193, 3) := by decide +kernel
theorem dX4_bestJob_9 : decode cX4_bestJob 9 = .ok (.iload_n 2, 1) := by decide +kernel
theorem dX4_bestJob_10 : decode cX4_bestJob 10 = .ok (.ifCond .lt 14, 3) := by decide +kernel
theorem dX4_bestJob_13 : decode cX4_bestJob 13 = .ok (.iload_n 2, 1) := by decide +kernel
theorem dX4_bestJob_14 : decode cX4_bestJob 14 = .ok (.aload_n 0, 1) := by decide +kernel
theorem dX4_bestJob_15 : decode cX4_bestJob 15 = .ok (.getfield 38, 3) := by decide +kernel
theorem dX4_bestJob_18 : decode cX4_bestJob 18 = .ok (.getfield 203, 3) := by decide +kernel
theorem dX4_bestJob_21 : decode cX4_bestJob 21 = .ok (.if_icmp .lt 13, 3) := by decide +kernel
theorem dX4_bestJob_24 : decode cX4_bestJob 24 = .ok (.new 67, 3) := by decide +kernel
theorem dX4_bestJob_27 : decode cX4_bestJob 27 = .ok (.dup, 1) := by decide +kernel
theorem dX4_bestJob_28 : decode cX4_bestJob 28 = .ok (.ldc 208, 2) := by decide +kernel
theorem dX4_bestJob_30 : decode cX4_bestJob 30 = .ok (.invokespecial 71, 3) := by decide +kernel
theorem dX4_bestJob_33 : decode cX4_bestJob 33 = .ok (.athrow, 1) := by decide +kernel
theorem dX4_bestJob_34 : decode cX4_bestJob 34 = .ok (.aload_n 0, 1) := by decide +kernel
theorem dX4_bestJob_35 : decode cX4_bestJob 35 = .ok (.getfield 38, 3) := by decide +kernel
theorem dX4_bestJob_38 : decode cX4_bestJob 38 = .ok (.invokevirtual 196, 3) := by decide +kernel
theorem dX4_bestJob_41 : decode cX4_bestJob 41 = .ok (.aload_n 0, 1) := by decide +kernel
theorem dX4_bestJob_42 : decode cX4_bestJob 42 = .ok (.getfield 38, 3) := by decide +kernel
theorem dX4_bestJob_45 : decode cX4_bestJob 45 = .ok (.iload_n 2, 1) := by decide +kernel
theorem dX4_bestJob_46 : decode cX4_bestJob 46 = .ok (.invokevirtual 210, 3) := by decide +kernel
theorem dX4_bestJob_49 : decode cX4_bestJob 49 = .ok (.ireturn, 1) := by decide +kernel
set_option maxRecDepth 20000 in
theorem ggX4_insertedTime_X4_driveNumbered : GoodIn wsX4_insertedTime wsX4_driveNumbered := goodIn_ca (goodIn_r _ [6, 7, 8, 9, 96, 97, 98, 99, 100, 101] (by decide +kernel) (by decide +kernel)) (goodIn_sub (fun _ h => List.mem_cons_of_mem _ (List.mem_append_left _ (List.mem_append_right _ h))) (by decide +kernel))
set_option maxRecDepth 20000 in
theorem gX4_insertedTime_X4_driveNumbered : GoodIn wsX4_insertedTime (wsV RX4 114 RX4 yX4_driveNumbered wsX4_driveNumbered) := goodIn_app (goodIn_of _ (by decide +kernel)) ggX4_insertedTime_X4_driveNumbered
set_option maxRecDepth 20000 in
theorem ggX4_insertedTime_X4_measureOrders : GoodIn wsX4_insertedTime wsX4_measureOrders := goodIn_ca (goodIn_r _ [13, 1, 14, 15, 16, 5, 17, 18, 19, 20, 21, 22, 23, 24, 25, 26, 27, 28, 29, 30, 31, 32, 33, 34, 35, 36, 37, 38, 39, 40, 41, 42, 43, 44, 45, 46, 47, 48, 49, 50, 51, 52, 53, 54, 55, 56, 57, 58, 59, 60, 61, 62, 63, 64, 65, 66, 67, 68, 69, 70, 71, 72, 73, 74, 75, 96, 97, 98, 99, 100, 101, 102, 103, 104, 105, 106, 107, 108, 109, 110, 111, 112, 113, 114, 115, 116, 117, 118, 119, 120, 121, 122, 123, 124, 125, 126, 127] (by decide +kernel) (by decide +kernel)) (goodIn_sub (fun _ h => List.mem_cons_of_mem _ (List.mem_append_right _ h)) (by decide +kernel))
set_option maxRecDepth 20000 in
theorem gX4_insertedTime_X4_measureOrders : GoodIn wsX4_insertedTime (wsV RX4 193 RX4 yX4_measureOrders wsX4_measureOrders) := goodIn_app (goodIn_of _ (by decide +kernel)) ggX4_insertedTime_X4_measureOrders
set_option maxRecDepth 20000 in
theorem ggX4_insertedTime_X2_timeByInsertion : GoodIn wsX4_insertedTime wsX2_timeByInsertion := goodIn_r _ [78, 25, 79, 80, 81, 82, 21, 83, 39, 5, 40, 84, 85, 86, 87, 37, 38, 88, 89, 90, 91, 26, 92, 93, 94, 95, 117, 118, 119, 120, 121, 122] (by decide +kernel) (by decide +kernel)
set_option maxRecDepth 20000 in
theorem gX4_insertedTime_X2_timeByInsertion_n213 : GoodIn wsX4_insertedTime (wsX2_timeByInsertion) := ggX4_insertedTime_X2_timeByInsertion
theorem dX4_insertedTime_0 : decode cX4_insertedTime 0 = .ok (.aload_n 0, 1) := by decide +kernel
theorem dX4_insertedTime_1 : decode cX4_insertedTime 1 = .ok (.aload_n 0, 1) := by decide +kernel
theorem dX4_insertedTime_2 : decode cX4_insertedTime 2 = .ok (.iload_n 1, 1) := by decide +kernel
theorem dX4_insertedTime_3 : decode cX4_insertedTime 3 = .ok (.invokevirtual 114, 3) := by decide +kernel
theorem dX4_insertedTime_6 : decode cX4_insertedTime 6 = .ok (.invokevirtual 193, 3) := by decide +kernel
theorem dX4_insertedTime_9 : decode cX4_insertedTime 9 = .ok (.aload_n 0, 1) := by decide +kernel
theorem dX4_insertedTime_10 : decode cX4_insertedTime 10 = .ok (.getfield 38, 3) := by decide +kernel
theorem dX4_insertedTime_13 : decode cX4_insertedTime 13 = .ok (.invokevirtual 213, 3) := by decide +kernel
theorem dX4_insertedTime_16 : decode cX4_insertedTime 16 = .ok (.ireturn, 1) := by decide +kernel
set_option maxRecDepth 20000 in
theorem ggX4_triedTime_X4_driveNumbered : GoodIn wsX4_triedTime wsX4_driveNumbered := goodIn_ca (goodIn_r _ [6, 7, 8, 9, 97, 98, 99, 100, 101, 102] (by decide +kernel) (by decide +kernel)) (goodIn_sub (fun _ h => List.mem_cons_of_mem _ (List.mem_append_left _ (List.mem_append_right _ h))) (by decide +kernel))
set_option maxRecDepth 20000 in
theorem gX4_triedTime_X4_driveNumbered : GoodIn wsX4_triedTime (wsV RX4 114 RX4 yX4_driveNumbered wsX4_driveNumbered) := goodIn_app (goodIn_of _ (by decide +kernel)) ggX4_triedTime_X4_driveNumbered
set_option maxRecDepth 20000 in
theorem ggX4_triedTime_X4_measureOrders : GoodIn wsX4_triedTime wsX4_measureOrders := goodIn_ca (goodIn_r _ [13, 1, 14, 15, 16, 5, 17, 18, 19, 20, 21, 22, 23, 24, 25, 26, 27, 28, 29, 30, 31, 32, 33, 34, 35, 36, 37, 38, 39, 40, 41, 42, 43, 44, 45, 46, 47, 48, 49, 50, 51, 52, 53, 54, 55, 56, 57, 58, 59, 60, 61, 62, 63, 64, 65, 66, 67, 68, 69, 70, 71, 72, 73, 74, 75, 97, 98, 99, 100, 101, 102, 103, 104, 105, 106, 107, 108, 109, 110, 111, 112, 113, 114, 115, 116, 117, 118, 119, 120, 121, 122, 123, 124, 125, 126, 127, 128] (by decide +kernel) (by decide +kernel)) (goodIn_sub (fun _ h => List.mem_cons_of_mem _ (List.mem_append_right _ h)) (by decide +kernel))
set_option maxRecDepth 20000 in
theorem gX4_triedTime_X4_measureOrders : GoodIn wsX4_triedTime (wsV RX4 193 RX4 yX4_measureOrders wsX4_measureOrders) := goodIn_app (goodIn_of _ (by decide +kernel)) ggX4_triedTime_X4_measureOrders
set_option maxRecDepth 20000 in
theorem ggX4_triedTime_X2_timeByTrying : GoodIn wsX4_triedTime wsX2_timeByTrying := goodIn_r _ [78, 25, 79, 80, 34, 35, 36, 39, 5, 40, 81, 82, 83, 21, 84, 37, 38, 85, 86, 87, 88, 26, 89, 90, 91, 92, 93, 94, 95, 96, 118, 119, 120, 121, 122, 123] (by decide +kernel) (by decide +kernel)
set_option maxRecDepth 20000 in
theorem gX4_triedTime_X2_timeByTrying_n216 : GoodIn wsX4_triedTime (wsX2_timeByTrying) := ggX4_triedTime_X2_timeByTrying
theorem dX4_triedTime_0 : decode cX4_triedTime 0 = .ok (.aload_n 0, 1) := by decide +kernel
theorem dX4_triedTime_1 : decode cX4_triedTime 1 = .ok (.aload_n 0, 1) := by decide +kernel
theorem dX4_triedTime_2 : decode cX4_triedTime 2 = .ok (.iload_n 1, 1) := by decide +kernel
theorem dX4_triedTime_3 : decode cX4_triedTime 3 = .ok (.invokevirtual 114, 3) := by decide +kernel
theorem dX4_triedTime_6 : decode cX4_triedTime 6 = .ok (.invokevirtual 193, 3) := by decide +kernel
theorem dX4_triedTime_9 : decode cX4_triedTime 9 = .ok (.aload_n 0, 1) := by decide +kernel
theorem dX4_triedTime_10 : decode cX4_triedTime 10 = .ok (.getfield 38, 3) := by decide +kernel
theorem dX4_triedTime_13 : decode cX4_triedTime 13 = .ok (.invokevirtual 216, 3) := by decide +kernel
theorem dX4_triedTime_16 : decode cX4_triedTime 16 = .ok (.ireturn, 1) := by decide +kernel
set_option maxRecDepth 20000 in
theorem ggX4_work_X4_driveNumbered : GoodIn wsX4_work wsX4_driveNumbered := goodIn_ca (goodIn_r _ [7, 8, 9, 10, 125, 126, 127, 128, 129, 130] (by decide +kernel) (by decide +kernel)) (goodIn_sub (fun _ h => List.mem_cons_of_mem _ (List.mem_append_left _ (List.mem_append_right _ h))) (by decide +kernel))
set_option maxRecDepth 20000 in
theorem gX4_work_X4_driveNumbered : GoodIn wsX4_work (wsV RX4 114 RX4 yX4_driveNumbered wsX4_driveNumbered) := goodIn_app (goodIn_of _ (by decide +kernel)) ggX4_work_X4_driveNumbered
set_option maxRecDepth 20000 in
theorem ggX4_work_X4_mountedIn : GoodIn wsX4_work wsX4_mountedIn := goodIn_ca (goodIn_r _ [13, 14, 15, 137, 138, 139, 140, 141, 142, 143] (by decide +kernel) (by decide +kernel)) (goodIn_sub (fun _ h => List.mem_cons_of_mem _ (List.mem_append_right _ h)) (by decide +kernel))
set_option maxRecDepth 20000 in
theorem gX4_work_X4_mountedIn : GoodIn wsX4_work (va_wsS RX4 140 yX4_mountedIn wsX4_mountedIn) := goodIn_app (goodIn_of _ (by decide +kernel)) ggX4_work_X4_mountedIn
set_option maxRecDepth 20000 in
theorem ggX4_work_X4_refuseUnclean : GoodIn wsX4_work wsX4_refuseUnclean := goodIn_ca (goodIn_r _ [18, 14, 15, 19, 20, 21, 22, 23, 137, 138, 139, 140, 141, 142, 143] (by decide +kernel) (by decide +kernel)) (goodIn_sub (fun _ h => List.mem_cons_of_mem _ (List.mem_append_right _ h)) (by decide +kernel))
set_option maxRecDepth 20000 in
theorem gX4_work_X4_refuseUnclean : GoodIn wsX4_work (va_wsS RX4 150 yX4_refuseUnclean wsX4_refuseUnclean) := goodIn_app (goodIn_of _ (by decide +kernel)) ggX4_work_X4_refuseUnclean
set_option maxRecDepth 20000 in
theorem ggX4_work_X4_measureOrders : GoodIn wsX4_work wsX4_measureOrders := goodIn_ca (goodIn_r _ [27, 1, 2, 11, 12, 6, 13, 14, 15, 28, 29, 30, 31, 32, 33, 34, 35, 36, 37, 38, 39, 40, 41, 42, 43, 44, 45, 46, 47, 48, 49, 50, 51, 52, 53, 20, 54, 55, 56, 57, 58, 59, 60, 61, 62, 63, 64, 65, 66, 67, 68, 69, 70, 71, 72, 73, 74, 75, 76, 77, 78, 79, 80, 81, 82, 125, 126, 127, 128, 129, 130, 137, 138, 139, 140, 141, 142, 143, 144, 145, 146, 147, 148, 149, 150, 151, 131, 132, 133, 134, 135, 136, 152, 153, 154, 155, 156] (by decide +kernel) (by decide +kernel)) (goodIn_sub (fun _ h => List.mem_cons_of_mem _ (List.mem_append_right _ h)) (by decide +kernel))
set_option maxRecDepth 20000 in
theorem gX4_work_X4_measureOrders : GoodIn wsX4_work (wsV RX4 193 RX4 yX4_measureOrders wsX4_measureOrders) := goodIn_app (goodIn_of _ (by decide +kernel)) ggX4_work_X4_measureOrders
set_option maxRecDepth 20000 in
theorem ggX4_work_X2_findBest : GoodIn wsX4_work wsX2_findBest := goodIn_r _ [85, 33, 86, 87, 88, 89, 90, 29, 91, 92, 93, 94, 95, 96, 97, 98, 99, 100, 101, 102, 103, 34, 45, 6, 46, 47, 48, 131, 132, 133, 134, 135, 136] (by decide +kernel) (by decide +kernel)
set_option maxRecDepth 20000 in
theorem gX4_work_X2_findBest_n196 : GoodIn wsX4_work (wsX2_findBest) := ggX4_work_X2_findBest
set_option maxRecDepth 20000 in
theorem ggX4_work_X0_wantsCleaning : GoodIn wsX4_work wsX0_wantsCleaning := goodIn_r _ [22, 23, 137, 138, 139, 140, 141, 142, 143] (by decide +kernel) (by decide +kernel)
set_option maxRecDepth 20000 in
theorem gX4_work_X0_wantsCleaning_n219 : GoodIn wsX4_work (wsX0_wantsCleaning) := ggX4_work_X0_wantsCleaning
set_option maxRecDepth 20000 in
theorem ggX4_work_X2_bestJobAt : GoodIn wsX4_work wsX2_bestJobAt := goodIn_r _ [106, 32, 87, 45, 6, 46, 131, 132, 133, 134, 135, 136] (by decide +kernel) (by decide +kernel)
set_option maxRecDepth 20000 in
theorem gX4_work_X2_bestJobAt_n210 : GoodIn wsX4_work (wsX2_bestJobAt) := ggX4_work_X2_bestJobAt
set_option maxRecDepth 20000 in
theorem ggX4_work_X1_fileOf : GoodIn wsX4_work wsX1_fileOf := goodIn_r _ [51, 52, 45, 6, 46, 152, 153, 154, 155, 156] (by decide +kernel) (by decide +kernel)
set_option maxRecDepth 20000 in
theorem gX4_work_X1_fileOf_n222 : GoodIn wsX4_work (wsX1_fileOf) := ggX4_work_X1_fileOf
set_option maxRecDepth 20000 in
theorem ggX4_work_X0_passFile : GoodIn wsX4_work wsX0_passFile := goodIn_r _ [109, 110, 23, 111, 53, 54, 20, 55, 56, 57, 58, 59, 60, 45, 6, 46, 61, 62, 63, 64, 65, 66, 43, 67, 68, 69, 70, 71, 72, 73, 74, 42, 44, 75, 76, 77, 78, 79, 80, 81, 82, 112, 113, 114, 115, 116, 137, 138, 139, 140, 141, 142, 143, 144, 145, 146, 147, 148, 149, 150, 151] (by decide +kernel) (by decide +kernel)
set_option maxRecDepth 20000 in
theorem gX4_work_X0_passFile_n162 : GoodIn wsX4_work (wsX0_passFile) := ggX4_work_X0_passFile
set_option maxRecDepth 20000 in
theorem ggX4_work_X1_finish : GoodIn wsX4_work wsX1_finish := goodIn_r _ [119, 40, 120, 47, 6, 48, 152, 153, 154, 155, 156] (by decide +kernel) (by decide +kernel)
set_option maxRecDepth 20000 in
theorem gX4_work_X1_finish_n225 : GoodIn wsX4_work (wsX1_finish) := ggX4_work_X1_finish
set_option maxRecDepth 20000 in
theorem ggX4_work_X1_deadlineOf : GoodIn wsX4_work wsX1_deadlineOf := goodIn_r _ [123, 124, 45, 6, 46, 152, 153, 154, 155, 156] (by decide +kernel) (by decide +kernel)
set_option maxRecDepth 20000 in
theorem gX4_work_X1_deadlineOf_n229 : GoodIn wsX4_work (wsX1_deadlineOf) := ggX4_work_X1_deadlineOf
theorem dX4_work_0 : decode cX4_work 0 = .ok (.aload_n 0, 1) := by decide +kernel
theorem dX4_work_1 : decode cX4_work 1 = .ok (.iload_n 1, 1) := by decide +kernel
theorem dX4_work_2 : decode cX4_work 2 = .ok (.invokevirtual 114, 3) := by decide +kernel
theorem dX4_work_5 : decode cX4_work 5 = .ok (.astore_n 2, 1) := by decide +kernel
theorem dX4_work_6 : decode cX4_work 6 = .ok (.aload_n 2, 1) := by decide +kernel
theorem dX4_work_7 : decode cX4_work 7 = .ok (.invokestatic 140, 3) := by decide +kernel
theorem dX4_work_10 : decode cX4_work 10 = .ok (.astore_n 3, 1) := by decide +kernel
theorem dX4_work_11 : decode cX4_work 11 = .ok (.aload_n 2, 1) := by decide +kernel
theorem dX4_work_12 : decode cX4_work 12 = .ok (.invokestatic 150, 3) := by decide +kernel
theorem dX4_work_15 : decode cX4_work 15 = .ok (.aload_n 0, 1) := by decide +kernel
theorem dX4_work_16 : decode cX4_work 16 = .ok (.aload_n 2, 1) := by decide +kernel
theorem dX4_work_17 : decode cX4_work 17 = .ok (.invokevirtual 193, 3) := by decide +kernel
theorem dX4_work_20 : decode cX4_work 20 = .ok (.aload_n 0, 1) := by decide +kernel
theorem dX4_work_21 : decode cX4_work 21 = .ok (.getfield 38, 3) := by decide +kernel
theorem dX4_work_24 : decode cX4_work 24 = .ok (.invokevirtual 196, 3) := by decide +kernel
theorem dX4_work_27 : decode cX4_work 27 = .ok (.iconst 0, 1) := by decide +kernel
theorem dX4_work_28 : decode cX4_work 28 = .ok (.istore 4, 2) := by decide +kernel
theorem dX4_work_30 : decode cX4_work 30 = .ok (.iconst 0, 1) := by decide +kernel
theorem dX4_work_31 : decode cX4_work 31 = .ok (.istore 5, 2) := by decide +kernel
theorem dX4_work_33 : decode cX4_work 33 = .ok (.iload 5, 2) := by decide +kernel
theorem dX4_work_35 : decode cX4_work 35 = .ok (.aload_n 0, 1) := by decide +kernel
theorem dX4_work_36 : decode cX4_work 36 = .ok (.getfield 38, 3) := by decide +kernel
theorem dX4_work_39 : decode cX4_work 39 = .ok (.getfield 203, 3) := by decide +kernel
theorem dX4_work_42 : decode cX4_work 42 = .ok (.if_icmp .ge 70, 3) := by decide +kernel
theorem dX4_work_45 : decode cX4_work 45 = .ok (.aload_n 2, 1) := by decide +kernel
theorem dX4_work_46 : decode cX4_work 46 = .ok (.invokevirtual 219, 3) := by decide +kernel
theorem dX4_work_49 : decode cX4_work 49 = .ok (.ifCond .ne 63, 3) := by decide +kernel
theorem dX4_work_52 : decode cX4_work 52 = .ok (.aload_n 0, 1) := by decide +kernel
theorem dX4_work_53 : decode cX4_work 53 = .ok (.getfield 38, 3) := by decide +kernel
theorem dX4_work_56 : decode cX4_work 56 = .ok (.iload 5, 2) := by decide +kernel
theorem dX4_work_58 : decode cX4_work 58 = .ok (.invokevirtual 210, 3) := by decide +kernel
theorem dX4_work_61 : decode cX4_work 61 = .ok (.istore 6, 2) := by decide +kernel
theorem dX4_work_63 : decode cX4_work 63 = .ok (.aload_n 2, 1) := by decide +kernel
theorem dX4_work_64 : decode cX4_work 64 = .ok (.aload_n 3, 1) := by decide +kernel
theorem dX4_work_65 : decode cX4_work 65 = .ok (.aload_n 0, 1) := by decide +kernel
theorem dX4_work_66 : decode cX4_work 66 = .ok (.getfield 31, 3) := by decide +kernel
theorem dX4_work_69 : decode cX4_work 69 = .ok (.iload 6, 2) := by decide +kernel
theorem dX4_work_71 : decode cX4_work 71 = .ok (.invokevirtual 222, 3) := by decide +kernel
theorem dX4_work_74 : decode cX4_work 74 = .ok (.invokevirtual 162, 3) := by decide +kernel
theorem dX4_work_77 : decode cX4_work 77 = .ok (.pop, 1) := by decide +kernel
theorem dX4_work_78 : decode cX4_work 78 = .ok (.aload_n 0, 1) := by decide +kernel
theorem dX4_work_79 : decode cX4_work 79 = .ok (.getfield 31, 3) := by decide +kernel
theorem dX4_work_82 : decode cX4_work 82 = .ok (.iload 6, 2) := by decide +kernel
theorem dX4_work_84 : decode cX4_work 84 = .ok (.invokevirtual 225, 3) := by decide +kernel
theorem dX4_work_87 : decode cX4_work 87 = .ok (.aload_n 2, 1) := by decide +kernel
theorem dX4_work_88 : decode cX4_work 88 = .ok (.getfield 171, 3) := by decide +kernel
theorem dX4_work_91 : decode cX4_work 91 = .ok (.aload_n 0, 1) := by decide +kernel
theorem dX4_work_92 : decode cX4_work 92 = .ok (.getfield 31, 3) := by decide +kernel
theorem dX4_work_95 : decode cX4_work 95 = .ok (.iload 6, 2) := by decide +kernel
theorem dX4_work_97 : decode cX4_work 97 = .ok (.invokevirtual 229, 3) := by decide +kernel
theorem dX4_work_100 : decode cX4_work 100 = .ok (.if_icmp .le 6, 3) := by decide +kernel
theorem dX4_work_103 : decode cX4_work 103 = .ok (.iinc 4 1, 3) := by decide +kernel
theorem dX4_work_106 : decode cX4_work 106 = .ok (.iinc 5 1, 3) := by decide +kernel
theorem dX4_work_109 : decode cX4_work 109 = .ok (.goto (-76), 3) := by decide +kernel
theorem dX4_work_112 : decode cX4_work 112 = .ok (.iload 4, 2) := by decide +kernel
theorem dX4_work_114 : decode cX4_work 114 = .ok (.ireturn, 1) := by decide +kernel
theorem dX4_done_0 : decode cX4_done 0 = .ok (.aload_n 0, 1) := by decide +kernel
theorem dX4_done_1 : decode cX4_done 1 = .ok (.getfield 31, 3) := by decide +kernel
theorem dX4_done_4 : decode cX4_done 4 = .ok (.getfield 232, 3) := by decide +kernel
theorem dX4_done_7 : decode cX4_done 7 = .ok (.ireturn, 1) := by decide +kernel
set_option maxRecDepth 20000 in
theorem ggX4_lose_X4_tapeNumbered : GoodIn wsX4_lose wsX4_tapeNumbered := goodIn_ca (goodIn_r _ [7, 8, 9, 10, 28, 29, 30, 31, 32, 33] (by decide +kernel) (by decide +kernel)) (goodIn_sub (fun _ h => List.mem_cons_of_mem _ (List.mem_append_right _ h)) (by decide +kernel))
set_option maxRecDepth 20000 in
theorem gX4_lose_X4_tapeNumbered : GoodIn wsX4_lose (wsV RX4 63 RX4 yX4_tapeNumbered wsX4_tapeNumbered) := goodIn_app (goodIn_of _ (by decide +kernel)) ggX4_lose_X4_tapeNumbered
set_option maxRecDepth 20000 in
theorem ggX4_lose_X3_isInDrive : GoodIn wsX4_lose wsX3_isInDrive := goodIn_r _ [14, 15, 20, 21, 22, 23, 24, 25, 26, 27] (by decide +kernel) (by decide +kernel)
set_option maxRecDepth 20000 in
theorem gX4_lose_X3_isInDrive_n72 : GoodIn wsX4_lose (wsX3_isInDrive) := ggX4_lose_X3_isInDrive
set_option maxRecDepth 20000 in
theorem ggX4_lose_X4_countWithoutLabels : GoodIn wsX4_lose wsX4_countWithoutLabels := goodIn_r _ [19, 10, 28, 29, 30, 31, 32, 33, 20, 21, 22, 23, 24, 25, 26, 27] (by decide +kernel) (by decide +kernel)
set_option maxRecDepth 20000 in
theorem gX4_lose_X4_countWithoutLabels : GoodIn wsX4_lose (wsV RX4 237 RX4 yX4_countWithoutLabels wsX4_countWithoutLabels) := goodIn_app (goodIn_of _ (by decide +kernel)) ggX4_lose_X4_countWithoutLabels
theorem dX4_lose_0 : decode cX4_lose 0 = .ok (.aload_n 0, 1) := by decide +kernel
theorem dX4_lose_1 : decode cX4_lose 1 = .ok (.iload_n 1, 1) := by decide +kernel
theorem dX4_lose_2 : decode cX4_lose 2 = .ok (.invokevirtual 63, 3) := by decide +kernel
theorem dX4_lose_5 : decode cX4_lose 5 = .ok (.astore_n 2, 1) := by decide +kernel
theorem dX4_lose_6 : decode cX4_lose 6 = .ok (.aload_n 2, 1) := by decide +kernel
theorem dX4_lose_7 : decode cX4_lose 7 = .ok (.invokevirtual 72, 3) := by decide +kernel
theorem dX4_lose_10 : decode cX4_lose 10 = .ok (.ifCond .ne 10, 3) := by decide +kernel
theorem dX4_lose_13 : decode cX4_lose 13 = .ok (.aload_n 2, 1) := by decide +kernel
theorem dX4_lose_14 : decode cX4_lose 14 = .ok (.getfield 122, 3) := by decide +kernel
theorem dX4_lose_17 : decode cX4_lose 17 = .ok (.ifCond .ne 13, 3) := by decide +kernel
theorem dX4_lose_20 : decode cX4_lose 20 = .ok (.new 51, 3) := by decide +kernel
theorem dX4_lose_23 : decode cX4_lose 23 = .ok (.dup, 1) := by decide +kernel
theorem dX4_lose_24 : decode cX4_lose 24 = .ok (.ldc 235, 2) := by decide +kernel
theorem dX4_lose_26 : decode cX4_lose 26 = .ok (.invokespecial 55, 3) := by decide +kernel
theorem dX4_lose_29 : decode cX4_lose 29 = .ok (.athrow, 1) := by decide +kernel
theorem dX4_lose_30 : decode cX4_lose 30 = .ok (.aload_n 2, 1) := by decide +kernel
theorem dX4_lose_31 : decode cX4_lose 31 = .ok (.iconst 0, 1) := by decide +kernel
theorem dX4_lose_32 : decode cX4_lose 32 = .ok (.putfield 122, 3) := by decide +kernel
theorem dX4_lose_35 : decode cX4_lose 35 = .ok (.aload_n 0, 1) := by decide +kernel
theorem dX4_lose_36 : decode cX4_lose 36 = .ok (.invokevirtual 237, 3) := by decide +kernel
theorem dX4_lose_39 : decode cX4_lose 39 = .ok (.ireturn, 1) := by decide +kernel
set_option maxRecDepth 20000 in
theorem ggX4_inventory_X4_countWithoutLabels : GoodIn wsX4_inventory wsX4_countWithoutLabels := goodIn_r _ [6, 1, 20, 21, 22, 23, 24, 25, 26, 27, 28, 29, 30, 31, 32, 33] (by decide +kernel) (by decide +kernel)
set_option maxRecDepth 20000 in
theorem gX4_inventory_X4_countWithoutLabels : GoodIn wsX4_inventory (wsV RX4 237 RX4 yX4_countWithoutLabels wsX4_countWithoutLabels) := goodIn_app (goodIn_of _ (by decide +kernel)) ggX4_inventory_X4_countWithoutLabels
set_option maxRecDepth 20000 in
theorem ggX4_inventory_X4_highestSlotWithTape : GoodIn wsX4_inventory wsX4_highestSlotWithTape := goodIn_r _ [10, 1, 11, 12, 13, 14, 15, 16, 17, 18, 19, 20, 21, 22, 23, 24, 25, 26, 27, 28, 29, 30, 31, 32, 33] (by decide +kernel) (by decide +kernel)
set_option maxRecDepth 20000 in
theorem gX4_inventory_X4_highestSlotWithTape : GoodIn wsX4_inventory (wsV RX4 240 RX4 yX4_highestSlotWithTape wsX4_highestSlotWithTape) := goodIn_app (goodIn_of _ (by decide +kernel)) ggX4_inventory_X4_highestSlotWithTape
theorem dX4_inventory_0 : decode cX4_inventory 0 = .ok (.iconst 5, 1) := by decide +kernel
theorem dX4_inventory_1 : decode cX4_inventory 1 = .ok (.aload_n 0, 1) := by decide +kernel
theorem dX4_inventory_2 : decode cX4_inventory 2 = .ok (.invokevirtual 237, 3) := by decide +kernel
theorem dX4_inventory_5 : decode cX4_inventory 5 = .ok (.imul, 1) := by decide +kernel
theorem dX4_inventory_6 : decode cX4_inventory 6 = .ok (.iconst 2, 1) := by decide +kernel
theorem dX4_inventory_7 : decode cX4_inventory 7 = .ok (.aload_n 0, 1) := by decide +kernel
theorem dX4_inventory_8 : decode cX4_inventory 8 = .ok (.invokevirtual 240, 3) := by decide +kernel
theorem dX4_inventory_11 : decode cX4_inventory 11 = .ok (.imul, 1) := by decide +kernel
theorem dX4_inventory_12 : decode cX4_inventory 12 = .ok (.iadd, 1) := by decide +kernel
theorem dX4_inventory_13 : decode cX4_inventory 13 = .ok (.istore_n 1, 1) := by decide +kernel
theorem dX4_inventory_14 : decode cX4_inventory 14 = .ok (.aload_n 0, 1) := by decide +kernel
theorem dX4_inventory_15 : decode cX4_inventory 15 = .ok (.getfield 11, 3) := by decide +kernel
theorem dX4_inventory_18 : decode cX4_inventory 18 = .ok (.astore_n 2, 1) := by decide +kernel
theorem dX4_inventory_19 : decode cX4_inventory 19 = .ok (.aload_n 2, 1) := by decide +kernel
theorem dX4_inventory_20 : decode cX4_inventory 20 = .ok (.arraylength, 1) := by decide +kernel
theorem dX4_inventory_21 : decode cX4_inventory 21 = .ok (.istore_n 3, 1) := by decide +kernel
theorem dX4_inventory_22 : decode cX4_inventory 22 = .ok (.iconst 0, 1) := by decide +kernel
theorem dX4_inventory_23 : decode cX4_inventory 23 = .ok (.istore 4, 2) := by decide +kernel
theorem dX4_inventory_25 : decode cX4_inventory 25 = .ok (.iload 4, 2) := by decide +kernel
theorem dX4_inventory_27 : decode cX4_inventory 27 = .ok (.iload_n 3, 1) := by decide +kernel
theorem dX4_inventory_28 : decode cX4_inventory 28 = .ok (.if_icmp .ge 26, 3) := by decide +kernel
theorem dX4_inventory_31 : decode cX4_inventory 31 = .ok (.aload_n 2, 1) := by decide +kernel
theorem dX4_inventory_32 : decode cX4_inventory 32 = .ok (.iload 4, 2) := by decide +kernel
theorem dX4_inventory_34 : decode cX4_inventory 34 = .ok (.aaload, 1) := by decide +kernel
theorem dX4_inventory_35 : decode cX4_inventory 35 = .ok (.astore 5, 2) := by decide +kernel
theorem dX4_inventory_37 : decode cX4_inventory 37 = .ok (.aload 5, 2) := by decide +kernel
theorem dX4_inventory_39 : decode cX4_inventory 39 = .ok (.ifnull 9, 3) := by decide +kernel
theorem dX4_inventory_42 : decode cX4_inventory 42 = .ok (.aload 5, 2) := by decide +kernel
theorem dX4_inventory_44 : decode cX4_inventory 44 = .ok (.iconst 1, 1) := by decide +kernel
theorem dX4_inventory_45 : decode cX4_inventory 45 = .ok (.putfield 122, 3) := by decide +kernel
theorem dX4_inventory_48 : decode cX4_inventory 48 = .ok (.iinc 4 1, 3) := by decide +kernel
theorem dX4_inventory_51 : decode cX4_inventory 51 = .ok (.goto (-26), 3) := by decide +kernel
theorem dX4_inventory_54 : decode cX4_inventory 54 = .ok (.iload_n 1, 1) := by decide +kernel
theorem dX4_inventory_55 : decode cX4_inventory 55 = .ok (.ireturn, 1) := by decide +kernel
theorem dX4_tapeNumbered_0 : decode cX4_tapeNumbered 0 = .ok (.iload_n 1, 1) := by decide +kernel
theorem dX4_tapeNumbered_1 : decode cX4_tapeNumbered 1 = .ok (.ifCond .lt 21, 3) := by decide +kernel
theorem dX4_tapeNumbered_4 : decode cX4_tapeNumbered 4 = .ok (.iload_n 1, 1) := by decide +kernel
theorem dX4_tapeNumbered_5 : decode cX4_tapeNumbered 5 = .ok (.aload_n 0, 1) := by decide +kernel
theorem dX4_tapeNumbered_6 : decode cX4_tapeNumbered 6 = .ok (.getfield 11, 3) := by decide +kernel
theorem dX4_tapeNumbered_9 : decode cX4_tapeNumbered 9 = .ok (.arraylength, 1) := by decide +kernel
theorem dX4_tapeNumbered_10 : decode cX4_tapeNumbered 10 = .ok (.if_icmp .ge 12, 3) := by decide +kernel
theorem dX4_tapeNumbered_13 : decode cX4_tapeNumbered 13 = .ok (.aload_n 0, 1) := by decide +kernel
theorem dX4_tapeNumbered_14 : decode cX4_tapeNumbered 14 = .ok (.getfield 11, 3) := by decide +kernel
theorem dX4_tapeNumbered_17 : decode cX4_tapeNumbered 17 = .ok (.iload_n 1, 1) := by decide +kernel
theorem dX4_tapeNumbered_18 : decode cX4_tapeNumbered 18 = .ok (.aaload, 1) := by decide +kernel
theorem dX4_tapeNumbered_19 : decode cX4_tapeNumbered 19 = .ok (.goto 4, 3) := by decide +kernel
theorem dX4_tapeNumbered_22 : decode cX4_tapeNumbered 22 = .ok (.aconst_null, 1) := by decide +kernel
theorem dX4_tapeNumbered_23 : decode cX4_tapeNumbered 23 = .ok (.astore_n 2, 1) := by decide +kernel
theorem dX4_tapeNumbered_24 : decode cX4_tapeNumbered 24 = .ok (.aload_n 2, 1) := by decide +kernel
theorem dX4_tapeNumbered_25 : decode cX4_tapeNumbered 25 = .ok (.ifnonnull 13, 3) := by decide +kernel
theorem dX4_tapeNumbered_28 : decode cX4_tapeNumbered 28 = .ok (.new 67, 3) := by decide +kernel
theorem dX4_tapeNumbered_31 : decode cX4_tapeNumbered 31 = .ok (.dup, 1) := by decide +kernel
theorem dX4_tapeNumbered_32 : decode cX4_tapeNumbered 32 = .ok (.ldc 243, 2) := by decide +kernel
theorem dX4_tapeNumbered_34 : decode cX4_tapeNumbered 34 = .ok (.invokespecial 71, 3) := by decide +kernel
theorem dX4_tapeNumbered_37 : decode cX4_tapeNumbered 37 = .ok (.athrow, 1) := by decide +kernel
theorem dX4_tapeNumbered_38 : decode cX4_tapeNumbered 38 = .ok (.aload_n 2, 1) := by decide +kernel
theorem dX4_tapeNumbered_39 : decode cX4_tapeNumbered 39 = .ok (.areturn, 1) := by decide +kernel
theorem dX4_driveNumbered_0 : decode cX4_driveNumbered 0 = .ok (.iload_n 1, 1) := by decide +kernel
theorem dX4_driveNumbered_1 : decode cX4_driveNumbered 1 = .ok (.ifCond .lt 21, 3) := by decide +kernel
theorem dX4_driveNumbered_4 : decode cX4_driveNumbered 4 = .ok (.iload_n 1, 1) := by decide +kernel
theorem dX4_driveNumbered_5 : decode cX4_driveNumbered 5 = .ok (.aload_n 0, 1) := by decide +kernel
theorem dX4_driveNumbered_6 : decode cX4_driveNumbered 6 = .ok (.getfield 21, 3) := by decide +kernel
theorem dX4_driveNumbered_9 : decode cX4_driveNumbered 9 = .ok (.arraylength, 1) := by decide +kernel
theorem dX4_driveNumbered_10 : decode cX4_driveNumbered 10 = .ok (.if_icmp .ge 12, 3) := by decide +kernel
theorem dX4_driveNumbered_13 : decode cX4_driveNumbered 13 = .ok (.aload_n 0, 1) := by decide +kernel
theorem dX4_driveNumbered_14 : decode cX4_driveNumbered 14 = .ok (.getfield 21, 3) := by decide +kernel
theorem dX4_driveNumbered_17 : decode cX4_driveNumbered 17 = .ok (.iload_n 1, 1) := by decide +kernel
theorem dX4_driveNumbered_18 : decode cX4_driveNumbered 18 = .ok (.aaload, 1) := by decide +kernel
theorem dX4_driveNumbered_19 : decode cX4_driveNumbered 19 = .ok (.goto 4, 3) := by decide +kernel
theorem dX4_driveNumbered_22 : decode cX4_driveNumbered 22 = .ok (.aconst_null, 1) := by decide +kernel
theorem dX4_driveNumbered_23 : decode cX4_driveNumbered 23 = .ok (.astore_n 2, 1) := by decide +kernel
theorem dX4_driveNumbered_24 : decode cX4_driveNumbered 24 = .ok (.aload_n 2, 1) := by decide +kernel
theorem dX4_driveNumbered_25 : decode cX4_driveNumbered 25 = .ok (.ifnonnull 13, 3) := by decide +kernel
theorem dX4_driveNumbered_28 : decode cX4_driveNumbered 28 = .ok (.new 67, 3) := by decide +kernel
theorem dX4_driveNumbered_31 : decode cX4_driveNumbered 31 = .ok (.dup, 1) := by decide +kernel
theorem dX4_driveNumbered_32 : decode cX4_driveNumbered 32 = .ok (.ldc 245, 2) := by decide +kernel
theorem dX4_driveNumbered_34 : decode cX4_driveNumbered 34 = .ok (.invokespecial 71, 3) := by decide +kernel
theorem dX4_driveNumbered_37 : decode cX4_driveNumbered 37 = .ok (.athrow, 1) := by decide +kernel
theorem dX4_driveNumbered_38 : decode cX4_driveNumbered 38 = .ok (.aload_n 2, 1) := by decide +kernel
theorem dX4_driveNumbered_39 : decode cX4_driveNumbered 39 = .ok (.areturn, 1) := by decide +kernel
theorem dX4_mountedIn_0 : decode cX4_mountedIn 0 = .ok (.aload_n 0, 1) := by decide +kernel
theorem dX4_mountedIn_1 : decode cX4_mountedIn 1 = .ok (.getfield 118, 3) := by decide +kernel
theorem dX4_mountedIn_4 : decode cX4_mountedIn 4 = .ok (.astore_n 1, 1) := by decide +kernel
theorem dX4_mountedIn_5 : decode cX4_mountedIn 5 = .ok (.aload_n 1, 1) := by decide +kernel
theorem dX4_mountedIn_6 : decode cX4_mountedIn 6 = .ok (.ifnonnull 13, 3) := by decide +kernel
theorem dX4_mountedIn_9 : decode cX4_mountedIn 9 = .ok (.new 51, 3) := by decide +kernel
theorem dX4_mountedIn_12 : decode cX4_mountedIn 12 = .ok (.dup, 1) := by decide +kernel
theorem dX4_mountedIn_13 : decode cX4_mountedIn 13 = .ok (.ldc 247, 2) := by decide +kernel
theorem dX4_mountedIn_15 : decode cX4_mountedIn 15 = .ok (.invokespecial 55, 3) := by decide +kernel
theorem dX4_mountedIn_18 : decode cX4_mountedIn 18 = .ok (.athrow, 1) := by decide +kernel
theorem dX4_mountedIn_19 : decode cX4_mountedIn 19 = .ok (.aload_n 1, 1) := by decide +kernel
theorem dX4_mountedIn_20 : decode cX4_mountedIn 20 = .ok (.areturn, 1) := by decide +kernel
theorem dX4_refuseMissingFile_0 : decode cX4_refuseMissingFile 0 = .ok (.iload_n 1, 1) := by decide +kernel
theorem dX4_refuseMissingFile_1 : decode cX4_refuseMissingFile 1 = .ok (.ifCond .lt 11, 3) := by decide +kernel
theorem dX4_refuseMissingFile_4 : decode cX4_refuseMissingFile 4 = .ok (.iload_n 1, 1) := by decide +kernel
theorem dX4_refuseMissingFile_5 : decode cX4_refuseMissingFile 5 = .ok (.aload_n 0, 1) := by decide +kernel
theorem dX4_refuseMissingFile_6 : decode cX4_refuseMissingFile 6 = .ok (.getfield 88, 3) := by decide +kernel
theorem dX4_refuseMissingFile_9 : decode cX4_refuseMissingFile 9 = .ok (.if_icmp .lt 13, 3) := by decide +kernel
theorem dX4_refuseMissingFile_12 : decode cX4_refuseMissingFile 12 = .ok (.new 67, 3) := by decide +kernel
theorem dX4_refuseMissingFile_15 : decode cX4_refuseMissingFile 15 = .ok (.dup, 1) := by decide +kernel
theorem dX4_refuseMissingFile_16 : decode cX4_refuseMissingFile 16 = .ok (.ldc 249, 2) := by decide +kernel
theorem dX4_refuseMissingFile_18 : decode cX4_refuseMissingFile 18 = .ok (.invokespecial 71, 3) := by decide +kernel
theorem dX4_refuseMissingFile_21 : decode cX4_refuseMissingFile 21 = .ok (.athrow, 1) := by decide +kernel
theorem dX4_refuseMissingFile_22 : decode cX4_refuseMissingFile 22 = .ok (.return_, 1) := by decide +kernel
set_option maxRecDepth 20000 in
theorem ggX4_refuseUnclean_X0_wantsCleaning : GoodIn wsX4_refuseUnclean wsX0_wantsCleaning := goodIn_r _ [6, 7, 8, 9, 10, 11, 12, 13, 14] (by decide +kernel) (by decide +kernel)
set_option maxRecDepth 20000 in
theorem gX4_refuseUnclean_X0_wantsCleaning_n219 : GoodIn wsX4_refuseUnclean (wsX0_wantsCleaning) := ggX4_refuseUnclean_X0_wantsCleaning
theorem dX4_refuseUnclean_0 : decode cX4_refuseUnclean 0 = .ok (.aload_n 0, 1) := by decide +kernel
theorem dX4_refuseUnclean_1 : decode cX4_refuseUnclean 1 = .ok (.invokevirtual 219, 3) := by decide +kernel
theorem dX4_refuseUnclean_4 : decode cX4_refuseUnclean 4 = .ok (.ifCond .eq 13, 3) := by decide +kernel
theorem dX4_refuseUnclean_7 : decode cX4_refuseUnclean 7 = .ok (.new 51, 3) := by decide +kernel
theorem dX4_refuseUnclean_10 : decode cX4_refuseUnclean 10 = .ok (.dup, 1) := by decide +kernel
theorem dX4_refuseUnclean_11 : decode cX4_refuseUnclean 11 = .ok (.ldc 251, 2) := by decide +kernel
theorem dX4_refuseUnclean_13 : decode cX4_refuseUnclean 13 = .ok (.invokespecial 55, 3) := by decide +kernel
theorem dX4_refuseUnclean_16 : decode cX4_refuseUnclean 16 = .ok (.athrow, 1) := by decide +kernel
theorem dX4_refuseUnclean_17 : decode cX4_refuseUnclean 17 = .ok (.return_, 1) := by decide +kernel
set_option maxRecDepth 20000 in
theorem ggX4_measureOrders_X4_mountedIn : GoodIn wsX4_measureOrders wsX4_mountedIn := goodIn_ca (goodIn_r _ [6, 7, 8, 71, 72, 73, 74, 75, 76, 77] (by decide +kernel) (by decide +kernel)) (goodIn_sub (fun _ h => List.mem_cons_of_mem _ (List.mem_append_right _ h)) (by decide +kernel))
set_option maxRecDepth 20000 in
theorem gX4_measureOrders_X4_mountedIn : GoodIn wsX4_measureOrders (va_wsS RX4 140 yX4_mountedIn wsX4_mountedIn) := goodIn_app (goodIn_of _ (by decide +kernel)) ggX4_measureOrders_X4_mountedIn
set_option maxRecDepth 20000 in
theorem ggX4_measureOrders_X2_measure : GoodIn wsX4_measureOrders wsX2_measure := goodIn_r _ [12, 13, 14, 15, 16, 17, 18, 19, 20, 21, 22, 23, 24, 25, 26, 5, 27, 28, 29, 30, 31, 32, 33, 34, 35, 36, 37, 38, 39, 40, 41, 42, 43, 44, 45, 46, 47, 48, 49, 50, 51, 52, 53, 54, 55, 56, 57, 58, 59, 60, 61, 62, 63, 64, 78, 79, 80, 81, 82, 83, 84, 85, 86, 87, 88, 89, 90, 91, 71, 72, 73, 74, 75, 76, 77, 92, 93, 94, 95, 96] (by decide +kernel) (by decide +kernel)
set_option maxRecDepth 20000 in
theorem gX4_measureOrders_X2_measure_n253 : GoodIn wsX4_measureOrders (wsX2_measure) := ggX4_measureOrders_X2_measure
theorem dX4_measureOrders_0 : decode cX4_measureOrders 0 = .ok (.aload_n 0, 1) := by decide +kernel
theorem dX4_measureOrders_1 : decode cX4_measureOrders 1 = .ok (.getfield 38, 3) := by decide +kernel
theorem dX4_measureOrders_4 : decode cX4_measureOrders 4 = .ok (.aload_n 1, 1) := by decide +kernel
theorem dX4_measureOrders_5 : decode cX4_measureOrders 5 = .ok (.aload_n 1, 1) := by decide +kernel
theorem dX4_measureOrders_6 : decode cX4_measureOrders 6 = .ok (.invokestatic 140, 3) := by decide +kernel
theorem dX4_measureOrders_9 : decode cX4_measureOrders 9 = .ok (.aload_n 0, 1) := by decide +kernel
theorem dX4_measureOrders_10 : decode cX4_measureOrders 10 = .ok (.getfield 31, 3) := by decide +kernel
theorem dX4_measureOrders_13 : decode cX4_measureOrders 13 = .ok (.invokevirtual 253, 3) := by decide +kernel
theorem dX4_measureOrders_16 : decode cX4_measureOrders 16 = .ok (.return_, 1) := by decide +kernel
theorem dX4_isFree_0 : decode cX4_isFree 0 = .ok (.aload_n 0, 1) := by decide +kernel
theorem dX4_isFree_1 : decode cX4_isFree 1 = .ok (.getfield 11, 3) := by decide +kernel
theorem dX4_isFree_4 : decode cX4_isFree 4 = .ok (.astore_n 2, 1) := by decide +kernel
theorem dX4_isFree_5 : decode cX4_isFree 5 = .ok (.aload_n 2, 1) := by decide +kernel
theorem dX4_isFree_6 : decode cX4_isFree 6 = .ok (.arraylength, 1) := by decide +kernel
theorem dX4_isFree_7 : decode cX4_isFree 7 = .ok (.istore_n 3, 1) := by decide +kernel
theorem dX4_isFree_8 : decode cX4_isFree 8 = .ok (.iconst 0, 1) := by decide +kernel
theorem dX4_isFree_9 : decode cX4_isFree 9 = .ok (.istore 4, 2) := by decide +kernel
theorem dX4_isFree_11 : decode cX4_isFree 11 = .ok (.iload 4, 2) := by decide +kernel
theorem dX4_isFree_13 : decode cX4_isFree 13 = .ok (.iload_n 3, 1) := by decide +kernel
theorem dX4_isFree_14 : decode cX4_isFree 14 = .ok (.if_icmp .ge 31, 3) := by decide +kernel
theorem dX4_isFree_17 : decode cX4_isFree 17 = .ok (.aload_n 2, 1) := by decide +kernel
theorem dX4_isFree_18 : decode cX4_isFree 18 = .ok (.iload 4, 2) := by decide +kernel
theorem dX4_isFree_20 : decode cX4_isFree 20 = .ok (.aaload, 1) := by decide +kernel
theorem dX4_isFree_21 : decode cX4_isFree 21 = .ok (.astore 5, 2) := by decide +kernel
theorem dX4_isFree_23 : decode cX4_isFree 23 = .ok (.aload 5, 2) := by decide +kernel
theorem dX4_isFree_25 : decode cX4_isFree 25 = .ok (.ifnull 14, 3) := by decide +kernel
theorem dX4_isFree_28 : decode cX4_isFree 28 = .ok (.aload 5, 2) := by decide +kernel
theorem dX4_isFree_30 : decode cX4_isFree 30 = .ok (.getfield 82, 3) := by decide +kernel
theorem dX4_isFree_33 : decode cX4_isFree 33 = .ok (.iload_n 1, 1) := by decide +kernel
theorem dX4_isFree_34 : decode cX4_isFree 34 = .ok (.if_icmp .ne 5, 3) := by decide +kernel
theorem dX4_isFree_37 : decode cX4_isFree 37 = .ok (.iconst 0, 1) := by decide +kernel
theorem dX4_isFree_38 : decode cX4_isFree 38 = .ok (.ireturn, 1) := by decide +kernel
theorem dX4_isFree_39 : decode cX4_isFree 39 = .ok (.iinc 4 1, 3) := by decide +kernel
theorem dX4_isFree_42 : decode cX4_isFree 42 = .ok (.goto (-31), 3) := by decide +kernel
theorem dX4_isFree_45 : decode cX4_isFree 45 = .ok (.iconst 1, 1) := by decide +kernel
theorem dX4_isFree_46 : decode cX4_isFree 46 = .ok (.ireturn, 1) := by decide +kernel
set_option maxRecDepth 20000 in
theorem ggX4_lowestFreeSlot_X4_isFree : GoodIn wsX4_lowestFreeSlot wsX4_isFree := goodIn_r _ [5, 6, 7, 8, 9, 10, 11, 12, 13, 14, 15, 16, 17, 18, 19, 20] (by decide +kernel) (by decide +kernel)
set_option maxRecDepth 20000 in
theorem gX4_lowestFreeSlot_X4_isFree : GoodIn wsX4_lowestFreeSlot (wsV RX4 76 RX4 yX4_isFree wsX4_isFree) := goodIn_app (goodIn_of _ (by decide +kernel)) ggX4_lowestFreeSlot_X4_isFree
theorem dX4_lowestFreeSlot_0 : decode cX4_lowestFreeSlot 0 = .ok (.iconst 0, 1) := by decide +kernel
theorem dX4_lowestFreeSlot_1 : decode cX4_lowestFreeSlot 1 = .ok (.istore_n 1, 1) := by decide +kernel
theorem dX4_lowestFreeSlot_2 : decode cX4_lowestFreeSlot 2 = .ok (.iload_n 1, 1) := by decide +kernel
theorem dX4_lowestFreeSlot_3 : decode cX4_lowestFreeSlot 3 = .ok (.bipush 12, 2) := by decide +kernel
theorem dX4_lowestFreeSlot_5 : decode cX4_lowestFreeSlot 5 = .ok (.if_icmp .ge 17, 3) := by decide +kernel
theorem dX4_lowestFreeSlot_8 : decode cX4_lowestFreeSlot 8 = .ok (.aload_n 0, 1) := by decide +kernel
theorem dX4_lowestFreeSlot_9 : decode cX4_lowestFreeSlot 9 = .ok (.iload_n 1, 1) := by decide +kernel
theorem dX4_lowestFreeSlot_10 : decode cX4_lowestFreeSlot 10 = .ok (.invokevirtual 76, 3) := by decide +kernel
theorem dX4_lowestFreeSlot_13 : decode cX4_lowestFreeSlot 13 = .ok (.ifCond .ne 9, 3) := by decide +kernel
theorem dX4_lowestFreeSlot_16 : decode cX4_lowestFreeSlot 16 = .ok (.iinc 1 1, 3) := by decide +kernel
theorem dX4_lowestFreeSlot_19 : decode cX4_lowestFreeSlot 19 = .ok (.goto (-17), 3) := by decide +kernel
theorem dX4_lowestFreeSlot_22 : decode cX4_lowestFreeSlot 22 = .ok (.iload_n 1, 1) := by decide +kernel
theorem dX4_lowestFreeSlot_23 : decode cX4_lowestFreeSlot 23 = .ok (.ireturn, 1) := by decide +kernel
set_option maxRecDepth 20000 in
theorem ggX4_highestSlotWithTape_X3_isInDrive : GoodIn wsX4_highestSlotWithTape wsX3_isInDrive := goodIn_r _ [9, 10, 17, 18, 19, 20, 21, 22, 23, 24] (by decide +kernel) (by decide +kernel)
set_option maxRecDepth 20000 in
theorem gX4_highestSlotWithTape_X3_isInDrive_n72 : GoodIn wsX4_highestSlotWithTape (wsX3_isInDrive) := ggX4_highestSlotWithTape_X3_isInDrive
theorem dX4_highestSlotWithTape_0 : decode cX4_highestSlotWithTape 0 = .ok (.iconst 0, 1) := by decide +kernel
theorem dX4_highestSlotWithTape_1 : decode cX4_highestSlotWithTape 1 = .ok (.istore_n 1, 1) := by decide +kernel
theorem dX4_highestSlotWithTape_2 : decode cX4_highestSlotWithTape 2 = .ok (.aload_n 0, 1) := by decide +kernel
theorem dX4_highestSlotWithTape_3 : decode cX4_highestSlotWithTape 3 = .ok (.getfield 11, 3) := by decide +kernel
theorem dX4_highestSlotWithTape_6 : decode cX4_highestSlotWithTape 6 = .ok (.astore_n 2, 1) := by decide +kernel
theorem dX4_highestSlotWithTape_7 : decode cX4_highestSlotWithTape 7 = .ok (.aload_n 2, 1) := by decide +kernel
theorem dX4_highestSlotWithTape_8 : decode cX4_highestSlotWithTape 8 = .ok (.arraylength, 1) := by decide +kernel
theorem dX4_highestSlotWithTape_9 : decode cX4_highestSlotWithTape 9 = .ok (.istore_n 3, 1) := by decide +kernel
theorem dX4_highestSlotWithTape_10 : decode cX4_highestSlotWithTape 10 = .ok (.iconst 0, 1) := by decide +kernel
theorem dX4_highestSlotWithTape_11 : decode cX4_highestSlotWithTape 11 = .ok (.istore 4, 2) := by decide +kernel
theorem dX4_highestSlotWithTape_13 : decode cX4_highestSlotWithTape 13 = .ok (.iload 4, 2) := by decide +kernel
theorem dX4_highestSlotWithTape_15 : decode cX4_highestSlotWithTape 15 = .ok (.iload_n 3, 1) := by decide +kernel
theorem dX4_highestSlotWithTape_16 : decode cX4_highestSlotWithTape 16 = .ok (.if_icmp .ge 38, 3) := by decide +kernel
theorem dX4_highestSlotWithTape_19 : decode cX4_highestSlotWithTape 19 = .ok (.aload_n 2, 1) := by decide +kernel
theorem dX4_highestSlotWithTape_20 : decode cX4_highestSlotWithTape 20 = .ok (.iload 4, 2) := by decide +kernel
theorem dX4_highestSlotWithTape_22 : decode cX4_highestSlotWithTape 22 = .ok (.aaload, 1) := by decide +kernel
theorem dX4_highestSlotWithTape_23 : decode cX4_highestSlotWithTape 23 = .ok (.astore 5, 2) := by decide +kernel
theorem dX4_highestSlotWithTape_25 : decode cX4_highestSlotWithTape 25 = .ok (.aload 5, 2) := by decide +kernel
theorem dX4_highestSlotWithTape_27 : decode cX4_highestSlotWithTape 27 = .ok (.ifnull 21, 3) := by decide +kernel
theorem dX4_highestSlotWithTape_30 : decode cX4_highestSlotWithTape 30 = .ok (.aload 5, 2) := by decide +kernel
theorem dX4_highestSlotWithTape_32 : decode cX4_highestSlotWithTape 32 = .ok (.invokevirtual 72, 3) := by decide +kernel
theorem dX4_highestSlotWithTape_35 : decode cX4_highestSlotWithTape 35 = .ok (.ifCond .ne 13, 3) := by decide +kernel
theorem dX4_highestSlotWithTape_38 : decode cX4_highestSlotWithTape 38 = .ok (.iload_n 1, 1) := by decide +kernel
theorem dX4_highestSlotWithTape_39 : decode cX4_highestSlotWithTape 39 = .ok (.aload 5, 2) := by decide +kernel
theorem dX4_highestSlotWithTape_41 : decode cX4_highestSlotWithTape 41 = .ok (.getfield 82, 3) := by decide +kernel
theorem dX4_highestSlotWithTape_44 : decode cX4_highestSlotWithTape 44 = .ok (.invokestatic 257, 3) := by decide +kernel
theorem dX4_highestSlotWithTape_47 : decode cX4_highestSlotWithTape 47 = .ok (.istore_n 1, 1) := by decide +kernel
theorem dX4_highestSlotWithTape_48 : decode cX4_highestSlotWithTape 48 = .ok (.iinc 4 1, 3) := by decide +kernel
theorem dX4_highestSlotWithTape_51 : decode cX4_highestSlotWithTape 51 = .ok (.goto (-38), 3) := by decide +kernel
theorem dX4_highestSlotWithTape_54 : decode cX4_highestSlotWithTape 54 = .ok (.iload_n 1, 1) := by decide +kernel
theorem dX4_highestSlotWithTape_55 : decode cX4_highestSlotWithTape 55 = .ok (.ireturn, 1) := by decide +kernel
theorem dX4_countWithoutLabels_0 : decode cX4_countWithoutLabels 0 = .ok (.iconst 0, 1) := by decide +kernel
theorem dX4_countWithoutLabels_1 : decode cX4_countWithoutLabels 1 = .ok (.istore_n 1, 1) := by decide +kernel
theorem dX4_countWithoutLabels_2 : decode cX4_countWithoutLabels 2 = .ok (.aload_n 0, 1) := by decide +kernel
theorem dX4_countWithoutLabels_3 : decode cX4_countWithoutLabels 3 = .ok (.getfield 11, 3) := by decide +kernel
theorem dX4_countWithoutLabels_6 : decode cX4_countWithoutLabels 6 = .ok (.astore_n 2, 1) := by decide +kernel
theorem dX4_countWithoutLabels_7 : decode cX4_countWithoutLabels 7 = .ok (.aload_n 2, 1) := by decide +kernel
theorem dX4_countWithoutLabels_8 : decode cX4_countWithoutLabels 8 = .ok (.arraylength, 1) := by decide +kernel
theorem dX4_countWithoutLabels_9 : decode cX4_countWithoutLabels 9 = .ok (.istore_n 3, 1) := by decide +kernel
theorem dX4_countWithoutLabels_10 : decode cX4_countWithoutLabels 10 = .ok (.iconst 0, 1) := by decide +kernel
theorem dX4_countWithoutLabels_11 : decode cX4_countWithoutLabels 11 = .ok (.istore 4, 2) := by decide +kernel
theorem dX4_countWithoutLabels_13 : decode cX4_countWithoutLabels 13 = .ok (.iload 4, 2) := by decide +kernel
theorem dX4_countWithoutLabels_15 : decode cX4_countWithoutLabels 15 = .ok (.iload_n 3, 1) := by decide +kernel
theorem dX4_countWithoutLabels_16 : decode cX4_countWithoutLabels 16 = .ok (.if_icmp .ge 31, 3) := by decide +kernel
theorem dX4_countWithoutLabels_19 : decode cX4_countWithoutLabels 19 = .ok (.aload_n 2, 1) := by decide +kernel
theorem dX4_countWithoutLabels_20 : decode cX4_countWithoutLabels 20 = .ok (.iload 4, 2) := by decide +kernel
theorem dX4_countWithoutLabels_22 : decode cX4_countWithoutLabels 22 = .ok (.aaload, 1) := by decide +kernel
theorem dX4_countWithoutLabels_23 : decode cX4_countWithoutLabels 23 = .ok (.astore 5, 2) := by decide +kernel
theorem dX4_countWithoutLabels_25 : decode cX4_countWithoutLabels 25 = .ok (.aload 5, 2) := by decide +kernel
theorem dX4_countWithoutLabels_27 : decode cX4_countWithoutLabels 27 = .ok (.ifnull 14, 3) := by decide +kernel
theorem dX4_countWithoutLabels_30 : decode cX4_countWithoutLabels 30 = .ok (.aload 5, 2) := by decide +kernel
theorem dX4_countWithoutLabels_32 : decode cX4_countWithoutLabels 32 = .ok (.getfield 122, 3) := by decide +kernel
theorem dX4_countWithoutLabels_35 : decode cX4_countWithoutLabels 35 = .ok (.ifCond .ne 6, 3) := by decide +kernel
theorem dX4_countWithoutLabels_38 : decode cX4_countWithoutLabels 38 = .ok (.iinc 1 1, 3) := by decide +kernel
theorem dX4_countWithoutLabels_41 : decode cX4_countWithoutLabels 41 = .ok (.iinc 4 1, 3) := by decide +kernel
theorem dX4_countWithoutLabels_44 : decode cX4_countWithoutLabels 44 = .ok (.goto (-31), 3) := by decide +kernel
theorem dX4_countWithoutLabels_47 : decode cX4_countWithoutLabels 47 = .ok (.iload_n 1, 1) := by decide +kernel
theorem dX4_countWithoutLabels_48 : decode cX4_countWithoutLabels 48 = .ok (.ireturn, 1) := by decide +kernel
theorem dX4_at_0 : decode cX4_at 0 = .ok (.iload_n 1, 1) := by decide +kernel
theorem dX4_at_1 : decode cX4_at 1 = .ok (.ifCond .lt 15, 3) := by decide +kernel
theorem dX4_at_4 : decode cX4_at 4 = .ok (.iload_n 1, 1) := by decide +kernel
theorem dX4_at_5 : decode cX4_at 5 = .ok (.aload_n 0, 1) := by decide +kernel
theorem dX4_at_6 : decode cX4_at 6 = .ok (.arraylength, 1) := by decide +kernel
theorem dX4_at_7 : decode cX4_at 7 = .ok (.if_icmp .ge 9, 3) := by decide +kernel
theorem dX4_at_10 : decode cX4_at 10 = .ok (.aload_n 0, 1) := by decide +kernel
theorem dX4_at_11 : decode cX4_at 11 = .ok (.iload_n 1, 1) := by decide +kernel
theorem dX4_at_12 : decode cX4_at 12 = .ok (.iaload, 1) := by decide +kernel
theorem dX4_at_13 : decode cX4_at 13 = .ok (.goto 4, 3) := by decide +kernel
theorem dX4_at_16 : decode cX4_at 16 = .ok (.iconst 0, 1) := by decide +kernel
theorem dX4_at_17 : decode cX4_at 17 = .ok (.ireturn, 1) := by decide +kernel
theorem dX4_put_0 : decode cX4_put 0 = .ok (.iload_n 1, 1) := by decide +kernel
theorem dX4_put_1 : decode cX4_put 1 = .ok (.ifCond .lt 13, 3) := by decide +kernel
theorem dX4_put_4 : decode cX4_put 4 = .ok (.iload_n 1, 1) := by decide +kernel
theorem dX4_put_5 : decode cX4_put 5 = .ok (.aload_n 0, 1) := by decide +kernel
theorem dX4_put_6 : decode cX4_put 6 = .ok (.arraylength, 1) := by decide +kernel
theorem dX4_put_7 : decode cX4_put 7 = .ok (.if_icmp .ge 7, 3) := by decide +kernel
theorem dX4_put_10 : decode cX4_put 10 = .ok (.aload_n 0, 1) := by decide +kernel
theorem dX4_put_11 : decode cX4_put 11 = .ok (.iload_n 1, 1) := by decide +kernel
theorem dX4_put_12 : decode cX4_put 12 = .ok (.iload_n 2, 1) := by decide +kernel
theorem dX4_put_13 : decode cX4_put 13 = .ok (.iastore, 1) := by decide +kernel
theorem dX4_put_14 : decode cX4_put 14 = .ok (.return_, 1) := by decide +kernel
theorem dJ9_abs_0f7a4_0 : decode cJ9_abs_0f7a4 0 = .ok (.iload_n 0, 1) := by decide +kernel
theorem dJ9_abs_0f7a4_1 : decode cJ9_abs_0f7a4 1 = .ok (.ifCond .ge 8, 3) := by decide +kernel
theorem dJ9_abs_0f7a4_4 : decode cJ9_abs_0f7a4 4 = .ok (.iload_n 0, 1) := by decide +kernel
theorem dJ9_abs_0f7a4_5 : decode cJ9_abs_0f7a4 5 = .ok (.ineg, 1) := by decide +kernel
theorem dJ9_abs_0f7a4_6 : decode cJ9_abs_0f7a4 6 = .ok (.goto 4, 3) := by decide +kernel
theorem dJ9_abs_0f7a4_9 : decode cJ9_abs_0f7a4 9 = .ok (.iload_n 0, 1) := by decide +kernel
theorem dJ9_abs_0f7a4_10 : decode cJ9_abs_0f7a4 10 = .ok (.ireturn, 1) := by decide +kernel
theorem dJ9_max_7cf53_0 : decode cJ9_max_7cf53 0 = .ok (.iload_n 0, 1) := by decide +kernel
theorem dJ9_max_7cf53_1 : decode cJ9_max_7cf53 1 = .ok (.iload_n 1, 1) := by decide +kernel
theorem dJ9_max_7cf53_2 : decode cJ9_max_7cf53 2 = .ok (.if_icmp .lt 7, 3) := by decide +kernel
theorem dJ9_max_7cf53_5 : decode cJ9_max_7cf53 5 = .ok (.iload_n 0, 1) := by decide +kernel
theorem dJ9_max_7cf53_6 : decode cJ9_max_7cf53 6 = .ok (.goto 4, 3) := by decide +kernel
theorem dJ9_max_7cf53_9 : decode cJ9_max_7cf53 9 = .ok (.iload_n 1, 1) := by decide +kernel
theorem dJ9_max_7cf53_10 : decode cJ9_max_7cf53 10 = .ok (.ireturn, 1) := by decide +kernel
theorem dJ9_min_7cf53_0 : decode cJ9_min_7cf53 0 = .ok (.iload_n 0, 1) := by decide +kernel
theorem dJ9_min_7cf53_1 : decode cJ9_min_7cf53 1 = .ok (.iload_n 1, 1) := by decide +kernel
theorem dJ9_min_7cf53_2 : decode cJ9_min_7cf53 2 = .ok (.if_icmp .gt 7, 3) := by decide +kernel
theorem dJ9_min_7cf53_5 : decode cJ9_min_7cf53 5 = .ok (.iload_n 0, 1) := by decide +kernel
theorem dJ9_min_7cf53_6 : decode cJ9_min_7cf53 6 = .ok (.goto 4, 3) := by decide +kernel
theorem dJ9_min_7cf53_9 : decode cJ9_min_7cf53 9 = .ok (.iload_n 1, 1) := by decide +kernel
theorem dJ9_min_7cf53_10 : decode cJ9_min_7cf53 10 = .ok (.ireturn, 1) := by decide +kernel
