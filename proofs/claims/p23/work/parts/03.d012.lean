theorem dX0_init_0 : decode cX0_init 0 = .ok (.aload_n 0, 1) := by decide +kernel
theorem dX0_init_1 : decode cX0_init 1 = .ok (.invokespecial 1, 3) := by decide +kernel
theorem dX0_init_4 : decode cX0_init 4 = .ok (.aload_n 0, 1) := by decide +kernel
theorem dX0_init_5 : decode cX0_init 5 = .ok (.iconst 0, 1) := by decide +kernel
theorem dX0_init_6 : decode cX0_init 6 = .ok (.iload_n 1, 1) := by decide +kernel
theorem dX0_init_7 : decode cX0_init 7 = .ok (.invokestatic 7, 3) := by decide +kernel
theorem dX0_init_10 : decode cX0_init 10 = .ok (.putfield 13, 3) := by decide +kernel
theorem dX0_init_13 : decode cX0_init 13 = .ok (.aload_n 0, 1) := by decide +kernel
theorem dX0_init_14 : decode cX0_init 14 = .ok (.aload_n 0, 1) := by decide +kernel
theorem dX0_init_15 : decode cX0_init 15 = .ok (.getfield 13, 3) := by decide +kernel
theorem dX0_init_18 : decode cX0_init 18 = .ok (.bipush 93, 2) := by decide +kernel
theorem dX0_init_20 : decode cX0_init 20 = .ok (.imul, 1) := by decide +kernel
theorem dX0_init_21 : decode cX0_init 21 = .ok (.newarray .int, 2) := by decide +kernel
theorem dX0_init_23 : decode cX0_init 23 = .ok (.putfield 21, 3) := by decide +kernel
theorem dX0_init_26 : decode cX0_init 26 = .ok (.return_, 1) := by decide +kernel
set_option maxRecDepth 20000 in
theorem ggX0_put_X2_write : GoodIn wsX0_put wsX2_write := goodIn_r _ [7, 8, 9, 10, 11, 12, 13, 14, 15, 16, 17, 18, 19, 20, 21, 22, 25, 26, 27, 28, 29, 30, 31, 32, 33, 34, 35] (by decide +kernel) (by decide +kernel)
set_option maxRecDepth 20000 in
theorem gX0_put_X2_write : GoodIn wsX0_put (wsV RX0 25 RX2 yX2_write wsX2_write) := goodIn_app (goodIn_of _ (by decide +kernel)) ggX0_put_X2_write
theorem dX0_put_0 : decode cX0_put 0 = .ok (.iload_n 1, 1) := by decide +kernel
theorem dX0_put_1 : decode cX0_put 1 = .ok (.ifCond .lt 23, 3) := by decide +kernel
theorem dX0_put_4 : decode cX0_put 4 = .ok (.iload_n 1, 1) := by decide +kernel
theorem dX0_put_5 : decode cX0_put 5 = .ok (.aload_n 0, 1) := by decide +kernel
theorem dX0_put_6 : decode cX0_put 6 = .ok (.getfield 13, 3) := by decide +kernel
theorem dX0_put_9 : decode cX0_put 9 = .ok (.if_icmp .ge 15, 3) := by decide +kernel
theorem dX0_put_12 : decode cX0_put 12 = .ok (.aload_n 2, 1) := by decide +kernel
theorem dX0_put_13 : decode cX0_put 13 = .ok (.aload_n 0, 1) := by decide +kernel
theorem dX0_put_14 : decode cX0_put 14 = .ok (.getfield 21, 3) := by decide +kernel
theorem dX0_put_17 : decode cX0_put 17 = .ok (.iload_n 1, 1) := by decide +kernel
theorem dX0_put_18 : decode cX0_put 18 = .ok (.bipush 93, 2) := by decide +kernel
theorem dX0_put_20 : decode cX0_put 20 = .ok (.imul, 1) := by decide +kernel
theorem dX0_put_21 : decode cX0_put 21 = .ok (.invokevirtual 25, 3) := by decide +kernel
theorem dX0_put_24 : decode cX0_put 24 = .ok (.return_, 1) := by decide +kernel
set_option maxRecDepth 20000 in
theorem ggX0_take_X2_read : GoodIn wsX0_take wsX2_read := goodIn_r _ [7, 8, 9, 10, 11, 12, 13, 14, 15, 16, 17, 18, 19, 20, 21, 22, 25, 26, 27, 28, 29, 30, 31, 32, 33, 34, 35] (by decide +kernel) (by decide +kernel)
set_option maxRecDepth 20000 in
theorem gX0_take_X2_read : GoodIn wsX0_take (wsV RX0 29 RX2 yX2_read wsX2_read) := goodIn_app (goodIn_of _ (by decide +kernel)) ggX0_take_X2_read
theorem dX0_take_0 : decode cX0_take 0 = .ok (.iload_n 1, 1) := by decide +kernel
theorem dX0_take_1 : decode cX0_take 1 = .ok (.ifCond .lt 23, 3) := by decide +kernel
theorem dX0_take_4 : decode cX0_take 4 = .ok (.iload_n 1, 1) := by decide +kernel
theorem dX0_take_5 : decode cX0_take 5 = .ok (.aload_n 0, 1) := by decide +kernel
theorem dX0_take_6 : decode cX0_take 6 = .ok (.getfield 13, 3) := by decide +kernel
theorem dX0_take_9 : decode cX0_take 9 = .ok (.if_icmp .ge 15, 3) := by decide +kernel
theorem dX0_take_12 : decode cX0_take 12 = .ok (.aload_n 2, 1) := by decide +kernel
theorem dX0_take_13 : decode cX0_take 13 = .ok (.aload_n 0, 1) := by decide +kernel
theorem dX0_take_14 : decode cX0_take 14 = .ok (.getfield 21, 3) := by decide +kernel
theorem dX0_take_17 : decode cX0_take 17 = .ok (.iload_n 1, 1) := by decide +kernel
theorem dX0_take_18 : decode cX0_take 18 = .ok (.bipush 93, 2) := by decide +kernel
theorem dX0_take_20 : decode cX0_take 20 = .ok (.imul, 1) := by decide +kernel
theorem dX0_take_21 : decode cX0_take 21 = .ok (.invokevirtual 29, 3) := by decide +kernel
theorem dX0_take_24 : decode cX0_take 24 = .ok (.return_, 1) := by decide +kernel
theorem dX1_init_0 : decode cX1_init 0 = .ok (.aload_n 0, 1) := by decide +kernel
theorem dX1_init_1 : decode cX1_init 1 = .ok (.invokespecial 3, 3) := by decide +kernel
theorem dX1_init_4 : decode cX1_init 4 = .ok (.aload_n 0, 1) := by decide +kernel
theorem dX1_init_5 : decode cX1_init 5 = .ok (.bipush 24, 2) := by decide +kernel
theorem dX1_init_7 : decode cX1_init 7 = .ok (.newarray .int, 2) := by decide +kernel
theorem dX1_init_9 : decode cX1_init 9 = .ok (.putfield 9, 3) := by decide +kernel
theorem dX1_init_12 : decode cX1_init 12 = .ok (.aload_n 0, 1) := by decide +kernel
theorem dX1_init_13 : decode cX1_init 13 = .ok (.bipush 24, 2) := by decide +kernel
theorem dX1_init_15 : decode cX1_init 15 = .ok (.newarray .int, 2) := by decide +kernel
theorem dX1_init_17 : decode cX1_init 17 = .ok (.putfield 15, 3) := by decide +kernel
theorem dX1_init_20 : decode cX1_init 20 = .ok (.aload_n 0, 1) := by decide +kernel
theorem dX1_init_21 : decode cX1_init 21 = .ok (.sipush 1525, 3) := by decide +kernel
theorem dX1_init_24 : decode cX1_init 24 = .ok (.newarray .int, 2) := by decide +kernel
theorem dX1_init_26 : decode cX1_init 26 = .ok (.putfield 18, 3) := by decide +kernel
theorem dX1_init_29 : decode cX1_init 29 = .ok (.aload_n 0, 1) := by decide +kernel
theorem dX1_init_30 : decode cX1_init 30 = .ok (.bipush 25, 2) := by decide +kernel
theorem dX1_init_32 : decode cX1_init 32 = .ok (.newarray .int, 2) := by decide +kernel
theorem dX1_init_34 : decode cX1_init 34 = .ok (.putfield 21, 3) := by decide +kernel
theorem dX1_init_37 : decode cX1_init 37 = .ok (.aload_n 0, 1) := by decide +kernel
theorem dX1_init_38 : decode cX1_init 38 = .ok (.bipush 24, 2) := by decide +kernel
theorem dX1_init_40 : decode cX1_init 40 = .ok (.newarray .int, 2) := by decide +kernel
theorem dX1_init_42 : decode cX1_init 42 = .ok (.putfield 24, 3) := by decide +kernel
theorem dX1_init_45 : decode cX1_init 45 = .ok (.aload_n 0, 1) := by decide +kernel
theorem dX1_init_46 : decode cX1_init 46 = .ok (.bipush 24, 2) := by decide +kernel
theorem dX1_init_48 : decode cX1_init 48 = .ok (.newarray .int, 2) := by decide +kernel
theorem dX1_init_50 : decode cX1_init 50 = .ok (.putfield 27, 3) := by decide +kernel
theorem dX1_init_53 : decode cX1_init 53 = .ok (.return_, 1) := by decide +kernel
set_option maxRecDepth 20000 in
theorem ggX1_load_X2_priceOf : GoodIn wsX1_load wsX2_priceOf := goodIn_r _ [19, 20, 21, 22, 23, 18, 24, 25, 26, 27, 28, 29, 30, 31, 32, 33, 34, 35, 36, 37, 38, 39, 40, 41, 42, 43, 44, 45, 46, 47, 48] (by decide +kernel) (by decide +kernel)
set_option maxRecDepth 20000 in
theorem gX1_load_X2_priceOf : GoodIn wsX1_load (wsV RX1 56 RX2 yX2_priceOf wsX2_priceOf) := goodIn_app (goodIn_of _ (by decide +kernel)) ggX1_load_X2_priceOf
theorem dX1_load_0 : decode cX1_load 0 = .ok (.aload_n 0, 1) := by decide +kernel
theorem dX1_load_1 : decode cX1_load 1 = .ok (.aload_n 1, 1) := by decide +kernel
theorem dX1_load_2 : decode cX1_load 2 = .ok (.getfield 30, 3) := by decide +kernel
theorem dX1_load_5 : decode cX1_load 5 = .ok (.putfield 36, 3) := by decide +kernel
theorem dX1_load_8 : decode cX1_load 8 = .ok (.aload_n 0, 1) := by decide +kernel
theorem dX1_load_9 : decode cX1_load 9 = .ok (.aload_n 1, 1) := by decide +kernel
theorem dX1_load_10 : decode cX1_load 10 = .ok (.getfield 37, 3) := by decide +kernel
theorem dX1_load_13 : decode cX1_load 13 = .ok (.putfield 40, 3) := by decide +kernel
theorem dX1_load_16 : decode cX1_load 16 = .ok (.aload_n 0, 1) := by decide +kernel
theorem dX1_load_17 : decode cX1_load 17 = .ok (.aload_n 1, 1) := by decide +kernel
theorem dX1_load_18 : decode cX1_load 18 = .ok (.getfield 41, 3) := by decide +kernel
theorem dX1_load_21 : decode cX1_load 21 = .ok (.putfield 44, 3) := by decide +kernel
theorem dX1_load_24 : decode cX1_load 24 = .ok (.aload_n 0, 1) := by decide +kernel
theorem dX1_load_25 : decode cX1_load 25 = .ok (.aload_n 1, 1) := by decide +kernel
theorem dX1_load_26 : decode cX1_load 26 = .ok (.getfield 45, 3) := by decide +kernel
theorem dX1_load_29 : decode cX1_load 29 = .ok (.putfield 48, 3) := by decide +kernel
theorem dX1_load_32 : decode cX1_load 32 = .ok (.aload_n 0, 1) := by decide +kernel
theorem dX1_load_33 : decode cX1_load 33 = .ok (.aload_n 1, 1) := by decide +kernel
theorem dX1_load_34 : decode cX1_load 34 = .ok (.getfield 49, 3) := by decide +kernel
theorem dX1_load_37 : decode cX1_load 37 = .ok (.putfield 52, 3) := by decide +kernel
theorem dX1_load_40 : decode cX1_load 40 = .ok (.aload_n 0, 1) := by decide +kernel
theorem dX1_load_41 : decode cX1_load 41 = .ok (.iconst (-1), 1) := by decide +kernel
theorem dX1_load_42 : decode cX1_load 42 = .ok (.putfield 53, 3) := by decide +kernel
theorem dX1_load_45 : decode cX1_load 45 = .ok (.iconst 0, 1) := by decide +kernel
theorem dX1_load_46 : decode cX1_load 46 = .ok (.istore_n 2, 1) := by decide +kernel
theorem dX1_load_47 : decode cX1_load 47 = .ok (.iload_n 2, 1) := by decide +kernel
theorem dX1_load_48 : decode cX1_load 48 = .ok (.bipush 24, 2) := by decide +kernel
theorem dX1_load_50 : decode cX1_load 50 = .ok (.if_icmp .ge 32, 3) := by decide +kernel
theorem dX1_load_53 : decode cX1_load 53 = .ok (.aload_n 0, 1) := by decide +kernel
theorem dX1_load_54 : decode cX1_load 54 = .ok (.getfield 9, 3) := by decide +kernel
theorem dX1_load_57 : decode cX1_load 57 = .ok (.iload_n 2, 1) := by decide +kernel
theorem dX1_load_58 : decode cX1_load 58 = .ok (.aload_n 1, 1) := by decide +kernel
theorem dX1_load_59 : decode cX1_load 59 = .ok (.iload_n 2, 1) := by decide +kernel
theorem dX1_load_60 : decode cX1_load 60 = .ok (.invokevirtual 56, 3) := by decide +kernel
theorem dX1_load_63 : decode cX1_load 63 = .ok (.iastore, 1) := by decide +kernel
theorem dX1_load_64 : decode cX1_load 64 = .ok (.aload_n 0, 1) := by decide +kernel
theorem dX1_load_65 : decode cX1_load 65 = .ok (.getfield 15, 3) := by decide +kernel
theorem dX1_load_68 : decode cX1_load 68 = .ok (.iload_n 2, 1) := by decide +kernel
theorem dX1_load_69 : decode cX1_load 69 = .ok (.aload_n 1, 1) := by decide +kernel
theorem dX1_load_70 : decode cX1_load 70 = .ok (.getfield 60, 3) := by decide +kernel
theorem dX1_load_73 : decode cX1_load 73 = .ok (.iload_n 2, 1) := by decide +kernel
theorem dX1_load_74 : decode cX1_load 74 = .ok (.iaload, 1) := by decide +kernel
theorem dX1_load_75 : decode cX1_load 75 = .ok (.iastore, 1) := by decide +kernel
theorem dX1_load_76 : decode cX1_load 76 = .ok (.iinc 2 1, 3) := by decide +kernel
theorem dX1_load_79 : decode cX1_load 79 = .ok (.goto (-32), 3) := by decide +kernel
theorem dX1_load_82 : decode cX1_load 82 = .ok (.return_, 1) := by decide +kernel
theorem dX1_widen_0 : decode cX1_widen 0 = .ok (.iconst 0, 1) := by decide +kernel
theorem dX1_widen_1 : decode cX1_widen 1 = .ok (.istore_n 1, 1) := by decide +kernel
theorem dX1_widen_2 : decode cX1_widen 2 = .ok (.iload_n 1, 1) := by decide +kernel
theorem dX1_widen_3 : decode cX1_widen 3 = .ok (.bipush 24, 2) := by decide +kernel
theorem dX1_widen_5 : decode cX1_widen 5 = .ok (.if_icmp .ge 28, 3) := by decide +kernel
theorem dX1_widen_8 : decode cX1_widen 8 = .ok (.aload_n 0, 1) := by decide +kernel
theorem dX1_widen_9 : decode cX1_widen 9 = .ok (.getfield 15, 3) := by decide +kernel
theorem dX1_widen_12 : decode cX1_widen 12 = .ok (.iload_n 1, 1) := by decide +kernel
theorem dX1_widen_13 : decode cX1_widen 13 = .ok (.bipush 60, 2) := by decide +kernel
theorem dX1_widen_15 : decode cX1_widen 15 = .ok (.aload_n 0, 1) := by decide +kernel
theorem dX1_widen_16 : decode cX1_widen 16 = .ok (.getfield 15, 3) := by decide +kernel
theorem dX1_widen_19 : decode cX1_widen 19 = .ok (.iload_n 1, 1) := by decide +kernel
theorem dX1_widen_20 : decode cX1_widen 20 = .ok (.iaload, 1) := by decide +kernel
theorem dX1_widen_21 : decode cX1_widen 21 = .ok (.iconst 1, 1) := by decide +kernel
theorem dX1_widen_22 : decode cX1_widen 22 = .ok (.iadd, 1) := by decide +kernel
theorem dX1_widen_23 : decode cX1_widen 23 = .ok (.invokestatic 61, 3) := by decide +kernel
theorem dX1_widen_26 : decode cX1_widen 26 = .ok (.iastore, 1) := by decide +kernel
theorem dX1_widen_27 : decode cX1_widen 27 = .ok (.iinc 1 1, 3) := by decide +kernel
theorem dX1_widen_30 : decode cX1_widen 30 = .ok (.goto (-28), 3) := by decide +kernel
theorem dX1_widen_33 : decode cX1_widen 33 = .ok (.return_, 1) := by decide +kernel
set_option maxRecDepth 20000 in
theorem ggX1_solve_X1_solveEnd : GoodIn wsX1_solve wsX1_solveEnd := goodIn_r _ [12, 13, 14, 15, 57, 58, 59, 60, 61, 62, 63, 64, 65, 66, 67, 68] (by decide +kernel) (by decide +kernel)
set_option maxRecDepth 20000 in
theorem gX1_solve_X1_solveEnd : GoodIn wsX1_solve (wsV RX1 67 RX1 yX1_solveEnd wsX1_solveEnd) := goodIn_app (goodIn_of _ (by decide +kernel)) ggX1_solve_X1_solveEnd
set_option maxRecDepth 20000 in
theorem ggX1_solve_X1_solveHour : GoodIn wsX1_solve wsX1_solveHour := goodIn_r _ [19, 20, 13, 1, 2, 3, 4, 21, 22, 23, 24, 25, 14, 26, 27, 28, 11, 29, 30, 31, 32, 33, 34, 35, 36, 37, 38, 39, 40, 41, 42, 43, 44, 45, 46, 47, 5, 6, 7, 48, 49, 50, 51, 52, 53, 54, 55, 56, 57, 58, 59, 60, 61, 62, 63, 64, 65, 66, 67, 68] (by decide +kernel) (by decide +kernel)
set_option maxRecDepth 20000 in
theorem gX1_solve_X1_solveHour : GoodIn wsX1_solve (wsV RX1 73 RX1 yX1_solveHour wsX1_solveHour) := goodIn_app (goodIn_of _ (by decide +kernel)) ggX1_solve_X1_solveHour
theorem dX1_solve_0 : decode cX1_solve 0 = .ok (.iload_n 1, 1) := by decide +kernel
theorem dX1_solve_1 : decode cX1_solve 1 = .ok (.bipush 23, 2) := by decide +kernel
theorem dX1_solve_3 : decode cX1_solve 3 = .ok (.if_icmp .lt 7, 3) := by decide +kernel
theorem dX1_solve_6 : decode cX1_solve 6 = .ok (.aload_n 0, 1) := by decide +kernel
theorem dX1_solve_7 : decode cX1_solve 7 = .ok (.invokevirtual 67, 3) := by decide +kernel
theorem dX1_solve_10 : decode cX1_solve 10 = .ok (.iload_n 1, 1) := by decide +kernel
theorem dX1_solve_11 : decode cX1_solve 11 = .ok (.bipush 23, 2) := by decide +kernel
theorem dX1_solve_13 : decode cX1_solve 13 = .ok (.invokestatic 61, 3) := by decide +kernel
theorem dX1_solve_16 : decode cX1_solve 16 = .ok (.istore_n 3, 1) := by decide +kernel
theorem dX1_solve_17 : decode cX1_solve 17 = .ok (.iload_n 3, 1) := by decide +kernel
theorem dX1_solve_18 : decode cX1_solve 18 = .ok (.iload_n 2, 1) := by decide +kernel
theorem dX1_solve_19 : decode cX1_solve 19 = .ok (.iconst 0, 1) := by decide +kernel
theorem dX1_solve_20 : decode cX1_solve 20 = .ok (.invokestatic 70, 3) := by decide +kernel
theorem dX1_solve_23 : decode cX1_solve 23 = .ok (.if_icmp .lt 14, 3) := by decide +kernel
theorem dX1_solve_26 : decode cX1_solve 26 = .ok (.aload_n 0, 1) := by decide +kernel
theorem dX1_solve_27 : decode cX1_solve 27 = .ok (.iload_n 3, 1) := by decide +kernel
theorem dX1_solve_28 : decode cX1_solve 28 = .ok (.invokevirtual 73, 3) := by decide +kernel
theorem dX1_solve_31 : decode cX1_solve 31 = .ok (.iinc 3 (-1), 3) := by decide +kernel
theorem dX1_solve_34 : decode cX1_solve 34 = .ok (.goto (-17), 3) := by decide +kernel
theorem dX1_solve_37 : decode cX1_solve 37 = .ok (.return_, 1) := by decide +kernel
theorem dX1_solveEnd_0 : decode cX1_solveEnd 0 = .ok (.aload_n 0, 1) := by decide +kernel
theorem dX1_solveEnd_1 : decode cX1_solveEnd 1 = .ok (.getfield 21, 3) := by decide +kernel
theorem dX1_solveEnd_4 : decode cX1_solveEnd 4 = .ok (.bipush 24, 2) := by decide +kernel
theorem dX1_solveEnd_6 : decode cX1_solveEnd 6 = .ok (.bipush 60, 2) := by decide +kernel
theorem dX1_solveEnd_8 : decode cX1_solveEnd 8 = .ok (.iastore, 1) := by decide +kernel
theorem dX1_solveEnd_9 : decode cX1_solveEnd 9 = .ok (.iconst 0, 1) := by decide +kernel
theorem dX1_solveEnd_10 : decode cX1_solveEnd 10 = .ok (.istore_n 1, 1) := by decide +kernel
theorem dX1_solveEnd_11 : decode cX1_solveEnd 11 = .ok (.iload_n 1, 1) := by decide +kernel
theorem dX1_solveEnd_12 : decode cX1_solveEnd 12 = .ok (.bipush 60, 2) := by decide +kernel
theorem dX1_solveEnd_14 : decode cX1_solveEnd 14 = .ok (.if_icmp .gt 25, 3) := by decide +kernel
theorem dX1_solveEnd_17 : decode cX1_solveEnd 17 = .ok (.aload_n 0, 1) := by decide +kernel
theorem dX1_solveEnd_18 : decode cX1_solveEnd 18 = .ok (.getfield 18, 3) := by decide +kernel
theorem dX1_solveEnd_21 : decode cX1_solveEnd 21 = .ok (.sipush 1464, 3) := by decide +kernel
theorem dX1_solveEnd_24 : decode cX1_solveEnd 24 = .ok (.iload_n 1, 1) := by decide +kernel
theorem dX1_solveEnd_25 : decode cX1_solveEnd 25 = .ok (.iadd, 1) := by decide +kernel
theorem dX1_solveEnd_26 : decode cX1_solveEnd 26 = .ok (.aload_n 0, 1) := by decide +kernel
theorem dX1_solveEnd_27 : decode cX1_solveEnd 27 = .ok (.getfield 48, 3) := by decide +kernel
theorem dX1_solveEnd_30 : decode cX1_solveEnd 30 = .ok (.iload_n 1, 1) := by decide +kernel
theorem dX1_solveEnd_31 : decode cX1_solveEnd 31 = .ok (.imul, 1) := by decide +kernel
theorem dX1_solveEnd_32 : decode cX1_solveEnd 32 = .ok (.iastore, 1) := by decide +kernel
theorem dX1_solveEnd_33 : decode cX1_solveEnd 33 = .ok (.iinc 1 1, 3) := by decide +kernel
theorem dX1_solveEnd_36 : decode cX1_solveEnd 36 = .ok (.goto (-25), 3) := by decide +kernel
theorem dX1_solveEnd_39 : decode cX1_solveEnd 39 = .ok (.return_, 1) := by decide +kernel
set_option maxRecDepth 20000 in
theorem ggX1_solveHour_X1_leastNotAbove : GoodIn wsX1_solveHour wsX1_leastNotAbove := goodIn_r _ [17, 18, 19, 20, 16, 21, 22, 23, 24, 25, 12, 48, 49, 50, 51, 52, 53, 54, 55, 56, 57, 58, 59] (by decide +kernel) (by decide +kernel)
set_option maxRecDepth 20000 in
theorem gX1_solveHour_X1_leastNotAbove : GoodIn wsX1_solveHour (wsV RX1 77 RX1 yX1_leastNotAbove wsX1_leastNotAbove) := goodIn_app (goodIn_of _ (by decide +kernel)) ggX1_solveHour_X1_leastNotAbove
set_option maxRecDepth 20000 in
theorem ggX1_solveHour_X1_givesIn : GoodIn wsX1_solveHour wsX1_givesIn := goodIn_r _ [29, 30, 31, 48, 49, 50, 51, 52, 53, 54, 55, 56, 57, 58, 59] (by decide +kernel) (by decide +kernel)
set_option maxRecDepth 20000 in
theorem gX1_solveHour_X1_givesIn : GoodIn wsX1_solveHour (wsV RX1 81 RX1 yX1_givesIn wsX1_givesIn) := goodIn_app (goodIn_of _ (by decide +kernel)) ggX1_solveHour_X1_givesIn
set_option maxRecDepth 20000 in
theorem ggX1_solveHour_X1_next : GoodIn wsX1_solveHour wsX1_next := goodIn_r _ [35, 7, 3, 4, 5, 6, 10, 36, 37, 38, 39, 40, 41, 16, 42, 30, 43, 26, 27, 28, 29, 31, 48, 49, 50, 51, 52, 53, 54, 55, 56, 57, 58, 59] (by decide +kernel) (by decide +kernel)
set_option maxRecDepth 20000 in
theorem gX1_solveHour_X1_next : GoodIn wsX1_solveHour (wsV RX1 84 RX1 yX1_next wsX1_next) := goodIn_app (goodIn_of _ (by decide +kernel)) ggX1_solveHour_X1_next
set_option maxRecDepth 20000 in
theorem ggX1_solveHour_X1_takings : GoodIn wsX1_solveHour wsX1_takings := goodIn_r _ [47, 8, 11, 9, 48, 49, 50, 51, 52, 53, 54, 55, 56, 57, 58, 59] (by decide +kernel) (by decide +kernel)
set_option maxRecDepth 20000 in
theorem gX1_solveHour_X1_takings : GoodIn wsX1_solveHour (wsV RX1 87 RX1 yX1_takings wsX1_takings) := goodIn_app (goodIn_of _ (by decide +kernel)) ggX1_solveHour_X1_takings
set_option maxRecDepth 20000 in
theorem ggX1_solveHour_X1_most : GoodIn wsX1_solveHour wsX1_most := goodIn_r _ [25, 12, 48, 49, 50, 51, 52, 53, 54, 55, 56, 57, 58, 59] (by decide +kernel) (by decide +kernel)
set_option maxRecDepth 20000 in
theorem gX1_solveHour_X1_most : GoodIn wsX1_solveHour (wsV RX1 91 RX1 yX1_most wsX1_most) := goodIn_app (goodIn_of _ (by decide +kernel)) ggX1_solveHour_X1_most
theorem dX1_solveHour_0 : decode cX1_solveHour 0 = .ok (.aload_n 0, 1) := by decide +kernel
theorem dX1_solveHour_1 : decode cX1_solveHour 1 = .ok (.getfield 15, 3) := by decide +kernel
theorem dX1_solveHour_4 : decode cX1_solveHour 4 = .ok (.iload_n 1, 1) := by decide +kernel
theorem dX1_solveHour_5 : decode cX1_solveHour 5 = .ok (.iaload, 1) := by decide +kernel
theorem dX1_solveHour_6 : decode cX1_solveHour 6 = .ok (.aload_n 0, 1) := by decide +kernel
theorem dX1_solveHour_7 : decode cX1_solveHour 7 = .ok (.getfield 21, 3) := by decide +kernel
theorem dX1_solveHour_10 : decode cX1_solveHour 10 = .ok (.iload_n 1, 1) := by decide +kernel
theorem dX1_solveHour_11 : decode cX1_solveHour 11 = .ok (.iconst 1, 1) := by decide +kernel
theorem dX1_solveHour_12 : decode cX1_solveHour 12 = .ok (.iadd, 1) := by decide +kernel
theorem dX1_solveHour_13 : decode cX1_solveHour 13 = .ok (.iaload, 1) := by decide +kernel
theorem dX1_solveHour_14 : decode cX1_solveHour 14 = .ok (.invokestatic 61, 3) := by decide +kernel
theorem dX1_solveHour_17 : decode cX1_solveHour 17 = .ok (.istore_n 2, 1) := by decide +kernel
theorem dX1_solveHour_18 : decode cX1_solveHour 18 = .ok (.aload_n 0, 1) := by decide +kernel
theorem dX1_solveHour_19 : decode cX1_solveHour 19 = .ok (.getfield 24, 3) := by decide +kernel
theorem dX1_solveHour_22 : decode cX1_solveHour 22 = .ok (.iload_n 1, 1) := by decide +kernel
theorem dX1_solveHour_23 : decode cX1_solveHour 23 = .ok (.aload_n 0, 1) := by decide +kernel
theorem dX1_solveHour_24 : decode cX1_solveHour 24 = .ok (.iload_n 1, 1) := by decide +kernel
theorem dX1_solveHour_25 : decode cX1_solveHour 25 = .ok (.iconst 1, 1) := by decide +kernel
theorem dX1_solveHour_26 : decode cX1_solveHour 26 = .ok (.iadd, 1) := by decide +kernel
theorem dX1_solveHour_27 : decode cX1_solveHour 27 = .ok (.iconst 0, 1) := by decide +kernel
theorem dX1_solveHour_28 : decode cX1_solveHour 28 = .ok (.iload_n 2, 1) := by decide +kernel
theorem dX1_solveHour_29 : decode cX1_solveHour 29 = .ok (.aload_n 0, 1) := by decide +kernel
theorem dX1_solveHour_30 : decode cX1_solveHour 30 = .ok (.getfield 9, 3) := by decide +kernel
theorem dX1_solveHour_33 : decode cX1_solveHour 33 = .ok (.iload_n 1, 1) := by decide +kernel
theorem dX1_solveHour_34 : decode cX1_solveHour 34 = .ok (.iaload, 1) := by decide +kernel
theorem dX1_solveHour_35 : decode cX1_solveHour 35 = .ok (.aload_n 0, 1) := by decide +kernel
theorem dX1_solveHour_36 : decode cX1_solveHour 36 = .ok (.getfield 44, 3) := by decide +kernel
theorem dX1_solveHour_39 : decode cX1_solveHour 39 = .ok (.iadd, 1) := by decide +kernel
theorem dX1_solveHour_40 : decode cX1_solveHour 40 = .ok (.invokevirtual 77, 3) := by decide +kernel
theorem dX1_solveHour_43 : decode cX1_solveHour 43 = .ok (.iastore, 1) := by decide +kernel
theorem dX1_solveHour_44 : decode cX1_solveHour 44 = .ok (.aload_n 0, 1) := by decide +kernel
theorem dX1_solveHour_45 : decode cX1_solveHour 45 = .ok (.getfield 27, 3) := by decide +kernel
theorem dX1_solveHour_48 : decode cX1_solveHour 48 = .ok (.iload_n 1, 1) := by decide +kernel
theorem dX1_solveHour_49 : decode cX1_solveHour 49 = .ok (.aload_n 0, 1) := by decide +kernel
theorem dX1_solveHour_50 : decode cX1_solveHour 50 = .ok (.iload_n 1, 1) := by decide +kernel
theorem dX1_solveHour_51 : decode cX1_solveHour 51 = .ok (.iconst 1, 1) := by decide +kernel
theorem dX1_solveHour_52 : decode cX1_solveHour 52 = .ok (.iadd, 1) := by decide +kernel
theorem dX1_solveHour_53 : decode cX1_solveHour 53 = .ok (.aload_n 0, 1) := by decide +kernel
theorem dX1_solveHour_54 : decode cX1_solveHour 54 = .ok (.getfield 24, 3) := by decide +kernel
theorem dX1_solveHour_57 : decode cX1_solveHour 57 = .ok (.iload_n 1, 1) := by decide +kernel
theorem dX1_solveHour_58 : decode cX1_solveHour 58 = .ok (.iaload, 1) := by decide +kernel
theorem dX1_solveHour_59 : decode cX1_solveHour 59 = .ok (.iload_n 2, 1) := by decide +kernel
theorem dX1_solveHour_60 : decode cX1_solveHour 60 = .ok (.aload_n 0, 1) := by decide +kernel
theorem dX1_solveHour_61 : decode cX1_solveHour 61 = .ok (.getfield 9, 3) := by decide +kernel
theorem dX1_solveHour_64 : decode cX1_solveHour 64 = .ok (.iload_n 1, 1) := by decide +kernel
theorem dX1_solveHour_65 : decode cX1_solveHour 65 = .ok (.iaload, 1) := by decide +kernel
theorem dX1_solveHour_66 : decode cX1_solveHour 66 = .ok (.aload_n 0, 1) := by decide +kernel
theorem dX1_solveHour_67 : decode cX1_solveHour 67 = .ok (.getfield 52, 3) := by decide +kernel
theorem dX1_solveHour_70 : decode cX1_solveHour 70 = .ok (.isub, 1) := by decide +kernel
theorem dX1_solveHour_71 : decode cX1_solveHour 71 = .ok (.aload_n 0, 1) := by decide +kernel
theorem dX1_solveHour_72 : decode cX1_solveHour 72 = .ok (.getfield 44, 3) := by decide +kernel
theorem dX1_solveHour_75 : decode cX1_solveHour 75 = .ok (.iadd, 1) := by decide +kernel
theorem dX1_solveHour_76 : decode cX1_solveHour 76 = .ok (.invokevirtual 77, 3) := by decide +kernel
theorem dX1_solveHour_79 : decode cX1_solveHour 79 = .ok (.iastore, 1) := by decide +kernel
theorem dX1_solveHour_80 : decode cX1_solveHour 80 = .ok (.aload_n 0, 1) := by decide +kernel
theorem dX1_solveHour_81 : decode cX1_solveHour 81 = .ok (.getfield 21, 3) := by decide +kernel
theorem dX1_solveHour_84 : decode cX1_solveHour 84 = .ok (.iload_n 1, 1) := by decide +kernel
theorem dX1_solveHour_85 : decode cX1_solveHour 85 = .ok (.bipush 60, 2) := by decide +kernel
theorem dX1_solveHour_87 : decode cX1_solveHour 87 = .ok (.iload_n 2, 1) := by decide +kernel
theorem dX1_solveHour_88 : decode cX1_solveHour 88 = .ok (.aload_n 0, 1) := by decide +kernel
theorem dX1_solveHour_89 : decode cX1_solveHour 89 = .ok (.iload_n 1, 1) := by decide +kernel
theorem dX1_solveHour_90 : decode cX1_solveHour 90 = .ok (.invokevirtual 81, 3) := by decide +kernel
theorem dX1_solveHour_93 : decode cX1_solveHour 93 = .ok (.iadd, 1) := by decide +kernel
theorem dX1_solveHour_94 : decode cX1_solveHour 94 = .ok (.invokestatic 61, 3) := by decide +kernel
theorem dX1_solveHour_97 : decode cX1_solveHour 97 = .ok (.iastore, 1) := by decide +kernel
theorem dX1_solveHour_98 : decode cX1_solveHour 98 = .ok (.iconst 0, 1) := by decide +kernel
theorem dX1_solveHour_99 : decode cX1_solveHour 99 = .ok (.istore_n 3, 1) := by decide +kernel
theorem dX1_solveHour_100 : decode cX1_solveHour 100 = .ok (.iload_n 3, 1) := by decide +kernel
theorem dX1_solveHour_101 : decode cX1_solveHour 101 = .ok (.aload_n 0, 1) := by decide +kernel
theorem dX1_solveHour_102 : decode cX1_solveHour 102 = .ok (.getfield 21, 3) := by decide +kernel
theorem dX1_solveHour_105 : decode cX1_solveHour 105 = .ok (.iload_n 1, 1) := by decide +kernel
theorem dX1_solveHour_106 : decode cX1_solveHour 106 = .ok (.iaload, 1) := by decide +kernel
theorem dX1_solveHour_107 : decode cX1_solveHour 107 = .ok (.if_icmp .gt 46, 3) := by decide +kernel
theorem dX1_solveHour_110 : decode cX1_solveHour 110 = .ok (.aload_n 0, 1) := by decide +kernel
theorem dX1_solveHour_111 : decode cX1_solveHour 111 = .ok (.iload_n 1, 1) := by decide +kernel
theorem dX1_solveHour_112 : decode cX1_solveHour 112 = .ok (.iload_n 3, 1) := by decide +kernel
theorem dX1_solveHour_113 : decode cX1_solveHour 113 = .ok (.invokevirtual 84, 3) := by decide +kernel
theorem dX1_solveHour_116 : decode cX1_solveHour 116 = .ok (.istore 4, 2) := by decide +kernel
theorem dX1_solveHour_118 : decode cX1_solveHour 118 = .ok (.aload_n 0, 1) := by decide +kernel
theorem dX1_solveHour_119 : decode cX1_solveHour 119 = .ok (.getfield 18, 3) := by decide +kernel
theorem dX1_solveHour_122 : decode cX1_solveHour 122 = .ok (.iload_n 1, 1) := by decide +kernel
theorem dX1_solveHour_123 : decode cX1_solveHour 123 = .ok (.bipush 61, 2) := by decide +kernel
theorem dX1_solveHour_125 : decode cX1_solveHour 125 = .ok (.imul, 1) := by decide +kernel
theorem dX1_solveHour_126 : decode cX1_solveHour 126 = .ok (.iload_n 3, 1) := by decide +kernel
theorem dX1_solveHour_127 : decode cX1_solveHour 127 = .ok (.iadd, 1) := by decide +kernel
theorem dX1_solveHour_128 : decode cX1_solveHour 128 = .ok (.aload_n 0, 1) := by decide +kernel
theorem dX1_solveHour_129 : decode cX1_solveHour 129 = .ok (.iload_n 1, 1) := by decide +kernel
theorem dX1_solveHour_130 : decode cX1_solveHour 130 = .ok (.iload_n 3, 1) := by decide +kernel
theorem dX1_solveHour_131 : decode cX1_solveHour 131 = .ok (.iload 4, 2) := by decide +kernel
theorem dX1_solveHour_133 : decode cX1_solveHour 133 = .ok (.invokevirtual 87, 3) := by decide +kernel
theorem dX1_solveHour_136 : decode cX1_solveHour 136 = .ok (.aload_n 0, 1) := by decide +kernel
theorem dX1_solveHour_137 : decode cX1_solveHour 137 = .ok (.iload_n 1, 1) := by decide +kernel
theorem dX1_solveHour_138 : decode cX1_solveHour 138 = .ok (.iconst 1, 1) := by decide +kernel
theorem dX1_solveHour_139 : decode cX1_solveHour 139 = .ok (.iadd, 1) := by decide +kernel
theorem dX1_solveHour_140 : decode cX1_solveHour 140 = .ok (.iload 4, 2) := by decide +kernel
theorem dX1_solveHour_142 : decode cX1_solveHour 142 = .ok (.invokevirtual 91, 3) := by decide +kernel
theorem dX1_solveHour_145 : decode cX1_solveHour 145 = .ok (.iadd, 1) := by decide +kernel
theorem dX1_solveHour_146 : decode cX1_solveHour 146 = .ok (.iastore, 1) := by decide +kernel
theorem dX1_solveHour_147 : decode cX1_solveHour 147 = .ok (.iinc 3 1, 3) := by decide +kernel
theorem dX1_solveHour_150 : decode cX1_solveHour 150 = .ok (.goto (-50), 3) := by decide +kernel
theorem dX1_solveHour_153 : decode cX1_solveHour 153 = .ok (.return_, 1) := by decide +kernel
set_option maxRecDepth 20000 in
theorem ggX1_leastNotAbove_X1_slope : GoodIn wsX1_leastNotAbove wsX1_slope := goodIn_r _ [5, 6, 7, 8, 4, 9, 10, 11, 12, 13, 14, 15, 16, 17, 18, 19, 20, 21, 22] (by decide +kernel) (by decide +kernel)
set_option maxRecDepth 20000 in
theorem gX1_leastNotAbove_X1_slope : GoodIn wsX1_leastNotAbove (wsV RX1 94 RX1 yX1_slope wsX1_slope) := goodIn_app (goodIn_of _ (by decide +kernel)) ggX1_leastNotAbove_X1_slope
theorem dX1_leastNotAbove_0 : decode cX1_leastNotAbove 0 = .ok (.iload_n 2, 1) := by decide +kernel
theorem dX1_leastNotAbove_1 : decode cX1_leastNotAbove 1 = .ok (.istore 5, 2) := by decide +kernel
theorem dX1_leastNotAbove_3 : decode cX1_leastNotAbove 3 = .ok (.iload 5, 2) := by decide +kernel
theorem dX1_leastNotAbove_5 : decode cX1_leastNotAbove 5 = .ok (.iload_n 3, 1) := by decide +kernel
theorem dX1_leastNotAbove_6 : decode cX1_leastNotAbove 6 = .ok (.if_icmp .ge 21, 3) := by decide +kernel
theorem dX1_leastNotAbove_9 : decode cX1_leastNotAbove 9 = .ok (.aload_n 0, 1) := by decide +kernel
theorem dX1_leastNotAbove_10 : decode cX1_leastNotAbove 10 = .ok (.iload_n 1, 1) := by decide +kernel
theorem dX1_leastNotAbove_11 : decode cX1_leastNotAbove 11 = .ok (.iload 5, 2) := by decide +kernel
theorem dX1_leastNotAbove_13 : decode cX1_leastNotAbove 13 = .ok (.invokevirtual 94, 3) := by decide +kernel
theorem dX1_leastNotAbove_16 : decode cX1_leastNotAbove 16 = .ok (.iload 4, 2) := by decide +kernel
theorem dX1_leastNotAbove_18 : decode cX1_leastNotAbove 18 = .ok (.if_icmp .le 9, 3) := by decide +kernel
theorem dX1_leastNotAbove_21 : decode cX1_leastNotAbove 21 = .ok (.iinc 5 1, 3) := by decide +kernel
theorem dX1_leastNotAbove_24 : decode cX1_leastNotAbove 24 = .ok (.goto (-21), 3) := by decide +kernel
theorem dX1_leastNotAbove_27 : decode cX1_leastNotAbove 27 = .ok (.iload 5, 2) := by decide +kernel
theorem dX1_leastNotAbove_29 : decode cX1_leastNotAbove 29 = .ok (.ireturn, 1) := by decide +kernel
theorem dX1_takings_0 : decode cX1_takings 0 = .ok (.iload_n 3, 1) := by decide +kernel
theorem dX1_takings_1 : decode cX1_takings 1 = .ok (.iload_n 2, 1) := by decide +kernel
theorem dX1_takings_2 : decode cX1_takings 2 = .ok (.if_icmp .le 12, 3) := by decide +kernel
theorem dX1_takings_5 : decode cX1_takings 5 = .ok (.aload_n 0, 1) := by decide +kernel
theorem dX1_takings_6 : decode cX1_takings 6 = .ok (.getfield 9, 3) := by decide +kernel
theorem dX1_takings_9 : decode cX1_takings 9 = .ok (.iload_n 1, 1) := by decide +kernel
theorem dX1_takings_10 : decode cX1_takings 10 = .ok (.iaload, 1) := by decide +kernel
theorem dX1_takings_11 : decode cX1_takings 11 = .ok (.goto 14, 3) := by decide +kernel
theorem dX1_takings_14 : decode cX1_takings 14 = .ok (.aload_n 0, 1) := by decide +kernel
theorem dX1_takings_15 : decode cX1_takings 15 = .ok (.getfield 9, 3) := by decide +kernel
theorem dX1_takings_18 : decode cX1_takings 18 = .ok (.iload_n 1, 1) := by decide +kernel
theorem dX1_takings_19 : decode cX1_takings 19 = .ok (.iaload, 1) := by decide +kernel
theorem dX1_takings_20 : decode cX1_takings 20 = .ok (.aload_n 0, 1) := by decide +kernel
theorem dX1_takings_21 : decode cX1_takings 21 = .ok (.getfield 52, 3) := by decide +kernel
theorem dX1_takings_24 : decode cX1_takings 24 = .ok (.isub, 1) := by decide +kernel
theorem dX1_takings_25 : decode cX1_takings 25 = .ok (.istore 4, 2) := by decide +kernel
theorem dX1_takings_27 : decode cX1_takings 27 = .ok (.iload 4, 2) := by decide +kernel
theorem dX1_takings_29 : decode cX1_takings 29 = .ok (.iload_n 2, 1) := by decide +kernel
theorem dX1_takings_30 : decode cX1_takings 30 = .ok (.iload_n 3, 1) := by decide +kernel
theorem dX1_takings_31 : decode cX1_takings 31 = .ok (.isub, 1) := by decide +kernel
theorem dX1_takings_32 : decode cX1_takings 32 = .ok (.imul, 1) := by decide +kernel
theorem dX1_takings_33 : decode cX1_takings 33 = .ok (.aload_n 0, 1) := by decide +kernel
theorem dX1_takings_34 : decode cX1_takings 34 = .ok (.getfield 44, 3) := by decide +kernel
theorem dX1_takings_37 : decode cX1_takings 37 = .ok (.iload_n 3, 1) := by decide +kernel
theorem dX1_takings_38 : decode cX1_takings 38 = .ok (.imul, 1) := by decide +kernel
theorem dX1_takings_39 : decode cX1_takings 39 = .ok (.isub, 1) := by decide +kernel
theorem dX1_takings_40 : decode cX1_takings 40 = .ok (.ireturn, 1) := by decide +kernel
set_option maxRecDepth 20000 in
theorem ggX1_next_X1_takesIn : GoodIn wsX1_next wsX1_takesIn := goodIn_r _ [14, 15, 16, 22, 23, 24, 25, 26, 27, 28, 29, 30, 31, 32, 33] (by decide +kernel) (by decide +kernel)
set_option maxRecDepth 20000 in
theorem gX1_next_X1_takesIn : GoodIn wsX1_next (wsV RX1 97 RX1 yX1_takesIn wsX1_takesIn) := goodIn_app (goodIn_of _ (by decide +kernel)) ggX1_next_X1_takesIn
set_option maxRecDepth 20000 in
theorem ggX1_next_X1_givesIn : GoodIn wsX1_next wsX1_givesIn := goodIn_r _ [20, 15, 21, 22, 23, 24, 25, 26, 27, 28, 29, 30, 31, 32, 33] (by decide +kernel) (by decide +kernel)
set_option maxRecDepth 20000 in
theorem gX1_next_X1_givesIn : GoodIn wsX1_next (wsV RX1 81 RX1 yX1_givesIn wsX1_givesIn) := goodIn_app (goodIn_of _ (by decide +kernel)) ggX1_next_X1_givesIn
theorem dX1_next_0 : decode cX1_next 0 = .ok (.iload_n 2, 1) := by decide +kernel
theorem dX1_next_1 : decode cX1_next 1 = .ok (.aload_n 0, 1) := by decide +kernel
theorem dX1_next_2 : decode cX1_next 2 = .ok (.getfield 24, 3) := by decide +kernel
theorem dX1_next_5 : decode cX1_next 5 = .ok (.iload_n 1, 1) := by decide +kernel
theorem dX1_next_6 : decode cX1_next 6 = .ok (.iaload, 1) := by decide +kernel
theorem dX1_next_7 : decode cX1_next 7 = .ok (.if_icmp .ge 20, 3) := by decide +kernel
theorem dX1_next_10 : decode cX1_next 10 = .ok (.aload_n 0, 1) := by decide +kernel
theorem dX1_next_11 : decode cX1_next 11 = .ok (.getfield 24, 3) := by decide +kernel
theorem dX1_next_14 : decode cX1_next 14 = .ok (.iload_n 1, 1) := by decide +kernel
theorem dX1_next_15 : decode cX1_next 15 = .ok (.iaload, 1) := by decide +kernel
theorem dX1_next_16 : decode cX1_next 16 = .ok (.iload_n 2, 1) := by decide +kernel
theorem dX1_next_17 : decode cX1_next 17 = .ok (.aload_n 0, 1) := by decide +kernel
theorem dX1_next_18 : decode cX1_next 18 = .ok (.iload_n 1, 1) := by decide +kernel
theorem dX1_next_19 : decode cX1_next 19 = .ok (.invokevirtual 97, 3) := by decide +kernel
theorem dX1_next_22 : decode cX1_next 22 = .ok (.iadd, 1) := by decide +kernel
theorem dX1_next_23 : decode cX1_next 23 = .ok (.invokestatic 61, 3) := by decide +kernel
theorem dX1_next_26 : decode cX1_next 26 = .ok (.ireturn, 1) := by decide +kernel
theorem dX1_next_27 : decode cX1_next 27 = .ok (.iload_n 2, 1) := by decide +kernel
theorem dX1_next_28 : decode cX1_next 28 = .ok (.aload_n 0, 1) := by decide +kernel
theorem dX1_next_29 : decode cX1_next 29 = .ok (.getfield 27, 3) := by decide +kernel
theorem dX1_next_32 : decode cX1_next 32 = .ok (.iload_n 1, 1) := by decide +kernel
theorem dX1_next_33 : decode cX1_next 33 = .ok (.iaload, 1) := by decide +kernel
theorem dX1_next_34 : decode cX1_next 34 = .ok (.if_icmp .le 20, 3) := by decide +kernel
theorem dX1_next_37 : decode cX1_next 37 = .ok (.aload_n 0, 1) := by decide +kernel
theorem dX1_next_38 : decode cX1_next 38 = .ok (.getfield 27, 3) := by decide +kernel
theorem dX1_next_41 : decode cX1_next 41 = .ok (.iload_n 1, 1) := by decide +kernel
theorem dX1_next_42 : decode cX1_next 42 = .ok (.iaload, 1) := by decide +kernel
theorem dX1_next_43 : decode cX1_next 43 = .ok (.iload_n 2, 1) := by decide +kernel
theorem dX1_next_44 : decode cX1_next 44 = .ok (.aload_n 0, 1) := by decide +kernel
theorem dX1_next_45 : decode cX1_next 45 = .ok (.iload_n 1, 1) := by decide +kernel
theorem dX1_next_46 : decode cX1_next 46 = .ok (.invokevirtual 81, 3) := by decide +kernel
theorem dX1_next_49 : decode cX1_next 49 = .ok (.isub, 1) := by decide +kernel
theorem dX1_next_50 : decode cX1_next 50 = .ok (.invokestatic 70, 3) := by decide +kernel
theorem dX1_next_53 : decode cX1_next 53 = .ok (.ireturn, 1) := by decide +kernel
theorem dX1_next_54 : decode cX1_next 54 = .ok (.iload_n 2, 1) := by decide +kernel
theorem dX1_next_55 : decode cX1_next 55 = .ok (.ireturn, 1) := by decide +kernel
theorem dX1_takesIn_0 : decode cX1_takesIn 0 = .ok (.iload_n 1, 1) := by decide +kernel
theorem dX1_takesIn_1 : decode cX1_takesIn 1 = .ok (.aload_n 0, 1) := by decide +kernel
theorem dX1_takesIn_2 : decode cX1_takesIn 2 = .ok (.getfield 53, 3) := by decide +kernel
theorem dX1_takesIn_5 : decode cX1_takesIn 5 = .ok (.if_icmp .ne 7, 3) := by decide +kernel
theorem dX1_takesIn_8 : decode cX1_takesIn 8 = .ok (.iconst 0, 1) := by decide +kernel
theorem dX1_takesIn_9 : decode cX1_takesIn 9 = .ok (.goto 7, 3) := by decide +kernel
theorem dX1_takesIn_12 : decode cX1_takesIn 12 = .ok (.aload_n 0, 1) := by decide +kernel
theorem dX1_takesIn_13 : decode cX1_takesIn 13 = .ok (.getfield 36, 3) := by decide +kernel
theorem dX1_takesIn_16 : decode cX1_takesIn 16 = .ok (.ireturn, 1) := by decide +kernel
theorem dX1_givesIn_0 : decode cX1_givesIn 0 = .ok (.iload_n 1, 1) := by decide +kernel
theorem dX1_givesIn_1 : decode cX1_givesIn 1 = .ok (.aload_n 0, 1) := by decide +kernel
theorem dX1_givesIn_2 : decode cX1_givesIn 2 = .ok (.getfield 53, 3) := by decide +kernel
theorem dX1_givesIn_5 : decode cX1_givesIn 5 = .ok (.if_icmp .ne 7, 3) := by decide +kernel
theorem dX1_givesIn_8 : decode cX1_givesIn 8 = .ok (.iconst 0, 1) := by decide +kernel
theorem dX1_givesIn_9 : decode cX1_givesIn 9 = .ok (.goto 7, 3) := by decide +kernel
theorem dX1_givesIn_12 : decode cX1_givesIn 12 = .ok (.aload_n 0, 1) := by decide +kernel
theorem dX1_givesIn_13 : decode cX1_givesIn 13 = .ok (.getfield 40, 3) := by decide +kernel
theorem dX1_givesIn_16 : decode cX1_givesIn 16 = .ok (.ireturn, 1) := by decide +kernel
theorem dX1_canLeave_0 : decode cX1_canLeave 0 = .ok (.iload_n 2, 1) := by decide +kernel
theorem dX1_canLeave_1 : decode cX1_canLeave 1 = .ok (.aload_n 0, 1) := by decide +kernel
theorem dX1_canLeave_2 : decode cX1_canLeave 2 = .ok (.getfield 21, 3) := by decide +kernel
theorem dX1_canLeave_5 : decode cX1_canLeave 5 = .ok (.iload_n 1, 1) := by decide +kernel
theorem dX1_canLeave_6 : decode cX1_canLeave 6 = .ok (.iaload, 1) := by decide +kernel
theorem dX1_canLeave_7 : decode cX1_canLeave 7 = .ok (.if_icmp .gt 7, 3) := by decide +kernel
theorem dX1_canLeave_10 : decode cX1_canLeave 10 = .ok (.iconst 1, 1) := by decide +kernel
theorem dX1_canLeave_11 : decode cX1_canLeave 11 = .ok (.goto 4, 3) := by decide +kernel
theorem dX1_canLeave_14 : decode cX1_canLeave 14 = .ok (.iconst 0, 1) := by decide +kernel
theorem dX1_canLeave_15 : decode cX1_canLeave 15 = .ok (.ireturn, 1) := by decide +kernel
theorem dX1_most_0 : decode cX1_most 0 = .ok (.aload_n 0, 1) := by decide +kernel
theorem dX1_most_1 : decode cX1_most 1 = .ok (.getfield 18, 3) := by decide +kernel
theorem dX1_most_4 : decode cX1_most 4 = .ok (.iload_n 1, 1) := by decide +kernel
theorem dX1_most_5 : decode cX1_most 5 = .ok (.bipush 61, 2) := by decide +kernel
theorem dX1_most_7 : decode cX1_most 7 = .ok (.imul, 1) := by decide +kernel
theorem dX1_most_8 : decode cX1_most 8 = .ok (.iload_n 2, 1) := by decide +kernel
theorem dX1_most_9 : decode cX1_most 9 = .ok (.iadd, 1) := by decide +kernel
theorem dX1_most_10 : decode cX1_most 10 = .ok (.iaload, 1) := by decide +kernel
theorem dX1_most_11 : decode cX1_most 11 = .ok (.ireturn, 1) := by decide +kernel
set_option maxRecDepth 20000 in
theorem ggX1_slope_X1_most : GoodIn wsX1_slope wsX1_most := goodIn_r _ [5, 6, 7, 8, 9, 10, 11, 12, 13, 14, 15, 16, 17, 18] (by decide +kernel) (by decide +kernel)
set_option maxRecDepth 20000 in
theorem gX1_slope_X1_most : GoodIn wsX1_slope (wsV RX1 91 RX1 yX1_most wsX1_most) := goodIn_app (goodIn_of _ (by decide +kernel)) ggX1_slope_X1_most
theorem dX1_slope_0 : decode cX1_slope 0 = .ok (.aload_n 0, 1) := by decide +kernel
theorem dX1_slope_1 : decode cX1_slope 1 = .ok (.iload_n 1, 1) := by decide +kernel
theorem dX1_slope_2 : decode cX1_slope 2 = .ok (.iload_n 2, 1) := by decide +kernel
theorem dX1_slope_3 : decode cX1_slope 3 = .ok (.iconst 1, 1) := by decide +kernel
theorem dX1_slope_4 : decode cX1_slope 4 = .ok (.iadd, 1) := by decide +kernel
theorem dX1_slope_5 : decode cX1_slope 5 = .ok (.invokevirtual 91, 3) := by decide +kernel
theorem dX1_slope_8 : decode cX1_slope 8 = .ok (.aload_n 0, 1) := by decide +kernel
theorem dX1_slope_9 : decode cX1_slope 9 = .ok (.iload_n 1, 1) := by decide +kernel
theorem dX1_slope_10 : decode cX1_slope 10 = .ok (.iload_n 2, 1) := by decide +kernel
theorem dX1_slope_11 : decode cX1_slope 11 = .ok (.invokevirtual 91, 3) := by decide +kernel
theorem dX1_slope_14 : decode cX1_slope 14 = .ok (.isub, 1) := by decide +kernel
theorem dX1_slope_15 : decode cX1_slope 15 = .ok (.ireturn, 1) := by decide +kernel
set_option maxRecDepth 20000 in
theorem ggX1_bends_X1_slope : GoodIn wsX1_bends wsX1_slope := goodIn_r _ [6, 7, 8, 9, 5, 10, 11, 12, 13, 14, 15, 16, 17, 18, 19, 20, 21, 22, 23] (by decide +kernel) (by decide +kernel)
set_option maxRecDepth 20000 in
theorem gX1_bends_X1_slope : GoodIn wsX1_bends (wsV RX1 94 RX1 yX1_slope wsX1_slope) := goodIn_app (goodIn_of _ (by decide +kernel)) ggX1_bends_X1_slope
theorem dX1_bends_0 : decode cX1_bends 0 = .ok (.iconst 0, 1) := by decide +kernel
theorem dX1_bends_1 : decode cX1_bends 1 = .ok (.istore_n 2, 1) := by decide +kernel
theorem dX1_bends_2 : decode cX1_bends 2 = .ok (.iconst 0, 1) := by decide +kernel
theorem dX1_bends_3 : decode cX1_bends 3 = .ok (.istore_n 3, 1) := by decide +kernel
theorem dX1_bends_4 : decode cX1_bends 4 = .ok (.iload_n 3, 1) := by decide +kernel
theorem dX1_bends_5 : decode cX1_bends 5 = .ok (.iconst 2, 1) := by decide +kernel
theorem dX1_bends_6 : decode cX1_bends 6 = .ok (.iadd, 1) := by decide +kernel
theorem dX1_bends_7 : decode cX1_bends 7 = .ok (.aload_n 0, 1) := by decide +kernel
theorem dX1_bends_8 : decode cX1_bends 8 = .ok (.getfield 21, 3) := by decide +kernel
theorem dX1_bends_11 : decode cX1_bends 11 = .ok (.iload_n 1, 1) := by decide +kernel
theorem dX1_bends_12 : decode cX1_bends 12 = .ok (.iaload, 1) := by decide +kernel
theorem dX1_bends_13 : decode cX1_bends 13 = .ok (.if_icmp .gt 29, 3) := by decide +kernel
theorem dX1_bends_16 : decode cX1_bends 16 = .ok (.aload_n 0, 1) := by decide +kernel
theorem dX1_bends_17 : decode cX1_bends 17 = .ok (.iload_n 1, 1) := by decide +kernel
theorem dX1_bends_18 : decode cX1_bends 18 = .ok (.iload_n 3, 1) := by decide +kernel
theorem dX1_bends_19 : decode cX1_bends 19 = .ok (.invokevirtual 94, 3) := by decide +kernel
theorem dX1_bends_22 : decode cX1_bends 22 = .ok (.aload_n 0, 1) := by decide +kernel
theorem dX1_bends_23 : decode cX1_bends 23 = .ok (.iload_n 1, 1) := by decide +kernel
theorem dX1_bends_24 : decode cX1_bends 24 = .ok (.iload_n 3, 1) := by decide +kernel
theorem dX1_bends_25 : decode cX1_bends 25 = .ok (.iconst 1, 1) := by decide +kernel
theorem dX1_bends_26 : decode cX1_bends 26 = .ok (.iadd, 1) := by decide +kernel
theorem dX1_bends_27 : decode cX1_bends 27 = .ok (.invokevirtual 94, 3) := by decide +kernel
theorem dX1_bends_30 : decode cX1_bends 30 = .ok (.if_icmp .eq 6, 3) := by decide +kernel
theorem dX1_bends_33 : decode cX1_bends 33 = .ok (.iinc 2 1, 3) := by decide +kernel
theorem dX1_bends_36 : decode cX1_bends 36 = .ok (.iinc 3 1, 3) := by decide +kernel
theorem dX1_bends_39 : decode cX1_bends 39 = .ok (.goto (-35), 3) := by decide +kernel
theorem dX1_bends_42 : decode cX1_bends 42 = .ok (.iload_n 2, 1) := by decide +kernel
theorem dX1_bends_43 : decode cX1_bends 43 = .ok (.ireturn, 1) := by decide +kernel
theorem dX2_init_0 : decode cX2_init 0 = .ok (.aload_n 0, 1) := by decide +kernel
theorem dX2_init_1 : decode cX2_init 1 = .ok (.invokespecial 5, 3) := by decide +kernel
theorem dX2_init_4 : decode cX2_init 4 = .ok (.aload_n 0, 1) := by decide +kernel
theorem dX2_init_5 : decode cX2_init 5 = .ok (.iconst 1, 1) := by decide +kernel
theorem dX2_init_6 : decode cX2_init 6 = .ok (.putfield 11, 3) := by decide +kernel
theorem dX2_init_9 : decode cX2_init 9 = .ok (.aload_n 0, 1) := by decide +kernel
theorem dX2_init_10 : decode cX2_init 10 = .ok (.iconst 1, 1) := by decide +kernel
theorem dX2_init_11 : decode cX2_init 11 = .ok (.putfield 15, 3) := by decide +kernel
theorem dX2_init_14 : decode cX2_init 14 = .ok (.aload_n 0, 1) := by decide +kernel
theorem dX2_init_15 : decode cX2_init 15 = .ok (.bipush 24, 2) := by decide +kernel
theorem dX2_init_17 : decode cX2_init 17 = .ok (.newarray .int, 2) := by decide +kernel
theorem dX2_init_19 : decode cX2_init 19 = .ok (.putfield 18, 3) := by decide +kernel
theorem dX2_init_22 : decode cX2_init 22 = .ok (.aload_n 0, 1) := by decide +kernel
theorem dX2_init_23 : decode cX2_init 23 = .ok (.bipush 60, 2) := by decide +kernel
theorem dX2_init_25 : decode cX2_init 25 = .ok (.newarray .int, 2) := by decide +kernel
theorem dX2_init_27 : decode cX2_init 27 = .ok (.putfield 22, 3) := by decide +kernel
theorem dX2_init_30 : decode cX2_init 30 = .ok (.iconst 0, 1) := by decide +kernel
theorem dX2_init_31 : decode cX2_init 31 = .ok (.istore_n 1, 1) := by decide +kernel
theorem dX2_init_32 : decode cX2_init 32 = .ok (.iload_n 1, 1) := by decide +kernel
theorem dX2_init_33 : decode cX2_init 33 = .ok (.bipush 24, 2) := by decide +kernel
theorem dX2_init_35 : decode cX2_init 35 = .ok (.if_icmp .ge 17, 3) := by decide +kernel
theorem dX2_init_38 : decode cX2_init 38 = .ok (.aload_n 0, 1) := by decide +kernel
theorem dX2_init_39 : decode cX2_init 39 = .ok (.getfield 18, 3) := by decide +kernel
theorem dX2_init_42 : decode cX2_init 42 = .ok (.iload_n 1, 1) := by decide +kernel
theorem dX2_init_43 : decode cX2_init 43 = .ok (.bipush 10, 2) := by decide +kernel
theorem dX2_init_45 : decode cX2_init 45 = .ok (.iastore, 1) := by decide +kernel
theorem dX2_init_46 : decode cX2_init 46 = .ok (.iinc 1 1, 3) := by decide +kernel
theorem dX2_init_49 : decode cX2_init 49 = .ok (.goto (-17), 3) := by decide +kernel
theorem dX2_init_52 : decode cX2_init 52 = .ok (.return_, 1) := by decide +kernel
theorem dX2_lawPart_0 : decode cX2_lawPart 0 = .ok (.aload_n 0, 1) := by decide +kernel
theorem dX2_lawPart_1 : decode cX2_lawPart 1 = .ok (.getfield 22, 3) := by decide +kernel
theorem dX2_lawPart_4 : decode cX2_lawPart 4 = .ok (.iload_n 1, 1) := by decide +kernel
theorem dX2_lawPart_5 : decode cX2_lawPart 5 = .ok (.iconst 5, 1) := by decide +kernel
theorem dX2_lawPart_6 : decode cX2_lawPart 6 = .ok (.imul, 1) := by decide +kernel
theorem dX2_lawPart_7 : decode cX2_lawPart 7 = .ok (.iload_n 2, 1) := by decide +kernel
theorem dX2_lawPart_8 : decode cX2_lawPart 8 = .ok (.iadd, 1) := by decide +kernel
theorem dX2_lawPart_9 : decode cX2_lawPart 9 = .ok (.iaload, 1) := by decide +kernel
theorem dX2_lawPart_10 : decode cX2_lawPart 10 = .ok (.ireturn, 1) := by decide +kernel
set_option maxRecDepth 20000 in
theorem ggX2_lawHas_X2_lawPart : GoodIn wsX2_lawHas wsX2_lawPart := goodIn_r _ [5, 6, 7, 8, 9, 10, 11, 12, 13, 14, 15, 16, 17] (by decide +kernel) (by decide +kernel)
set_option maxRecDepth 20000 in
theorem gX2_lawHas_X2_lawPart : GoodIn wsX2_lawHas (wsV RX2 25 RX2 yX2_lawPart wsX2_lawPart) := goodIn_app (goodIn_of _ (by decide +kernel)) ggX2_lawHas_X2_lawPart
theorem dX2_lawHas_0 : decode cX2_lawHas 0 = .ok (.aload_n 0, 1) := by decide +kernel
theorem dX2_lawHas_1 : decode cX2_lawHas 1 = .ok (.iload_n 1, 1) := by decide +kernel
theorem dX2_lawHas_2 : decode cX2_lawHas 2 = .ok (.iconst 0, 1) := by decide +kernel
theorem dX2_lawHas_3 : decode cX2_lawHas 3 = .ok (.invokevirtual 25, 3) := by decide +kernel
theorem dX2_lawHas_6 : decode cX2_lawHas 6 = .ok (.iload_n 2, 1) := by decide +kernel
theorem dX2_lawHas_7 : decode cX2_lawHas 7 = .ok (.if_icmp .gt 17, 3) := by decide +kernel
theorem dX2_lawHas_10 : decode cX2_lawHas 10 = .ok (.iload_n 2, 1) := by decide +kernel
theorem dX2_lawHas_11 : decode cX2_lawHas 11 = .ok (.aload_n 0, 1) := by decide +kernel
theorem dX2_lawHas_12 : decode cX2_lawHas 12 = .ok (.iload_n 1, 1) := by decide +kernel
theorem dX2_lawHas_13 : decode cX2_lawHas 13 = .ok (.iconst 1, 1) := by decide +kernel
theorem dX2_lawHas_14 : decode cX2_lawHas 14 = .ok (.invokevirtual 25, 3) := by decide +kernel
theorem dX2_lawHas_17 : decode cX2_lawHas 17 = .ok (.if_icmp .gt 7, 3) := by decide +kernel
theorem dX2_lawHas_20 : decode cX2_lawHas 20 = .ok (.iconst 1, 1) := by decide +kernel
theorem dX2_lawHas_21 : decode cX2_lawHas 21 = .ok (.goto 4, 3) := by decide +kernel
theorem dX2_lawHas_24 : decode cX2_lawHas 24 = .ok (.iconst 0, 1) := by decide +kernel
theorem dX2_lawHas_25 : decode cX2_lawHas 25 = .ok (.ireturn, 1) := by decide +kernel
set_option maxRecDepth 20000 in
theorem ggX2_latestLawOf_X2_lawHas : GoodIn wsX2_latestLawOf wsX2_lawHas := goodIn_r _ [6, 7, 8, 9, 5, 10, 11, 12, 13, 14, 15, 16, 17, 18, 19, 20, 21, 22] (by decide +kernel) (by decide +kernel)
set_option maxRecDepth 20000 in
theorem gX2_latestLawOf_X2_lawHas : GoodIn wsX2_latestLawOf (wsV RX2 32 RX2 yX2_lawHas wsX2_lawHas) := goodIn_app (goodIn_of _ (by decide +kernel)) ggX2_latestLawOf_X2_lawHas
theorem dX2_latestLawOf_0 : decode cX2_latestLawOf 0 = .ok (.aload_n 0, 1) := by decide +kernel
theorem dX2_latestLawOf_1 : decode cX2_latestLawOf 1 = .ok (.getfield 29, 3) := by decide +kernel
theorem dX2_latestLawOf_4 : decode cX2_latestLawOf 4 = .ok (.iconst 1, 1) := by decide +kernel
theorem dX2_latestLawOf_5 : decode cX2_latestLawOf 5 = .ok (.isub, 1) := by decide +kernel
theorem dX2_latestLawOf_6 : decode cX2_latestLawOf 6 = .ok (.istore_n 2, 1) := by decide +kernel
theorem dX2_latestLawOf_7 : decode cX2_latestLawOf 7 = .ok (.iload_n 2, 1) := by decide +kernel
theorem dX2_latestLawOf_8 : decode cX2_latestLawOf 8 = .ok (.ifCond .lt 20, 3) := by decide +kernel
theorem dX2_latestLawOf_11 : decode cX2_latestLawOf 11 = .ok (.aload_n 0, 1) := by decide +kernel
theorem dX2_latestLawOf_12 : decode cX2_latestLawOf 12 = .ok (.iload_n 2, 1) := by decide +kernel
theorem dX2_latestLawOf_13 : decode cX2_latestLawOf 13 = .ok (.iload_n 1, 1) := by decide +kernel
theorem dX2_latestLawOf_14 : decode cX2_latestLawOf 14 = .ok (.invokevirtual 32, 3) := by decide +kernel
theorem dX2_latestLawOf_17 : decode cX2_latestLawOf 17 = .ok (.ifCond .eq 5, 3) := by decide +kernel
theorem dX2_latestLawOf_20 : decode cX2_latestLawOf 20 = .ok (.iload_n 2, 1) := by decide +kernel
theorem dX2_latestLawOf_21 : decode cX2_latestLawOf 21 = .ok (.ireturn, 1) := by decide +kernel
theorem dX2_latestLawOf_22 : decode cX2_latestLawOf 22 = .ok (.iinc 2 (-1), 3) := by decide +kernel
theorem dX2_latestLawOf_25 : decode cX2_latestLawOf 25 = .ok (.goto (-18), 3) := by decide +kernel
theorem dX2_latestLawOf_28 : decode cX2_latestLawOf 28 = .ok (.iconst (-1), 1) := by decide +kernel
theorem dX2_latestLawOf_29 : decode cX2_latestLawOf 29 = .ok (.ireturn, 1) := by decide +kernel
set_option maxRecDepth 20000 in
theorem ggX2_hoursRuledBy_X2_latestLawOf : GoodIn wsX2_hoursRuledBy wsX2_latestLawOf := goodIn_r _ [5, 6, 7, 8, 9, 4, 10, 11, 12, 13, 14, 15, 16, 17, 18, 19, 20, 21, 22, 23, 24, 25, 26] (by decide +kernel) (by decide +kernel)
set_option maxRecDepth 20000 in
theorem gX2_hoursRuledBy_X2_latestLawOf : GoodIn wsX2_hoursRuledBy (wsV RX2 36 RX2 yX2_latestLawOf wsX2_latestLawOf) := goodIn_app (goodIn_of _ (by decide +kernel)) ggX2_hoursRuledBy_X2_latestLawOf
theorem dX2_hoursRuledBy_0 : decode cX2_hoursRuledBy 0 = .ok (.iconst 0, 1) := by decide +kernel
theorem dX2_hoursRuledBy_1 : decode cX2_hoursRuledBy 1 = .ok (.istore_n 2, 1) := by decide +kernel
theorem dX2_hoursRuledBy_2 : decode cX2_hoursRuledBy 2 = .ok (.iconst 0, 1) := by decide +kernel
theorem dX2_hoursRuledBy_3 : decode cX2_hoursRuledBy 3 = .ok (.istore_n 3, 1) := by decide +kernel
theorem dX2_hoursRuledBy_4 : decode cX2_hoursRuledBy 4 = .ok (.iload_n 3, 1) := by decide +kernel
theorem dX2_hoursRuledBy_5 : decode cX2_hoursRuledBy 5 = .ok (.bipush 24, 2) := by decide +kernel
theorem dX2_hoursRuledBy_7 : decode cX2_hoursRuledBy 7 = .ok (.if_icmp .ge 21, 3) := by decide +kernel
theorem dX2_hoursRuledBy_10 : decode cX2_hoursRuledBy 10 = .ok (.aload_n 0, 1) := by decide +kernel
theorem dX2_hoursRuledBy_11 : decode cX2_hoursRuledBy 11 = .ok (.iload_n 3, 1) := by decide +kernel
theorem dX2_hoursRuledBy_12 : decode cX2_hoursRuledBy 12 = .ok (.invokevirtual 36, 3) := by decide +kernel
theorem dX2_hoursRuledBy_15 : decode cX2_hoursRuledBy 15 = .ok (.iload_n 1, 1) := by decide +kernel
theorem dX2_hoursRuledBy_16 : decode cX2_hoursRuledBy 16 = .ok (.if_icmp .ne 6, 3) := by decide +kernel
theorem dX2_hoursRuledBy_19 : decode cX2_hoursRuledBy 19 = .ok (.iinc 2 1, 3) := by decide +kernel
theorem dX2_hoursRuledBy_22 : decode cX2_hoursRuledBy 22 = .ok (.iinc 3 1, 3) := by decide +kernel
theorem dX2_hoursRuledBy_25 : decode cX2_hoursRuledBy 25 = .ok (.goto (-21), 3) := by decide +kernel
theorem dX2_hoursRuledBy_28 : decode cX2_hoursRuledBy 28 = .ok (.iload_n 2, 1) := by decide +kernel
theorem dX2_hoursRuledBy_29 : decode cX2_hoursRuledBy 29 = .ok (.ireturn, 1) := by decide +kernel
set_option maxRecDepth 20000 in
theorem ggX2_priceOf_X2_lawHas : GoodIn wsX2_priceOf wsX2_lawHas := goodIn_r _ [6, 7, 8, 9, 5, 10, 11, 20, 21, 22, 23, 24, 25, 26, 27, 28, 29, 30] (by decide +kernel) (by decide +kernel)
set_option maxRecDepth 20000 in
theorem gX2_priceOf_X2_lawHas : GoodIn wsX2_priceOf (wsV RX2 32 RX2 yX2_lawHas wsX2_lawHas) := goodIn_app (goodIn_of _ (by decide +kernel)) ggX2_priceOf_X2_lawHas
set_option maxRecDepth 20000 in
theorem ggX2_priceOf_X2_priceByLaw : GoodIn wsX2_priceOf wsX2_priceByLaw := goodIn_r _ [15, 16, 17, 18, 19, 7, 8, 9, 5, 10, 11, 20, 21, 22, 23, 24, 25, 26, 27, 28, 29, 30] (by decide +kernel) (by decide +kernel)
set_option maxRecDepth 20000 in
theorem gX2_priceOf_X2_priceByLaw : GoodIn wsX2_priceOf (wsV RX2 40 RX2 yX2_priceByLaw wsX2_priceByLaw) := goodIn_app (goodIn_of _ (by decide +kernel)) ggX2_priceOf_X2_priceByLaw
theorem dX2_priceOf_0 : decode cX2_priceOf 0 = .ok (.iconst 0, 1) := by decide +kernel
theorem dX2_priceOf_1 : decode cX2_priceOf 1 = .ok (.istore_n 2, 1) := by decide +kernel
theorem dX2_priceOf_2 : decode cX2_priceOf 2 = .ok (.iconst 0, 1) := by decide +kernel
theorem dX2_priceOf_3 : decode cX2_priceOf 3 = .ok (.istore_n 3, 1) := by decide +kernel
theorem dX2_priceOf_4 : decode cX2_priceOf 4 = .ok (.iload_n 3, 1) := by decide +kernel
theorem dX2_priceOf_5 : decode cX2_priceOf 5 = .ok (.aload_n 0, 1) := by decide +kernel
theorem dX2_priceOf_6 : decode cX2_priceOf 6 = .ok (.getfield 29, 3) := by decide +kernel
theorem dX2_priceOf_9 : decode cX2_priceOf 9 = .ok (.if_icmp .ge 26, 3) := by decide +kernel
theorem dX2_priceOf_12 : decode cX2_priceOf 12 = .ok (.aload_n 0, 1) := by decide +kernel
theorem dX2_priceOf_13 : decode cX2_priceOf 13 = .ok (.iload_n 3, 1) := by decide +kernel
theorem dX2_priceOf_14 : decode cX2_priceOf 14 = .ok (.iload_n 1, 1) := by decide +kernel
theorem dX2_priceOf_15 : decode cX2_priceOf 15 = .ok (.invokevirtual 32, 3) := by decide +kernel
theorem dX2_priceOf_18 : decode cX2_priceOf 18 = .ok (.ifCond .eq 11, 3) := by decide +kernel
theorem dX2_priceOf_21 : decode cX2_priceOf 21 = .ok (.aload_n 0, 1) := by decide +kernel
theorem dX2_priceOf_22 : decode cX2_priceOf 22 = .ok (.iload_n 3, 1) := by decide +kernel
theorem dX2_priceOf_23 : decode cX2_priceOf 23 = .ok (.iload_n 1, 1) := by decide +kernel
theorem dX2_priceOf_24 : decode cX2_priceOf 24 = .ok (.iload_n 2, 1) := by decide +kernel
theorem dX2_priceOf_25 : decode cX2_priceOf 25 = .ok (.invokevirtual 40, 3) := by decide +kernel
theorem dX2_priceOf_28 : decode cX2_priceOf 28 = .ok (.istore_n 2, 1) := by decide +kernel
theorem dX2_priceOf_29 : decode cX2_priceOf 29 = .ok (.iinc 3 1, 3) := by decide +kernel
theorem dX2_priceOf_32 : decode cX2_priceOf 32 = .ok (.goto (-28), 3) := by decide +kernel
theorem dX2_priceOf_35 : decode cX2_priceOf 35 = .ok (.iload_n 2, 1) := by decide +kernel
theorem dX2_priceOf_36 : decode cX2_priceOf 36 = .ok (.ireturn, 1) := by decide +kernel
set_option maxRecDepth 20000 in
theorem ggX2_priceByLaw_X2_lawPart : GoodIn wsX2_priceByLaw wsX2_lawPart := goodIn_r _ [9, 10, 11, 12, 13, 14, 15, 16, 17, 18, 19, 20, 21] (by decide +kernel) (by decide +kernel)
set_option maxRecDepth 20000 in
theorem gX2_priceByLaw_X2_lawPart : GoodIn wsX2_priceByLaw (wsV RX2 25 RX2 yX2_lawPart wsX2_lawPart) := goodIn_app (goodIn_of _ (by decide +kernel)) ggX2_priceByLaw_X2_lawPart
theorem dX2_priceByLaw_0 : decode cX2_priceByLaw 0 = .ok (.aload_n 0, 1) := by decide +kernel
theorem dX2_priceByLaw_1 : decode cX2_priceByLaw 1 = .ok (.iload_n 1, 1) := by decide +kernel
theorem dX2_priceByLaw_2 : decode cX2_priceByLaw 2 = .ok (.iconst 3, 1) := by decide +kernel
theorem dX2_priceByLaw_3 : decode cX2_priceByLaw 3 = .ok (.invokevirtual 25, 3) := by decide +kernel
theorem dX2_priceByLaw_6 : decode cX2_priceByLaw 6 = .ok (.istore 4, 2) := by decide +kernel
theorem dX2_priceByLaw_8 : decode cX2_priceByLaw 8 = .ok (.aload_n 0, 1) := by decide +kernel
theorem dX2_priceByLaw_9 : decode cX2_priceByLaw 9 = .ok (.iload_n 1, 1) := by decide +kernel
theorem dX2_priceByLaw_10 : decode cX2_priceByLaw 10 = .ok (.iconst 4, 1) := by decide +kernel
theorem dX2_priceByLaw_11 : decode cX2_priceByLaw 11 = .ok (.invokevirtual 25, 3) := by decide +kernel
theorem dX2_priceByLaw_14 : decode cX2_priceByLaw 14 = .ok (.istore 5, 2) := by decide +kernel
theorem dX2_priceByLaw_16 : decode cX2_priceByLaw 16 = .ok (.iload_n 2, 1) := by decide +kernel
theorem dX2_priceByLaw_17 : decode cX2_priceByLaw 17 = .ok (.aload_n 0, 1) := by decide +kernel
theorem dX2_priceByLaw_18 : decode cX2_priceByLaw 18 = .ok (.iload_n 1, 1) := by decide +kernel
theorem dX2_priceByLaw_19 : decode cX2_priceByLaw 19 = .ok (.iconst 0, 1) := by decide +kernel
theorem dX2_priceByLaw_20 : decode cX2_priceByLaw 20 = .ok (.invokevirtual 25, 3) := by decide +kernel
theorem dX2_priceByLaw_23 : decode cX2_priceByLaw 23 = .ok (.isub, 1) := by decide +kernel
theorem dX2_priceByLaw_24 : decode cX2_priceByLaw 24 = .ok (.istore 6, 2) := by decide +kernel
theorem dX2_priceByLaw_26 : decode cX2_priceByLaw 26 = .ok (.aload_n 0, 1) := by decide +kernel
theorem dX2_priceByLaw_27 : decode cX2_priceByLaw 27 = .ok (.iload_n 1, 1) := by decide +kernel
theorem dX2_priceByLaw_28 : decode cX2_priceByLaw 28 = .ok (.iconst 2, 1) := by decide +kernel
theorem dX2_priceByLaw_29 : decode cX2_priceByLaw 29 = .ok (.invokevirtual 25, 3) := by decide +kernel
theorem dX2_priceByLaw_32 : decode cX2_priceByLaw 32 = .ok (.tableswitch 86 0 3 #[32, 35, 44, 59], 32) := by decide +kernel
theorem dX2_priceByLaw_64 : decode cX2_priceByLaw 64 = .ok (.iload 4, 2) := by decide +kernel
theorem dX2_priceByLaw_66 : decode cX2_priceByLaw 66 = .ok (.ireturn, 1) := by decide +kernel
theorem dX2_priceByLaw_67 : decode cX2_priceByLaw 67 = .ok (.iload 4, 2) := by decide +kernel
theorem dX2_priceByLaw_69 : decode cX2_priceByLaw 69 = .ok (.iload 5, 2) := by decide +kernel
theorem dX2_priceByLaw_71 : decode cX2_priceByLaw 71 = .ok (.iload 6, 2) := by decide +kernel
theorem dX2_priceByLaw_73 : decode cX2_priceByLaw 73 = .ok (.imul, 1) := by decide +kernel
theorem dX2_priceByLaw_74 : decode cX2_priceByLaw 74 = .ok (.iadd, 1) := by decide +kernel
theorem dX2_priceByLaw_75 : decode cX2_priceByLaw 75 = .ok (.ireturn, 1) := by decide +kernel
theorem dX2_priceByLaw_76 : decode cX2_priceByLaw 76 = .ok (.iload 6, 2) := by decide +kernel
theorem dX2_priceByLaw_78 : decode cX2_priceByLaw 78 = .ok (.iconst 2, 1) := by decide +kernel
theorem dX2_priceByLaw_79 : decode cX2_priceByLaw 79 = .ok (.irem, 1) := by decide +kernel
theorem dX2_priceByLaw_80 : decode cX2_priceByLaw 80 = .ok (.ifCond .ne 8, 3) := by decide +kernel
theorem dX2_priceByLaw_83 : decode cX2_priceByLaw 83 = .ok (.iload 4, 2) := by decide +kernel
theorem dX2_priceByLaw_85 : decode cX2_priceByLaw 85 = .ok (.goto 5, 3) := by decide +kernel
theorem dX2_priceByLaw_88 : decode cX2_priceByLaw 88 = .ok (.iload 5, 2) := by decide +kernel
theorem dX2_priceByLaw_90 : decode cX2_priceByLaw 90 = .ok (.ireturn, 1) := by decide +kernel
theorem dX2_priceByLaw_91 : decode cX2_priceByLaw 91 = .ok (.iload 4, 2) := by decide +kernel
theorem dX2_priceByLaw_93 : decode cX2_priceByLaw 93 = .ok (.iload 5, 2) := by decide +kernel
theorem dX2_priceByLaw_95 : decode cX2_priceByLaw 95 = .ok (.iconst 2, 1) := by decide +kernel
theorem dX2_priceByLaw_96 : decode cX2_priceByLaw 96 = .ok (.iload_n 2, 1) := by decide +kernel
theorem dX2_priceByLaw_97 : decode cX2_priceByLaw 97 = .ok (.imul, 1) := by decide +kernel
theorem dX2_priceByLaw_98 : decode cX2_priceByLaw 98 = .ok (.aload_n 0, 1) := by decide +kernel
theorem dX2_priceByLaw_99 : decode cX2_priceByLaw 99 = .ok (.iload_n 1, 1) := by decide +kernel
theorem dX2_priceByLaw_100 : decode cX2_priceByLaw 100 = .ok (.iconst 0, 1) := by decide +kernel
theorem dX2_priceByLaw_101 : decode cX2_priceByLaw 101 = .ok (.invokevirtual 25, 3) := by decide +kernel
theorem dX2_priceByLaw_104 : decode cX2_priceByLaw 104 = .ok (.isub, 1) := by decide +kernel
theorem dX2_priceByLaw_105 : decode cX2_priceByLaw 105 = .ok (.aload_n 0, 1) := by decide +kernel
theorem dX2_priceByLaw_106 : decode cX2_priceByLaw 106 = .ok (.iload_n 1, 1) := by decide +kernel
theorem dX2_priceByLaw_107 : decode cX2_priceByLaw 107 = .ok (.iconst 1, 1) := by decide +kernel
theorem dX2_priceByLaw_108 : decode cX2_priceByLaw 108 = .ok (.invokevirtual 25, 3) := by decide +kernel
theorem dX2_priceByLaw_111 : decode cX2_priceByLaw 111 = .ok (.isub, 1) := by decide +kernel
theorem dX2_priceByLaw_112 : decode cX2_priceByLaw 112 = .ok (.invokestatic 44, 3) := by decide +kernel
theorem dX2_priceByLaw_115 : decode cX2_priceByLaw 115 = .ok (.imul, 1) := by decide +kernel
theorem dX2_priceByLaw_116 : decode cX2_priceByLaw 116 = .ok (.iadd, 1) := by decide +kernel
theorem dX2_priceByLaw_117 : decode cX2_priceByLaw 117 = .ok (.ireturn, 1) := by decide +kernel
theorem dX2_priceByLaw_118 : decode cX2_priceByLaw 118 = .ok (.iload 4, 2) := by decide +kernel
theorem dX2_priceByLaw_120 : decode cX2_priceByLaw 120 = .ok (.iload_n 3, 1) := by decide +kernel
theorem dX2_priceByLaw_121 : decode cX2_priceByLaw 121 = .ok (.if_icmp .ge 8, 3) := by decide +kernel
theorem dX2_priceByLaw_124 : decode cX2_priceByLaw 124 = .ok (.iload 4, 2) := by decide +kernel
theorem dX2_priceByLaw_126 : decode cX2_priceByLaw 126 = .ok (.goto 7, 3) := by decide +kernel
theorem dX2_priceByLaw_129 : decode cX2_priceByLaw 129 = .ok (.iload_n 3, 1) := by decide +kernel
theorem dX2_priceByLaw_130 : decode cX2_priceByLaw 130 = .ok (.iload 5, 2) := by decide +kernel
theorem dX2_priceByLaw_132 : decode cX2_priceByLaw 132 = .ok (.iadd, 1) := by decide +kernel
theorem dX2_priceByLaw_133 : decode cX2_priceByLaw 133 = .ok (.ireturn, 1) := by decide +kernel
theorem dX2_addLaw_0 : decode cX2_addLaw 0 = .ok (.aload_n 0, 1) := by decide +kernel
theorem dX2_addLaw_1 : decode cX2_addLaw 1 = .ok (.getfield 29, 3) := by decide +kernel
theorem dX2_addLaw_4 : decode cX2_addLaw 4 = .ok (.bipush 12, 2) := by decide +kernel
theorem dX2_addLaw_6 : decode cX2_addLaw 6 = .ok (.if_icmp .lt 4, 3) := by decide +kernel
theorem dX2_addLaw_9 : decode cX2_addLaw 9 = .ok (.return_, 1) := by decide +kernel
theorem dX2_addLaw_10 : decode cX2_addLaw 10 = .ok (.aload_n 0, 1) := by decide +kernel
theorem dX2_addLaw_11 : decode cX2_addLaw 11 = .ok (.getfield 29, 3) := by decide +kernel
theorem dX2_addLaw_14 : decode cX2_addLaw 14 = .ok (.iconst 5, 1) := by decide +kernel
theorem dX2_addLaw_15 : decode cX2_addLaw 15 = .ok (.imul, 1) := by decide +kernel
theorem dX2_addLaw_16 : decode cX2_addLaw 16 = .ok (.istore 6, 2) := by decide +kernel
theorem dX2_addLaw_18 : decode cX2_addLaw 18 = .ok (.aload_n 0, 1) := by decide +kernel
theorem dX2_addLaw_19 : decode cX2_addLaw 19 = .ok (.getfield 22, 3) := by decide +kernel
theorem dX2_addLaw_22 : decode cX2_addLaw 22 = .ok (.iload 6, 2) := by decide +kernel
theorem dX2_addLaw_24 : decode cX2_addLaw 24 = .ok (.iconst 0, 1) := by decide +kernel
theorem dX2_addLaw_25 : decode cX2_addLaw 25 = .ok (.iadd, 1) := by decide +kernel
theorem dX2_addLaw_26 : decode cX2_addLaw 26 = .ok (.iload_n 1, 1) := by decide +kernel
theorem dX2_addLaw_27 : decode cX2_addLaw 27 = .ok (.iastore, 1) := by decide +kernel
theorem dX2_addLaw_28 : decode cX2_addLaw 28 = .ok (.aload_n 0, 1) := by decide +kernel
theorem dX2_addLaw_29 : decode cX2_addLaw 29 = .ok (.getfield 22, 3) := by decide +kernel
theorem dX2_addLaw_32 : decode cX2_addLaw 32 = .ok (.iload 6, 2) := by decide +kernel
theorem dX2_addLaw_34 : decode cX2_addLaw 34 = .ok (.iconst 1, 1) := by decide +kernel
theorem dX2_addLaw_35 : decode cX2_addLaw 35 = .ok (.iadd, 1) := by decide +kernel
theorem dX2_addLaw_36 : decode cX2_addLaw 36 = .ok (.iload_n 2, 1) := by decide +kernel
theorem dX2_addLaw_37 : decode cX2_addLaw 37 = .ok (.iastore, 1) := by decide +kernel
theorem dX2_addLaw_38 : decode cX2_addLaw 38 = .ok (.aload_n 0, 1) := by decide +kernel
theorem dX2_addLaw_39 : decode cX2_addLaw 39 = .ok (.getfield 22, 3) := by decide +kernel
theorem dX2_addLaw_42 : decode cX2_addLaw 42 = .ok (.iload 6, 2) := by decide +kernel
theorem dX2_addLaw_44 : decode cX2_addLaw 44 = .ok (.iconst 2, 1) := by decide +kernel
theorem dX2_addLaw_45 : decode cX2_addLaw 45 = .ok (.iadd, 1) := by decide +kernel
theorem dX2_addLaw_46 : decode cX2_addLaw 46 = .ok (.iload_n 3, 1) := by decide +kernel
theorem dX2_addLaw_47 : decode cX2_addLaw 47 = .ok (.iastore, 1) := by decide +kernel
theorem dX2_addLaw_48 : decode cX2_addLaw 48 = .ok (.aload_n 0, 1) := by decide +kernel
theorem dX2_addLaw_49 : decode cX2_addLaw 49 = .ok (.getfield 22, 3) := by decide +kernel
theorem dX2_addLaw_52 : decode cX2_addLaw 52 = .ok (.iload 6, 2) := by decide +kernel
theorem dX2_addLaw_54 : decode cX2_addLaw 54 = .ok (.iconst 3, 1) := by decide +kernel
theorem dX2_addLaw_55 : decode cX2_addLaw 55 = .ok (.iadd, 1) := by decide +kernel
theorem dX2_addLaw_56 : decode cX2_addLaw 56 = .ok (.iload 4, 2) := by decide +kernel
theorem dX2_addLaw_58 : decode cX2_addLaw 58 = .ok (.iastore, 1) := by decide +kernel
theorem dX2_addLaw_59 : decode cX2_addLaw 59 = .ok (.aload_n 0, 1) := by decide +kernel
theorem dX2_addLaw_60 : decode cX2_addLaw 60 = .ok (.getfield 22, 3) := by decide +kernel
theorem dX2_addLaw_63 : decode cX2_addLaw 63 = .ok (.iload 6, 2) := by decide +kernel
theorem dX2_addLaw_65 : decode cX2_addLaw 65 = .ok (.iconst 4, 1) := by decide +kernel
theorem dX2_addLaw_66 : decode cX2_addLaw 66 = .ok (.iadd, 1) := by decide +kernel
theorem dX2_addLaw_67 : decode cX2_addLaw 67 = .ok (.iload 5, 2) := by decide +kernel
theorem dX2_addLaw_69 : decode cX2_addLaw 69 = .ok (.iastore, 1) := by decide +kernel
theorem dX2_addLaw_70 : decode cX2_addLaw 70 = .ok (.aload_n 0, 1) := by decide +kernel
theorem dX2_addLaw_71 : decode cX2_addLaw 71 = .ok (.dup, 1) := by decide +kernel
theorem dX2_addLaw_72 : decode cX2_addLaw 72 = .ok (.getfield 29, 3) := by decide +kernel
theorem dX2_addLaw_75 : decode cX2_addLaw 75 = .ok (.iconst 1, 1) := by decide +kernel
theorem dX2_addLaw_76 : decode cX2_addLaw 76 = .ok (.iadd, 1) := by decide +kernel
theorem dX2_addLaw_77 : decode cX2_addLaw 77 = .ok (.putfield 29, 3) := by decide +kernel
theorem dX2_addLaw_80 : decode cX2_addLaw 80 = .ok (.return_, 1) := by decide +kernel
theorem dX2_removeLaw_0 : decode cX2_removeLaw 0 = .ok (.iload_n 1, 1) := by decide +kernel
theorem dX2_removeLaw_1 : decode cX2_removeLaw 1 = .ok (.ifCond .lt 11, 3) := by decide +kernel
theorem dX2_removeLaw_4 : decode cX2_removeLaw 4 = .ok (.iload_n 1, 1) := by decide +kernel
theorem dX2_removeLaw_5 : decode cX2_removeLaw 5 = .ok (.aload_n 0, 1) := by decide +kernel
theorem dX2_removeLaw_6 : decode cX2_removeLaw 6 = .ok (.getfield 29, 3) := by decide +kernel
theorem dX2_removeLaw_9 : decode cX2_removeLaw 9 = .ok (.if_icmp .lt 4, 3) := by decide +kernel
theorem dX2_removeLaw_12 : decode cX2_removeLaw 12 = .ok (.return_, 1) := by decide +kernel
theorem dX2_removeLaw_13 : decode cX2_removeLaw 13 = .ok (.iload_n 1, 1) := by decide +kernel
theorem dX2_removeLaw_14 : decode cX2_removeLaw 14 = .ok (.iconst 1, 1) := by decide +kernel
theorem dX2_removeLaw_15 : decode cX2_removeLaw 15 = .ok (.iadd, 1) := by decide +kernel
theorem dX2_removeLaw_16 : decode cX2_removeLaw 16 = .ok (.iconst 5, 1) := by decide +kernel
theorem dX2_removeLaw_17 : decode cX2_removeLaw 17 = .ok (.imul, 1) := by decide +kernel
theorem dX2_removeLaw_18 : decode cX2_removeLaw 18 = .ok (.istore_n 2, 1) := by decide +kernel
theorem dX2_removeLaw_19 : decode cX2_removeLaw 19 = .ok (.aload_n 0, 1) := by decide +kernel
theorem dX2_removeLaw_20 : decode cX2_removeLaw 20 = .ok (.getfield 22, 3) := by decide +kernel
theorem dX2_removeLaw_23 : decode cX2_removeLaw 23 = .ok (.iload_n 2, 1) := by decide +kernel
theorem dX2_removeLaw_24 : decode cX2_removeLaw 24 = .ok (.aload_n 0, 1) := by decide +kernel
theorem dX2_removeLaw_25 : decode cX2_removeLaw 25 = .ok (.getfield 22, 3) := by decide +kernel
theorem dX2_removeLaw_28 : decode cX2_removeLaw 28 = .ok (.iload_n 2, 1) := by decide +kernel
theorem dX2_removeLaw_29 : decode cX2_removeLaw 29 = .ok (.iconst 5, 1) := by decide +kernel
theorem dX2_removeLaw_30 : decode cX2_removeLaw 30 = .ok (.isub, 1) := by decide +kernel
theorem dX2_removeLaw_31 : decode cX2_removeLaw 31 = .ok (.aload_n 0, 1) := by decide +kernel
theorem dX2_removeLaw_32 : decode cX2_removeLaw 32 = .ok (.getfield 29, 3) := by decide +kernel
theorem dX2_removeLaw_35 : decode cX2_removeLaw 35 = .ok (.iconst 5, 1) := by decide +kernel
theorem dX2_removeLaw_36 : decode cX2_removeLaw 36 = .ok (.imul, 1) := by decide +kernel
theorem dX2_removeLaw_37 : decode cX2_removeLaw 37 = .ok (.iload_n 2, 1) := by decide +kernel
theorem dX2_removeLaw_38 : decode cX2_removeLaw 38 = .ok (.isub, 1) := by decide +kernel
theorem dX2_removeLaw_39 : decode cX2_removeLaw 39 = .ok (.invokestatic 49, 3) := by decide +kernel
theorem dX2_removeLaw_42 : decode cX2_removeLaw 42 = .ok (.aload_n 0, 1) := by decide +kernel
theorem dX2_removeLaw_43 : decode cX2_removeLaw 43 = .ok (.dup, 1) := by decide +kernel
theorem dX2_removeLaw_44 : decode cX2_removeLaw 44 = .ok (.getfield 29, 3) := by decide +kernel
theorem dX2_removeLaw_47 : decode cX2_removeLaw 47 = .ok (.iconst 1, 1) := by decide +kernel
theorem dX2_removeLaw_48 : decode cX2_removeLaw 48 = .ok (.isub, 1) := by decide +kernel
theorem dX2_removeLaw_49 : decode cX2_removeLaw 49 = .ok (.putfield 29, 3) := by decide +kernel
theorem dX2_removeLaw_52 : decode cX2_removeLaw 52 = .ok (.return_, 1) := by decide +kernel
theorem dX2_write_0 : decode cX2_write 0 = .ok (.aload_n 1, 1) := by decide +kernel
theorem dX2_write_1 : decode cX2_write 1 = .ok (.iload_n 2, 1) := by decide +kernel
theorem dX2_write_2 : decode cX2_write 2 = .ok (.aload_n 0, 1) := by decide +kernel
theorem dX2_write_3 : decode cX2_write 3 = .ok (.getfield 55, 3) := by decide +kernel
theorem dX2_write_6 : decode cX2_write 6 = .ok (.iastore, 1) := by decide +kernel
theorem dX2_write_7 : decode cX2_write 7 = .ok (.aload_n 1, 1) := by decide +kernel
theorem dX2_write_8 : decode cX2_write 8 = .ok (.iload_n 2, 1) := by decide +kernel
theorem dX2_write_9 : decode cX2_write 9 = .ok (.iconst 1, 1) := by decide +kernel
theorem dX2_write_10 : decode cX2_write 10 = .ok (.iadd, 1) := by decide +kernel
theorem dX2_write_11 : decode cX2_write 11 = .ok (.aload_n 0, 1) := by decide +kernel
theorem dX2_write_12 : decode cX2_write 12 = .ok (.getfield 58, 3) := by decide +kernel
theorem dX2_write_15 : decode cX2_write 15 = .ok (.iastore, 1) := by decide +kernel
theorem dX2_write_16 : decode cX2_write 16 = .ok (.aload_n 1, 1) := by decide +kernel
theorem dX2_write_17 : decode cX2_write 17 = .ok (.iload_n 2, 1) := by decide +kernel
theorem dX2_write_18 : decode cX2_write 18 = .ok (.iconst 2, 1) := by decide +kernel
theorem dX2_write_19 : decode cX2_write 19 = .ok (.iadd, 1) := by decide +kernel
theorem dX2_write_20 : decode cX2_write 20 = .ok (.aload_n 0, 1) := by decide +kernel
theorem dX2_write_21 : decode cX2_write 21 = .ok (.getfield 11, 3) := by decide +kernel
theorem dX2_write_24 : decode cX2_write 24 = .ok (.iastore, 1) := by decide +kernel
theorem dX2_write_25 : decode cX2_write 25 = .ok (.aload_n 1, 1) := by decide +kernel
theorem dX2_write_26 : decode cX2_write 26 = .ok (.iload_n 2, 1) := by decide +kernel
theorem dX2_write_27 : decode cX2_write 27 = .ok (.iconst 3, 1) := by decide +kernel
theorem dX2_write_28 : decode cX2_write 28 = .ok (.iadd, 1) := by decide +kernel
theorem dX2_write_29 : decode cX2_write 29 = .ok (.aload_n 0, 1) := by decide +kernel
theorem dX2_write_30 : decode cX2_write 30 = .ok (.getfield 15, 3) := by decide +kernel
theorem dX2_write_33 : decode cX2_write 33 = .ok (.iastore, 1) := by decide +kernel
theorem dX2_write_34 : decode cX2_write 34 = .ok (.aload_n 1, 1) := by decide +kernel
theorem dX2_write_35 : decode cX2_write 35 = .ok (.iload_n 2, 1) := by decide +kernel
theorem dX2_write_36 : decode cX2_write 36 = .ok (.iconst 4, 1) := by decide +kernel
theorem dX2_write_37 : decode cX2_write 37 = .ok (.iadd, 1) := by decide +kernel
theorem dX2_write_38 : decode cX2_write 38 = .ok (.aload_n 0, 1) := by decide +kernel
theorem dX2_write_39 : decode cX2_write 39 = .ok (.getfield 61, 3) := by decide +kernel
theorem dX2_write_42 : decode cX2_write 42 = .ok (.iastore, 1) := by decide +kernel
theorem dX2_write_43 : decode cX2_write 43 = .ok (.aload_n 1, 1) := by decide +kernel
theorem dX2_write_44 : decode cX2_write 44 = .ok (.iload_n 2, 1) := by decide +kernel
theorem dX2_write_45 : decode cX2_write 45 = .ok (.iconst 5, 1) := by decide +kernel
theorem dX2_write_46 : decode cX2_write 46 = .ok (.iadd, 1) := by decide +kernel
theorem dX2_write_47 : decode cX2_write 47 = .ok (.aload_n 0, 1) := by decide +kernel
theorem dX2_write_48 : decode cX2_write 48 = .ok (.getfield 64, 3) := by decide +kernel
theorem dX2_write_51 : decode cX2_write 51 = .ok (.iastore, 1) := by decide +kernel
theorem dX2_write_52 : decode cX2_write 52 = .ok (.aload_n 1, 1) := by decide +kernel
theorem dX2_write_53 : decode cX2_write 53 = .ok (.iload_n 2, 1) := by decide +kernel
theorem dX2_write_54 : decode cX2_write 54 = .ok (.bipush 6, 2) := by decide +kernel
theorem dX2_write_56 : decode cX2_write 56 = .ok (.iadd, 1) := by decide +kernel
theorem dX2_write_57 : decode cX2_write 57 = .ok (.aload_n 0, 1) := by decide +kernel
theorem dX2_write_58 : decode cX2_write 58 = .ok (.getfield 67, 3) := by decide +kernel
theorem dX2_write_61 : decode cX2_write 61 = .ok (.iastore, 1) := by decide +kernel
theorem dX2_write_62 : decode cX2_write 62 = .ok (.aload_n 1, 1) := by decide +kernel
theorem dX2_write_63 : decode cX2_write 63 = .ok (.iload_n 2, 1) := by decide +kernel
theorem dX2_write_64 : decode cX2_write 64 = .ok (.bipush 7, 2) := by decide +kernel
theorem dX2_write_66 : decode cX2_write 66 = .ok (.iadd, 1) := by decide +kernel
theorem dX2_write_67 : decode cX2_write 67 = .ok (.aload_n 0, 1) := by decide +kernel
theorem dX2_write_68 : decode cX2_write 68 = .ok (.getfield 70, 3) := by decide +kernel
theorem dX2_write_71 : decode cX2_write 71 = .ok (.iastore, 1) := by decide +kernel
theorem dX2_write_72 : decode cX2_write 72 = .ok (.aload_n 1, 1) := by decide +kernel
theorem dX2_write_73 : decode cX2_write 73 = .ok (.iload_n 2, 1) := by decide +kernel
theorem dX2_write_74 : decode cX2_write 74 = .ok (.bipush 8, 2) := by decide +kernel
theorem dX2_write_76 : decode cX2_write 76 = .ok (.iadd, 1) := by decide +kernel
theorem dX2_write_77 : decode cX2_write 77 = .ok (.aload_n 0, 1) := by decide +kernel
theorem dX2_write_78 : decode cX2_write 78 = .ok (.getfield 29, 3) := by decide +kernel
theorem dX2_write_81 : decode cX2_write 81 = .ok (.iastore, 1) := by decide +kernel
theorem dX2_write_82 : decode cX2_write 82 = .ok (.aload_n 0, 1) := by decide +kernel
theorem dX2_write_83 : decode cX2_write 83 = .ok (.getfield 18, 3) := by decide +kernel
theorem dX2_write_86 : decode cX2_write 86 = .ok (.iconst 0, 1) := by decide +kernel
theorem dX2_write_87 : decode cX2_write 87 = .ok (.aload_n 1, 1) := by decide +kernel
theorem dX2_write_88 : decode cX2_write 88 = .ok (.iload_n 2, 1) := by decide +kernel
theorem dX2_write_89 : decode cX2_write 89 = .ok (.bipush 9, 2) := by decide +kernel
theorem dX2_write_91 : decode cX2_write 91 = .ok (.iadd, 1) := by decide +kernel
theorem dX2_write_92 : decode cX2_write 92 = .ok (.bipush 24, 2) := by decide +kernel
theorem dX2_write_94 : decode cX2_write 94 = .ok (.invokestatic 49, 3) := by decide +kernel
theorem dX2_write_97 : decode cX2_write 97 = .ok (.aload_n 0, 1) := by decide +kernel
theorem dX2_write_98 : decode cX2_write 98 = .ok (.getfield 22, 3) := by decide +kernel
theorem dX2_write_101 : decode cX2_write 101 = .ok (.iconst 0, 1) := by decide +kernel
theorem dX2_write_102 : decode cX2_write 102 = .ok (.aload_n 1, 1) := by decide +kernel
theorem dX2_write_103 : decode cX2_write 103 = .ok (.iload_n 2, 1) := by decide +kernel
theorem dX2_write_104 : decode cX2_write 104 = .ok (.bipush 9, 2) := by decide +kernel
theorem dX2_write_106 : decode cX2_write 106 = .ok (.iadd, 1) := by decide +kernel
theorem dX2_write_107 : decode cX2_write 107 = .ok (.bipush 24, 2) := by decide +kernel
theorem dX2_write_109 : decode cX2_write 109 = .ok (.iadd, 1) := by decide +kernel
theorem dX2_write_110 : decode cX2_write 110 = .ok (.bipush 60, 2) := by decide +kernel
theorem dX2_write_112 : decode cX2_write 112 = .ok (.invokestatic 49, 3) := by decide +kernel
theorem dX2_write_115 : decode cX2_write 115 = .ok (.return_, 1) := by decide +kernel
theorem dX2_read_0 : decode cX2_read 0 = .ok (.aload_n 0, 1) := by decide +kernel
theorem dX2_read_1 : decode cX2_read 1 = .ok (.aload_n 1, 1) := by decide +kernel
theorem dX2_read_2 : decode cX2_read 2 = .ok (.iload_n 2, 1) := by decide +kernel
theorem dX2_read_3 : decode cX2_read 3 = .ok (.iaload, 1) := by decide +kernel
theorem dX2_read_4 : decode cX2_read 4 = .ok (.putfield 55, 3) := by decide +kernel
theorem dX2_read_7 : decode cX2_read 7 = .ok (.aload_n 0, 1) := by decide +kernel
theorem dX2_read_8 : decode cX2_read 8 = .ok (.aload_n 1, 1) := by decide +kernel
theorem dX2_read_9 : decode cX2_read 9 = .ok (.iload_n 2, 1) := by decide +kernel
theorem dX2_read_10 : decode cX2_read 10 = .ok (.iconst 1, 1) := by decide +kernel
theorem dX2_read_11 : decode cX2_read 11 = .ok (.iadd, 1) := by decide +kernel
theorem dX2_read_12 : decode cX2_read 12 = .ok (.iaload, 1) := by decide +kernel
theorem dX2_read_13 : decode cX2_read 13 = .ok (.putfield 58, 3) := by decide +kernel
theorem dX2_read_16 : decode cX2_read 16 = .ok (.aload_n 0, 1) := by decide +kernel
theorem dX2_read_17 : decode cX2_read 17 = .ok (.aload_n 1, 1) := by decide +kernel
theorem dX2_read_18 : decode cX2_read 18 = .ok (.iload_n 2, 1) := by decide +kernel
theorem dX2_read_19 : decode cX2_read 19 = .ok (.iconst 2, 1) := by decide +kernel
theorem dX2_read_20 : decode cX2_read 20 = .ok (.iadd, 1) := by decide +kernel
theorem dX2_read_21 : decode cX2_read 21 = .ok (.iaload, 1) := by decide +kernel
theorem dX2_read_22 : decode cX2_read 22 = .ok (.putfield 11, 3) := by decide +kernel
theorem dX2_read_25 : decode cX2_read 25 = .ok (.aload_n 0, 1) := by decide +kernel
theorem dX2_read_26 : decode cX2_read 26 = .ok (.aload_n 1, 1) := by decide +kernel
theorem dX2_read_27 : decode cX2_read 27 = .ok (.iload_n 2, 1) := by decide +kernel
theorem dX2_read_28 : decode cX2_read 28 = .ok (.iconst 3, 1) := by decide +kernel
theorem dX2_read_29 : decode cX2_read 29 = .ok (.iadd, 1) := by decide +kernel
theorem dX2_read_30 : decode cX2_read 30 = .ok (.iaload, 1) := by decide +kernel
theorem dX2_read_31 : decode cX2_read 31 = .ok (.putfield 15, 3) := by decide +kernel
theorem dX2_read_34 : decode cX2_read 34 = .ok (.aload_n 0, 1) := by decide +kernel
theorem dX2_read_35 : decode cX2_read 35 = .ok (.aload_n 1, 1) := by decide +kernel
theorem dX2_read_36 : decode cX2_read 36 = .ok (.iload_n 2, 1) := by decide +kernel
theorem dX2_read_37 : decode cX2_read 37 = .ok (.iconst 4, 1) := by decide +kernel
theorem dX2_read_38 : decode cX2_read 38 = .ok (.iadd, 1) := by decide +kernel
theorem dX2_read_39 : decode cX2_read 39 = .ok (.iaload, 1) := by decide +kernel
theorem dX2_read_40 : decode cX2_read 40 = .ok (.putfield 61, 3) := by decide +kernel
theorem dX2_read_43 : decode cX2_read 43 = .ok (.aload_n 0, 1) := by decide +kernel
theorem dX2_read_44 : decode cX2_read 44 = .ok (.aload_n 1, 1) := by decide +kernel
theorem dX2_read_45 : decode cX2_read 45 = .ok (.iload_n 2, 1) := by decide +kernel
theorem dX2_read_46 : decode cX2_read 46 = .ok (.iconst 5, 1) := by decide +kernel
theorem dX2_read_47 : decode cX2_read 47 = .ok (.iadd, 1) := by decide +kernel
theorem dX2_read_48 : decode cX2_read 48 = .ok (.iaload, 1) := by decide +kernel
theorem dX2_read_49 : decode cX2_read 49 = .ok (.putfield 64, 3) := by decide +kernel
theorem dX2_read_52 : decode cX2_read 52 = .ok (.aload_n 0, 1) := by decide +kernel
theorem dX2_read_53 : decode cX2_read 53 = .ok (.aload_n 1, 1) := by decide +kernel
theorem dX2_read_54 : decode cX2_read 54 = .ok (.iload_n 2, 1) := by decide +kernel
theorem dX2_read_55 : decode cX2_read 55 = .ok (.bipush 6, 2) := by decide +kernel
theorem dX2_read_57 : decode cX2_read 57 = .ok (.iadd, 1) := by decide +kernel
theorem dX2_read_58 : decode cX2_read 58 = .ok (.iaload, 1) := by decide +kernel
theorem dX2_read_59 : decode cX2_read 59 = .ok (.putfield 67, 3) := by decide +kernel
theorem dX2_read_62 : decode cX2_read 62 = .ok (.aload_n 0, 1) := by decide +kernel
theorem dX2_read_63 : decode cX2_read 63 = .ok (.aload_n 1, 1) := by decide +kernel
theorem dX2_read_64 : decode cX2_read 64 = .ok (.iload_n 2, 1) := by decide +kernel
theorem dX2_read_65 : decode cX2_read 65 = .ok (.bipush 7, 2) := by decide +kernel
theorem dX2_read_67 : decode cX2_read 67 = .ok (.iadd, 1) := by decide +kernel
theorem dX2_read_68 : decode cX2_read 68 = .ok (.iaload, 1) := by decide +kernel
theorem dX2_read_69 : decode cX2_read 69 = .ok (.putfield 70, 3) := by decide +kernel
theorem dX2_read_72 : decode cX2_read 72 = .ok (.aload_n 0, 1) := by decide +kernel
theorem dX2_read_73 : decode cX2_read 73 = .ok (.aload_n 1, 1) := by decide +kernel
theorem dX2_read_74 : decode cX2_read 74 = .ok (.iload_n 2, 1) := by decide +kernel
theorem dX2_read_75 : decode cX2_read 75 = .ok (.bipush 8, 2) := by decide +kernel
theorem dX2_read_77 : decode cX2_read 77 = .ok (.iadd, 1) := by decide +kernel
theorem dX2_read_78 : decode cX2_read 78 = .ok (.iaload, 1) := by decide +kernel
theorem dX2_read_79 : decode cX2_read 79 = .ok (.putfield 29, 3) := by decide +kernel
theorem dX2_read_82 : decode cX2_read 82 = .ok (.aload_n 1, 1) := by decide +kernel
theorem dX2_read_83 : decode cX2_read 83 = .ok (.iload_n 2, 1) := by decide +kernel
theorem dX2_read_84 : decode cX2_read 84 = .ok (.bipush 9, 2) := by decide +kernel
theorem dX2_read_86 : decode cX2_read 86 = .ok (.iadd, 1) := by decide +kernel
theorem dX2_read_87 : decode cX2_read 87 = .ok (.aload_n 0, 1) := by decide +kernel
theorem dX2_read_88 : decode cX2_read 88 = .ok (.getfield 18, 3) := by decide +kernel
theorem dX2_read_91 : decode cX2_read 91 = .ok (.iconst 0, 1) := by decide +kernel
theorem dX2_read_92 : decode cX2_read 92 = .ok (.bipush 24, 2) := by decide +kernel
theorem dX2_read_94 : decode cX2_read 94 = .ok (.invokestatic 49, 3) := by decide +kernel
theorem dX2_read_97 : decode cX2_read 97 = .ok (.aload_n 1, 1) := by decide +kernel
theorem dX2_read_98 : decode cX2_read 98 = .ok (.iload_n 2, 1) := by decide +kernel
theorem dX2_read_99 : decode cX2_read 99 = .ok (.bipush 9, 2) := by decide +kernel
theorem dX2_read_101 : decode cX2_read 101 = .ok (.iadd, 1) := by decide +kernel
theorem dX2_read_102 : decode cX2_read 102 = .ok (.bipush 24, 2) := by decide +kernel
theorem dX2_read_104 : decode cX2_read 104 = .ok (.iadd, 1) := by decide +kernel
theorem dX2_read_105 : decode cX2_read 105 = .ok (.aload_n 0, 1) := by decide +kernel
theorem dX2_read_106 : decode cX2_read 106 = .ok (.getfield 22, 3) := by decide +kernel
theorem dX2_read_109 : decode cX2_read 109 = .ok (.iconst 0, 1) := by decide +kernel
theorem dX2_read_110 : decode cX2_read 110 = .ok (.bipush 60, 2) := by decide +kernel
theorem dX2_read_112 : decode cX2_read 112 = .ok (.invokestatic 49, 3) := by decide +kernel
theorem dX2_read_115 : decode cX2_read 115 = .ok (.return_, 1) := by decide +kernel
