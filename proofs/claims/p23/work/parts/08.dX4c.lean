set_option maxRecDepth 20000 in
theorem ggX4_store_X4_in : GoodIn wsX4_store wsX4_in := goodIn_r _ [6] (by decide +kernel) (by decide +kernel)
set_option maxRecDepth 20000 in
theorem gX4_store_X4_in : GoodIn wsX4_store (va_wsS RX4 42 yX4_in wsX4_in) := goodIn_app (goodIn_of _ (by decide +kernel)) ggX4_store_X4_in
set_option maxRecDepth 20000 in
theorem ggX4_store_X4_note : GoodIn wsX4_store wsX4_note := goodIn_r _ [10, 11, 12, 2, 13, 14, 5, 15, 60, 61, 62, 63, 64, 65, 66, 67, 68, 69, 70, 71, 72] (by decide +kernel) (by decide +kernel)
set_option maxRecDepth 20000 in
theorem gX4_store_X4_note : GoodIn wsX4_store (wsV RX4 127 RX4 yX4_note wsX4_note) := goodIn_app (goodIn_of _ (by decide +kernel)) ggX4_store_X4_note
set_option maxRecDepth 20000 in
theorem ggX4_store_X4_bestOf : GoodIn wsX4_store wsX4_bestOf := goodIn_r _ [19, 20, 2, 21, 22, 23, 5, 24, 25, 26, 27, 28, 29, 30, 31, 32, 33, 34, 35, 36, 37, 38, 39, 40, 41, 42, 43, 44, 3, 4, 6, 45, 46, 47, 48, 49, 50, 51, 52, 53, 54, 55, 60, 61, 62, 63, 64, 65, 66, 67, 68, 69, 70, 71, 72] (by decide +kernel) (by decide +kernel)
set_option maxRecDepth 20000 in
theorem gX4_store_X4_bestOf : GoodIn wsX4_store (wsV RX4 78 RX4 yX4_bestOf wsX4_bestOf) := goodIn_app (goodIn_of _ (by decide +kernel)) ggX4_store_X4_bestOf
set_option maxRecDepth 20000 in
theorem ggX4_store_X4_shown : GoodIn wsX4_store wsX4_shown := goodIn_r _ [58, 30, 59] (by decide +kernel) (by decide +kernel)
set_option maxRecDepth 20000 in
theorem gX4_store_X4_shown : GoodIn wsX4_store (va_wsS RX4 93 yX4_shown wsX4_shown) := goodIn_app (goodIn_of _ (by decide +kernel)) ggX4_store_X4_shown
theorem dX4_store_0 : decode cX4_store 0 = .ok (.iload_n 1, 1) := by decide +kernel
theorem dX4_store_1 : decode cX4_store 1 = .ok (.iconst 0, 1) := by decide +kernel
theorem dX4_store_2 : decode cX4_store 2 = .ok (.bipush 9, 2) := by decide +kernel
theorem dX4_store_4 : decode cX4_store 4 = .ok (.invokestatic 42, 3) := by decide +kernel
theorem dX4_store_7 : decode cX4_store 7 = .ok (.ifCond .eq 13, 3) := by decide +kernel
theorem dX4_store_10 : decode cX4_store 10 = .ok (.iload_n 2, 1) := by decide +kernel
theorem dX4_store_11 : decode cX4_store 11 = .ok (.iconst 0, 1) := by decide +kernel
theorem dX4_store_12 : decode cX4_store 12 = .ok (.bipush 9, 2) := by decide +kernel
theorem dX4_store_14 : decode cX4_store 14 = .ok (.invokestatic 42, 3) := by decide +kernel
theorem dX4_store_17 : decode cX4_store 17 = .ok (.ifCond .ne 6, 3) := by decide +kernel
theorem dX4_store_20 : decode cX4_store 20 = .ok (.ldc 110, 2) := by decide +kernel
theorem dX4_store_22 : decode cX4_store 22 = .ok (.ireturn, 1) := by decide +kernel
theorem dX4_store_23 : decode cX4_store 23 = .ok (.aload_n 0, 1) := by decide +kernel
theorem dX4_store_24 : decode cX4_store 24 = .ok (.invokevirtual 127, 3) := by decide +kernel
theorem dX4_store_27 : decode cX4_store 27 = .ok (.aload_n 0, 1) := by decide +kernel
theorem dX4_store_28 : decode cX4_store 28 = .ok (.getfield 7, 3) := by decide +kernel
theorem dX4_store_31 : decode cX4_store 31 = .ok (.iconst 2, 1) := by decide +kernel
theorem dX4_store_32 : decode cX4_store 32 = .ok (.iload_n 1, 1) := by decide +kernel
theorem dX4_store_33 : decode cX4_store 33 = .ok (.iastore, 1) := by decide +kernel
theorem dX4_store_34 : decode cX4_store 34 = .ok (.aload_n 0, 1) := by decide +kernel
theorem dX4_store_35 : decode cX4_store 35 = .ok (.getfield 7, 3) := by decide +kernel
theorem dX4_store_38 : decode cX4_store 38 = .ok (.iconst 3, 1) := by decide +kernel
theorem dX4_store_39 : decode cX4_store 39 = .ok (.iload_n 2, 1) := by decide +kernel
theorem dX4_store_40 : decode cX4_store 40 = .ok (.iastore, 1) := by decide +kernel
theorem dX4_store_41 : decode cX4_store 41 = .ok (.aload_n 0, 1) := by decide +kernel
theorem dX4_store_42 : decode cX4_store 42 = .ok (.invokevirtual 78, 3) := by decide +kernel
theorem dX4_store_45 : decode cX4_store 45 = .ok (.invokestatic 93, 3) := by decide +kernel
theorem dX4_store_48 : decode cX4_store 48 = .ok (.ireturn, 1) := by decide +kernel
set_option maxRecDepth 20000 in
theorem ggX4_room_X4_isHour : GoodIn wsX4_room wsX4_isHour := goodIn_r _ [7, 8, 9, 6, 10] (by decide +kernel) (by decide +kernel)
set_option maxRecDepth 20000 in
theorem gX4_room_X4_isHour : GoodIn wsX4_room (va_wsS RX4 105 yX4_isHour wsX4_isHour) := goodIn_app (goodIn_of _ (by decide +kernel)) ggX4_room_X4_isHour
set_option maxRecDepth 20000 in
theorem ggX4_room_X4_in : GoodIn wsX4_room wsX4_in := goodIn_r _ [10] (by decide +kernel) (by decide +kernel)
set_option maxRecDepth 20000 in
theorem gX4_room_X4_in : GoodIn wsX4_room (va_wsS RX4 42 yX4_in wsX4_in) := goodIn_app (goodIn_of _ (by decide +kernel)) ggX4_room_X4_in
set_option maxRecDepth 20000 in
theorem ggX4_room_X4_note : GoodIn wsX4_room wsX4_note := goodIn_r _ [14, 15, 16, 3, 17, 18, 6, 19, 64, 65, 66, 67, 68, 69, 70, 71, 72, 73, 74, 75, 76] (by decide +kernel) (by decide +kernel)
set_option maxRecDepth 20000 in
theorem gX4_room_X4_note : GoodIn wsX4_room (wsV RX4 127 RX4 yX4_note wsX4_note) := goodIn_app (goodIn_of _ (by decide +kernel)) ggX4_room_X4_note
set_option maxRecDepth 20000 in
theorem ggX4_room_X4_bestOf : GoodIn wsX4_room wsX4_bestOf := goodIn_r _ [23, 24, 3, 25, 26, 27, 6, 28, 29, 30, 31, 32, 33, 34, 35, 36, 37, 38, 39, 40, 41, 42, 43, 44, 45, 46, 47, 48, 8, 9, 10, 49, 50, 51, 52, 53, 54, 55, 56, 57, 58, 59, 64, 65, 66, 67, 68, 69, 70, 71, 72, 73, 74, 75, 76] (by decide +kernel) (by decide +kernel)
set_option maxRecDepth 20000 in
theorem gX4_room_X4_bestOf : GoodIn wsX4_room (wsV RX4 78 RX4 yX4_bestOf wsX4_bestOf) := goodIn_app (goodIn_of _ (by decide +kernel)) ggX4_room_X4_bestOf
set_option maxRecDepth 20000 in
theorem ggX4_room_X4_shown : GoodIn wsX4_room wsX4_shown := goodIn_r _ [62, 34, 63] (by decide +kernel) (by decide +kernel)
set_option maxRecDepth 20000 in
theorem gX4_room_X4_shown : GoodIn wsX4_room (va_wsS RX4 93 yX4_shown wsX4_shown) := goodIn_app (goodIn_of _ (by decide +kernel)) ggX4_room_X4_shown
theorem dX4_room_0 : decode cX4_room 0 = .ok (.iload_n 1, 1) := by decide +kernel
theorem dX4_room_1 : decode cX4_room 1 = .ok (.invokestatic 105, 3) := by decide +kernel
theorem dX4_room_4 : decode cX4_room 4 = .ok (.ifCond .eq 10, 3) := by decide +kernel
theorem dX4_room_7 : decode cX4_room 7 = .ok (.iload_n 2, 1) := by decide +kernel
theorem dX4_room_8 : decode cX4_room 8 = .ok (.invokestatic 105, 3) := by decide +kernel
theorem dX4_room_11 : decode cX4_room 11 = .ok (.ifCond .ne 6, 3) := by decide +kernel
theorem dX4_room_14 : decode cX4_room 14 = .ok (.ldc 109, 2) := by decide +kernel
theorem dX4_room_16 : decode cX4_room 16 = .ok (.ireturn, 1) := by decide +kernel
theorem dX4_room_17 : decode cX4_room 17 = .ok (.iload_n 1, 1) := by decide +kernel
theorem dX4_room_18 : decode cX4_room 18 = .ok (.iload_n 2, 1) := by decide +kernel
theorem dX4_room_19 : decode cX4_room 19 = .ok (.if_icmp .gt 13, 3) := by decide +kernel
theorem dX4_room_22 : decode cX4_room 22 = .ok (.iload_n 3, 1) := by decide +kernel
theorem dX4_room_23 : decode cX4_room 23 = .ok (.iconst 0, 1) := by decide +kernel
theorem dX4_room_24 : decode cX4_room 24 = .ok (.bipush 60, 2) := by decide +kernel
theorem dX4_room_26 : decode cX4_room 26 = .ok (.invokestatic 42, 3) := by decide +kernel
theorem dX4_room_29 : decode cX4_room 29 = .ok (.ifCond .ne 6, 3) := by decide +kernel
theorem dX4_room_32 : decode cX4_room 32 = .ok (.ldc 110, 2) := by decide +kernel
theorem dX4_room_34 : decode cX4_room 34 = .ok (.ireturn, 1) := by decide +kernel
theorem dX4_room_35 : decode cX4_room 35 = .ok (.aload_n 0, 1) := by decide +kernel
theorem dX4_room_36 : decode cX4_room 36 = .ok (.invokevirtual 127, 3) := by decide +kernel
theorem dX4_room_39 : decode cX4_room 39 = .ok (.iload_n 1, 1) := by decide +kernel
theorem dX4_room_40 : decode cX4_room 40 = .ok (.istore 4, 2) := by decide +kernel
theorem dX4_room_42 : decode cX4_room 42 = .ok (.iload 4, 2) := by decide +kernel
theorem dX4_room_44 : decode cX4_room 44 = .ok (.iload_n 2, 1) := by decide +kernel
theorem dX4_room_45 : decode cX4_room 45 = .ok (.if_icmp .gt 20, 3) := by decide +kernel
theorem dX4_room_48 : decode cX4_room 48 = .ok (.aload_n 0, 1) := by decide +kernel
theorem dX4_room_49 : decode cX4_room 49 = .ok (.getfield 7, 3) := by decide +kernel
theorem dX4_room_52 : decode cX4_room 52 = .ok (.bipush 68, 2) := by decide +kernel
theorem dX4_room_54 : decode cX4_room 54 = .ok (.iload 4, 2) := by decide +kernel
theorem dX4_room_56 : decode cX4_room 56 = .ok (.iadd, 1) := by decide +kernel
theorem dX4_room_57 : decode cX4_room 57 = .ok (.iload_n 3, 1) := by decide +kernel
theorem dX4_room_58 : decode cX4_room 58 = .ok (.iastore, 1) := by decide +kernel
theorem dX4_room_59 : decode cX4_room 59 = .ok (.iinc 4 1, 3) := by decide +kernel
theorem dX4_room_62 : decode cX4_room 62 = .ok (.goto (-20), 3) := by decide +kernel
theorem dX4_room_65 : decode cX4_room 65 = .ok (.aload_n 0, 1) := by decide +kernel
theorem dX4_room_66 : decode cX4_room 66 = .ok (.invokevirtual 78, 3) := by decide +kernel
theorem dX4_room_69 : decode cX4_room 69 = .ok (.invokestatic 93, 3) := by decide +kernel
theorem dX4_room_72 : decode cX4_room 72 = .ok (.ireturn, 1) := by decide +kernel
set_option maxRecDepth 20000 in
theorem ggX4_begin_X4_in : GoodIn wsX4_begin wsX4_in := goodIn_r _ [5] (by decide +kernel) (by decide +kernel)
set_option maxRecDepth 20000 in
theorem gX4_begin_X4_in : GoodIn wsX4_begin (va_wsS RX4 42 yX4_in wsX4_in) := goodIn_app (goodIn_of _ (by decide +kernel)) ggX4_begin_X4_in
set_option maxRecDepth 20000 in
theorem ggX4_begin_X4_becomes : GoodIn wsX4_begin wsX4_becomes := goodIn_r _ [9, 10, 11, 12, 13, 4, 14, 15, 16, 17, 18, 19, 20, 21, 22, 23, 24, 25, 26, 27, 28, 29, 30, 31, 32, 33, 34, 35, 36, 37, 38, 39, 40, 41, 42, 43, 44, 45, 46, 47, 48, 2, 3, 5, 49, 50, 51, 52, 53, 54, 55, 56, 57, 58, 59, 60, 61, 62, 63, 64, 65, 66, 67, 68, 69, 70, 71, 72, 73, 74, 75, 76] (by decide +kernel) (by decide +kernel)
set_option maxRecDepth 20000 in
theorem gX4_begin_X4_becomes : GoodIn wsX4_begin (wsV RX4 130 RX4 yX4_becomes wsX4_becomes) := goodIn_app (goodIn_of _ (by decide +kernel)) ggX4_begin_X4_becomes
theorem dX4_begin_0 : decode cX4_begin 0 = .ok (.iload_n 1, 1) := by decide +kernel
theorem dX4_begin_1 : decode cX4_begin 1 = .ok (.iconst 0, 1) := by decide +kernel
theorem dX4_begin_2 : decode cX4_begin 2 = .ok (.bipush 60, 2) := by decide +kernel
theorem dX4_begin_4 : decode cX4_begin 4 = .ok (.invokestatic 42, 3) := by decide +kernel
theorem dX4_begin_7 : decode cX4_begin 7 = .ok (.ifCond .eq 12, 3) := by decide +kernel
theorem dX4_begin_10 : decode cX4_begin 10 = .ok (.aload_n 0, 1) := by decide +kernel
theorem dX4_begin_11 : decode cX4_begin 11 = .ok (.iconst 1, 1) := by decide +kernel
theorem dX4_begin_12 : decode cX4_begin 12 = .ok (.iload_n 1, 1) := by decide +kernel
theorem dX4_begin_13 : decode cX4_begin 13 = .ok (.invokevirtual 130, 3) := by decide +kernel
theorem dX4_begin_16 : decode cX4_begin 16 = .ok (.goto 5, 3) := by decide +kernel
theorem dX4_begin_19 : decode cX4_begin 19 = .ok (.ldc 110, 2) := by decide +kernel
theorem dX4_begin_21 : decode cX4_begin 21 = .ok (.ireturn, 1) := by decide +kernel
set_option maxRecDepth 20000 in
theorem ggX4_hold_X4_in : GoodIn wsX4_hold wsX4_in := goodIn_r _ [5] (by decide +kernel) (by decide +kernel)
set_option maxRecDepth 20000 in
theorem gX4_hold_X4_in : GoodIn wsX4_hold (va_wsS RX4 42 yX4_in wsX4_in) := goodIn_app (goodIn_of _ (by decide +kernel)) ggX4_hold_X4_in
set_option maxRecDepth 20000 in
theorem ggX4_hold_X4_becomes : GoodIn wsX4_hold wsX4_becomes := goodIn_r _ [9, 10, 11, 12, 13, 4, 14, 15, 16, 17, 18, 19, 20, 21, 22, 23, 24, 25, 26, 27, 28, 29, 30, 31, 32, 33, 34, 35, 36, 37, 38, 39, 40, 41, 42, 43, 44, 45, 46, 47, 48, 2, 3, 5, 49, 50, 51, 52, 53, 54, 55, 56, 57, 58, 59, 60, 61, 62, 63, 64, 65, 66, 67, 68, 69, 70, 71, 72, 73, 74, 75, 76] (by decide +kernel) (by decide +kernel)
set_option maxRecDepth 20000 in
theorem gX4_hold_X4_becomes : GoodIn wsX4_hold (wsV RX4 130 RX4 yX4_becomes wsX4_becomes) := goodIn_app (goodIn_of _ (by decide +kernel)) ggX4_hold_X4_becomes
theorem dX4_hold_0 : decode cX4_hold 0 = .ok (.iload_n 1, 1) := by decide +kernel
theorem dX4_hold_1 : decode cX4_hold 1 = .ok (.iconst 0, 1) := by decide +kernel
theorem dX4_hold_2 : decode cX4_hold 2 = .ok (.bipush 9, 2) := by decide +kernel
theorem dX4_hold_4 : decode cX4_hold 4 = .ok (.invokestatic 42, 3) := by decide +kernel
theorem dX4_hold_7 : decode cX4_hold 7 = .ok (.ifCond .eq 12, 3) := by decide +kernel
theorem dX4_hold_10 : decode cX4_hold 10 = .ok (.aload_n 0, 1) := by decide +kernel
theorem dX4_hold_11 : decode cX4_hold 11 = .ok (.iconst 4, 1) := by decide +kernel
theorem dX4_hold_12 : decode cX4_hold 12 = .ok (.iload_n 1, 1) := by decide +kernel
theorem dX4_hold_13 : decode cX4_hold 13 = .ok (.invokevirtual 130, 3) := by decide +kernel
theorem dX4_hold_16 : decode cX4_hold 16 = .ok (.goto 5, 3) := by decide +kernel
theorem dX4_hold_19 : decode cX4_hold 19 = .ok (.ldc 110, 2) := by decide +kernel
theorem dX4_hold_21 : decode cX4_hold 21 = .ok (.ireturn, 1) := by decide +kernel
set_option maxRecDepth 20000 in
theorem ggX4_worth_X4_in : GoodIn wsX4_worth wsX4_in := goodIn_r _ [5] (by decide +kernel) (by decide +kernel)
set_option maxRecDepth 20000 in
theorem gX4_worth_X4_in : GoodIn wsX4_worth (va_wsS RX4 42 yX4_in wsX4_in) := goodIn_app (goodIn_of _ (by decide +kernel)) ggX4_worth_X4_in
set_option maxRecDepth 20000 in
theorem ggX4_worth_X4_becomes : GoodIn wsX4_worth wsX4_becomes := goodIn_r _ [9, 10, 11, 12, 13, 4, 14, 15, 16, 17, 18, 19, 20, 21, 22, 23, 24, 25, 26, 27, 28, 29, 30, 31, 32, 33, 34, 35, 36, 37, 38, 39, 40, 41, 42, 43, 44, 45, 46, 47, 48, 2, 3, 5, 49, 50, 51, 52, 53, 54, 55, 56, 57, 58, 59, 60, 61, 62, 63, 64, 65, 66, 67, 68, 69, 70, 71, 72, 73, 74, 75, 76] (by decide +kernel) (by decide +kernel)
set_option maxRecDepth 20000 in
theorem gX4_worth_X4_becomes : GoodIn wsX4_worth (wsV RX4 130 RX4 yX4_becomes wsX4_becomes) := goodIn_app (goodIn_of _ (by decide +kernel)) ggX4_worth_X4_becomes
theorem dX4_worth_0 : decode cX4_worth 0 = .ok (.iload_n 1, 1) := by decide +kernel
theorem dX4_worth_1 : decode cX4_worth 1 = .ok (.bipush (-99), 2) := by decide +kernel
theorem dX4_worth_3 : decode cX4_worth 3 = .ok (.bipush 99, 2) := by decide +kernel
theorem dX4_worth_5 : decode cX4_worth 5 = .ok (.invokestatic 42, 3) := by decide +kernel
theorem dX4_worth_8 : decode cX4_worth 8 = .ok (.ifCond .eq 12, 3) := by decide +kernel
theorem dX4_worth_11 : decode cX4_worth 11 = .ok (.aload_n 0, 1) := by decide +kernel
theorem dX4_worth_12 : decode cX4_worth 12 = .ok (.iconst 5, 1) := by decide +kernel
theorem dX4_worth_13 : decode cX4_worth 13 = .ok (.iload_n 1, 1) := by decide +kernel
theorem dX4_worth_14 : decode cX4_worth 14 = .ok (.invokevirtual 130, 3) := by decide +kernel
theorem dX4_worth_17 : decode cX4_worth 17 = .ok (.goto 5, 3) := by decide +kernel
theorem dX4_worth_20 : decode cX4_worth 20 = .ok (.ldc 110, 2) := by decide +kernel
theorem dX4_worth_22 : decode cX4_worth 22 = .ok (.ireturn, 1) := by decide +kernel
set_option maxRecDepth 20000 in
theorem ggX4_spread_X4_in : GoodIn wsX4_spread wsX4_in := goodIn_r _ [5] (by decide +kernel) (by decide +kernel)
set_option maxRecDepth 20000 in
theorem gX4_spread_X4_in : GoodIn wsX4_spread (va_wsS RX4 42 yX4_in wsX4_in) := goodIn_app (goodIn_of _ (by decide +kernel)) ggX4_spread_X4_in
set_option maxRecDepth 20000 in
theorem ggX4_spread_X4_becomes : GoodIn wsX4_spread wsX4_becomes := goodIn_r _ [9, 10, 11, 12, 13, 4, 14, 15, 16, 17, 18, 19, 20, 21, 22, 23, 24, 25, 26, 27, 28, 29, 30, 31, 32, 33, 34, 35, 36, 37, 38, 39, 40, 41, 42, 43, 44, 45, 46, 47, 48, 2, 3, 5, 49, 50, 51, 52, 53, 54, 55, 56, 57, 58, 59, 60, 61, 62, 63, 64, 65, 66, 67, 68, 69, 70, 71, 72, 73, 74, 75, 76] (by decide +kernel) (by decide +kernel)
set_option maxRecDepth 20000 in
theorem gX4_spread_X4_becomes : GoodIn wsX4_spread (wsV RX4 130 RX4 yX4_becomes wsX4_becomes) := goodIn_app (goodIn_of _ (by decide +kernel)) ggX4_spread_X4_becomes
theorem dX4_spread_0 : decode cX4_spread 0 = .ok (.iload_n 1, 1) := by decide +kernel
theorem dX4_spread_1 : decode cX4_spread 1 = .ok (.iconst 0, 1) := by decide +kernel
theorem dX4_spread_2 : decode cX4_spread 2 = .ok (.bipush 50, 2) := by decide +kernel
theorem dX4_spread_4 : decode cX4_spread 4 = .ok (.invokestatic 42, 3) := by decide +kernel
theorem dX4_spread_7 : decode cX4_spread 7 = .ok (.ifCond .eq 13, 3) := by decide +kernel
theorem dX4_spread_10 : decode cX4_spread 10 = .ok (.aload_n 0, 1) := by decide +kernel
theorem dX4_spread_11 : decode cX4_spread 11 = .ok (.bipush 6, 2) := by decide +kernel
theorem dX4_spread_13 : decode cX4_spread 13 = .ok (.iload_n 1, 1) := by decide +kernel
theorem dX4_spread_14 : decode cX4_spread 14 = .ok (.invokevirtual 130, 3) := by decide +kernel
theorem dX4_spread_17 : decode cX4_spread 17 = .ok (.goto 5, 3) := by decide +kernel
theorem dX4_spread_20 : decode cX4_spread 20 = .ok (.ldc 110, 2) := by decide +kernel
theorem dX4_spread_22 : decode cX4_spread 22 = .ok (.ireturn, 1) := by decide +kernel
set_option maxRecDepth 20000 in
theorem ggX4_addLaw_X4_note : GoodIn wsX4_addLaw wsX4_note := goodIn_r _ [6, 7, 8, 1, 9, 10, 5, 11, 12, 13, 14, 15, 16, 17, 18, 19, 20, 21, 22, 23, 24] (by decide +kernel) (by decide +kernel)
set_option maxRecDepth 20000 in
theorem gX4_addLaw_X4_note : GoodIn wsX4_addLaw (wsV RX4 127 RX4 yX4_note wsX4_note) := goodIn_app (goodIn_of _ (by decide +kernel)) ggX4_addLaw_X4_note
theorem dX4_addLaw_0 : decode cX4_addLaw 0 = .ok (.aload_n 0, 1) := by decide +kernel
theorem dX4_addLaw_1 : decode cX4_addLaw 1 = .ok (.invokevirtual 127, 3) := by decide +kernel
theorem dX4_addLaw_4 : decode cX4_addLaw 4 = .ok (.bipush 8, 2) := by decide +kernel
theorem dX4_addLaw_6 : decode cX4_addLaw 6 = .ok (.iconst 5, 1) := by decide +kernel
theorem dX4_addLaw_7 : decode cX4_addLaw 7 = .ok (.aload_n 0, 1) := by decide +kernel
theorem dX4_addLaw_8 : decode cX4_addLaw 8 = .ok (.getfield 7, 3) := by decide +kernel
theorem dX4_addLaw_11 : decode cX4_addLaw 11 = .ok (.bipush 7, 2) := by decide +kernel
theorem dX4_addLaw_13 : decode cX4_addLaw 13 = .ok (.iaload, 1) := by decide +kernel
theorem dX4_addLaw_14 : decode cX4_addLaw 14 = .ok (.imul, 1) := by decide +kernel
theorem dX4_addLaw_15 : decode cX4_addLaw 15 = .ok (.iadd, 1) := by decide +kernel
theorem dX4_addLaw_16 : decode cX4_addLaw 16 = .ok (.istore 6, 2) := by decide +kernel
theorem dX4_addLaw_18 : decode cX4_addLaw 18 = .ok (.aload_n 0, 1) := by decide +kernel
theorem dX4_addLaw_19 : decode cX4_addLaw 19 = .ok (.getfield 7, 3) := by decide +kernel
theorem dX4_addLaw_22 : decode cX4_addLaw 22 = .ok (.iload 6, 2) := by decide +kernel
theorem dX4_addLaw_24 : decode cX4_addLaw 24 = .ok (.iload_n 1, 1) := by decide +kernel
theorem dX4_addLaw_25 : decode cX4_addLaw 25 = .ok (.iastore, 1) := by decide +kernel
theorem dX4_addLaw_26 : decode cX4_addLaw 26 = .ok (.aload_n 0, 1) := by decide +kernel
theorem dX4_addLaw_27 : decode cX4_addLaw 27 = .ok (.getfield 7, 3) := by decide +kernel
theorem dX4_addLaw_30 : decode cX4_addLaw 30 = .ok (.iload 6, 2) := by decide +kernel
theorem dX4_addLaw_32 : decode cX4_addLaw 32 = .ok (.iconst 1, 1) := by decide +kernel
theorem dX4_addLaw_33 : decode cX4_addLaw 33 = .ok (.iadd, 1) := by decide +kernel
theorem dX4_addLaw_34 : decode cX4_addLaw 34 = .ok (.iload_n 2, 1) := by decide +kernel
theorem dX4_addLaw_35 : decode cX4_addLaw 35 = .ok (.iastore, 1) := by decide +kernel
theorem dX4_addLaw_36 : decode cX4_addLaw 36 = .ok (.aload_n 0, 1) := by decide +kernel
theorem dX4_addLaw_37 : decode cX4_addLaw 37 = .ok (.getfield 7, 3) := by decide +kernel
theorem dX4_addLaw_40 : decode cX4_addLaw 40 = .ok (.iload 6, 2) := by decide +kernel
theorem dX4_addLaw_42 : decode cX4_addLaw 42 = .ok (.iconst 2, 1) := by decide +kernel
theorem dX4_addLaw_43 : decode cX4_addLaw 43 = .ok (.iadd, 1) := by decide +kernel
theorem dX4_addLaw_44 : decode cX4_addLaw 44 = .ok (.iload_n 3, 1) := by decide +kernel
theorem dX4_addLaw_45 : decode cX4_addLaw 45 = .ok (.iastore, 1) := by decide +kernel
theorem dX4_addLaw_46 : decode cX4_addLaw 46 = .ok (.aload_n 0, 1) := by decide +kernel
theorem dX4_addLaw_47 : decode cX4_addLaw 47 = .ok (.getfield 7, 3) := by decide +kernel
theorem dX4_addLaw_50 : decode cX4_addLaw 50 = .ok (.iload 6, 2) := by decide +kernel
theorem dX4_addLaw_52 : decode cX4_addLaw 52 = .ok (.iconst 3, 1) := by decide +kernel
theorem dX4_addLaw_53 : decode cX4_addLaw 53 = .ok (.iadd, 1) := by decide +kernel
theorem dX4_addLaw_54 : decode cX4_addLaw 54 = .ok (.iload 4, 2) := by decide +kernel
theorem dX4_addLaw_56 : decode cX4_addLaw 56 = .ok (.iastore, 1) := by decide +kernel
theorem dX4_addLaw_57 : decode cX4_addLaw 57 = .ok (.aload_n 0, 1) := by decide +kernel
theorem dX4_addLaw_58 : decode cX4_addLaw 58 = .ok (.getfield 7, 3) := by decide +kernel
theorem dX4_addLaw_61 : decode cX4_addLaw 61 = .ok (.iload 6, 2) := by decide +kernel
theorem dX4_addLaw_63 : decode cX4_addLaw 63 = .ok (.iconst 4, 1) := by decide +kernel
theorem dX4_addLaw_64 : decode cX4_addLaw 64 = .ok (.iadd, 1) := by decide +kernel
theorem dX4_addLaw_65 : decode cX4_addLaw 65 = .ok (.iload 5, 2) := by decide +kernel
theorem dX4_addLaw_67 : decode cX4_addLaw 67 = .ok (.iastore, 1) := by decide +kernel
theorem dX4_addLaw_68 : decode cX4_addLaw 68 = .ok (.aload_n 0, 1) := by decide +kernel
theorem dX4_addLaw_69 : decode cX4_addLaw 69 = .ok (.getfield 7, 3) := by decide +kernel
theorem dX4_addLaw_72 : decode cX4_addLaw 72 = .ok (.bipush 7, 2) := by decide +kernel
theorem dX4_addLaw_74 : decode cX4_addLaw 74 = .ok (.dup2, 1) := by decide +kernel
theorem dX4_addLaw_75 : decode cX4_addLaw 75 = .ok (.iaload, 1) := by decide +kernel
theorem dX4_addLaw_76 : decode cX4_addLaw 76 = .ok (.iconst 1, 1) := by decide +kernel
theorem dX4_addLaw_77 : decode cX4_addLaw 77 = .ok (.iadd, 1) := by decide +kernel
theorem dX4_addLaw_78 : decode cX4_addLaw 78 = .ok (.iastore, 1) := by decide +kernel
theorem dX4_addLaw_79 : decode cX4_addLaw 79 = .ok (.return_, 1) := by decide +kernel
set_option maxRecDepth 20000 in
theorem ggX4_law_X4_isHour : GoodIn wsX4_law wsX4_isHour := goodIn_r _ [8, 9, 10, 7, 11] (by decide +kernel) (by decide +kernel)
set_option maxRecDepth 20000 in
theorem gX4_law_X4_isHour : GoodIn wsX4_law (va_wsS RX4 105 yX4_isHour wsX4_isHour) := goodIn_app (goodIn_of _ (by decide +kernel)) ggX4_law_X4_isHour
set_option maxRecDepth 20000 in
theorem ggX4_law_X4_in : GoodIn wsX4_law wsX4_in := goodIn_r _ [11] (by decide +kernel) (by decide +kernel)
set_option maxRecDepth 20000 in
theorem gX4_law_X4_in : GoodIn wsX4_law (va_wsS RX4 42 yX4_in wsX4_in) := goodIn_app (goodIn_of _ (by decide +kernel)) ggX4_law_X4_in
set_option maxRecDepth 20000 in
theorem ggX4_law_X4_addLaw : GoodIn wsX4_law wsX4_addLaw := goodIn_r _ [15, 3, 16, 17, 18, 7, 19, 20, 21, 22, 23, 24, 69, 70, 71, 72, 73, 74, 75, 76, 77, 78, 79, 80, 81] (by decide +kernel) (by decide +kernel)
set_option maxRecDepth 20000 in
theorem gX4_law_X4_addLaw : GoodIn wsX4_law (wsV RX4 135 RX4 yX4_addLaw wsX4_addLaw) := goodIn_app (goodIn_of _ (by decide +kernel)) ggX4_law_X4_addLaw
set_option maxRecDepth 20000 in
theorem ggX4_law_X4_bestOf : GoodIn wsX4_law wsX4_bestOf := goodIn_r _ [28, 29, 3, 30, 31, 32, 7, 33, 34, 35, 36, 37, 38, 39, 40, 41, 42, 43, 44, 45, 46, 47, 48, 49, 50, 51, 52, 53, 9, 10, 11, 54, 55, 56, 57, 58, 59, 60, 61, 62, 63, 64, 69, 70, 71, 72, 73, 74, 75, 76, 77, 78, 79, 80, 81] (by decide +kernel) (by decide +kernel)
set_option maxRecDepth 20000 in
theorem gX4_law_X4_bestOf : GoodIn wsX4_law (wsV RX4 78 RX4 yX4_bestOf wsX4_bestOf) := goodIn_app (goodIn_of _ (by decide +kernel)) ggX4_law_X4_bestOf
set_option maxRecDepth 20000 in
theorem ggX4_law_X4_shown : GoodIn wsX4_law wsX4_shown := goodIn_r _ [67, 39, 68] (by decide +kernel) (by decide +kernel)
set_option maxRecDepth 20000 in
theorem gX4_law_X4_shown : GoodIn wsX4_law (va_wsS RX4 93 yX4_shown wsX4_shown) := goodIn_app (goodIn_of _ (by decide +kernel)) ggX4_law_X4_shown
theorem dX4_law_0 : decode cX4_law 0 = .ok (.iload_n 1, 1) := by decide +kernel
theorem dX4_law_1 : decode cX4_law 1 = .ok (.invokestatic 105, 3) := by decide +kernel
theorem dX4_law_4 : decode cX4_law 4 = .ok (.ifCond .eq 10, 3) := by decide +kernel
theorem dX4_law_7 : decode cX4_law 7 = .ok (.iload_n 2, 1) := by decide +kernel
theorem dX4_law_8 : decode cX4_law 8 = .ok (.invokestatic 105, 3) := by decide +kernel
theorem dX4_law_11 : decode cX4_law 11 = .ok (.ifCond .ne 6, 3) := by decide +kernel
theorem dX4_law_14 : decode cX4_law 14 = .ok (.ldc 109, 2) := by decide +kernel
theorem dX4_law_16 : decode cX4_law 16 = .ok (.ireturn, 1) := by decide +kernel
theorem dX4_law_17 : decode cX4_law 17 = .ok (.iload_n 1, 1) := by decide +kernel
theorem dX4_law_18 : decode cX4_law 18 = .ok (.iload_n 2, 1) := by decide +kernel
theorem dX4_law_19 : decode cX4_law 19 = .ok (.if_icmp .gt 36, 3) := by decide +kernel
theorem dX4_law_22 : decode cX4_law 22 = .ok (.iload_n 3, 1) := by decide +kernel
theorem dX4_law_23 : decode cX4_law 23 = .ok (.iconst 0, 1) := by decide +kernel
theorem dX4_law_24 : decode cX4_law 24 = .ok (.iconst 4, 1) := by decide +kernel
theorem dX4_law_25 : decode cX4_law 25 = .ok (.invokestatic 42, 3) := by decide +kernel
theorem dX4_law_28 : decode cX4_law 28 = .ok (.ifCond .eq 27, 3) := by decide +kernel
theorem dX4_law_31 : decode cX4_law 31 = .ok (.iload 4, 2) := by decide +kernel
theorem dX4_law_33 : decode cX4_law 33 = .ok (.bipush (-99), 2) := by decide +kernel
theorem dX4_law_35 : decode cX4_law 35 = .ok (.bipush 99, 2) := by decide +kernel
theorem dX4_law_37 : decode cX4_law 37 = .ok (.invokestatic 42, 3) := by decide +kernel
theorem dX4_law_40 : decode cX4_law 40 = .ok (.ifCond .eq 15, 3) := by decide +kernel
theorem dX4_law_43 : decode cX4_law 43 = .ok (.iload 5, 2) := by decide +kernel
theorem dX4_law_45 : decode cX4_law 45 = .ok (.bipush (-9), 2) := by decide +kernel
theorem dX4_law_47 : decode cX4_law 47 = .ok (.bipush 9, 2) := by decide +kernel
theorem dX4_law_49 : decode cX4_law 49 = .ok (.invokestatic 42, 3) := by decide +kernel
theorem dX4_law_52 : decode cX4_law 52 = .ok (.ifCond .ne 6, 3) := by decide +kernel
theorem dX4_law_55 : decode cX4_law 55 = .ok (.ldc 110, 2) := by decide +kernel
theorem dX4_law_57 : decode cX4_law 57 = .ok (.ireturn, 1) := by decide +kernel
theorem dX4_law_58 : decode cX4_law 58 = .ok (.aload_n 0, 1) := by decide +kernel
theorem dX4_law_59 : decode cX4_law 59 = .ok (.getfield 7, 3) := by decide +kernel
theorem dX4_law_62 : decode cX4_law 62 = .ok (.bipush 7, 2) := by decide +kernel
theorem dX4_law_64 : decode cX4_law 64 = .ok (.iaload, 1) := by decide +kernel
theorem dX4_law_65 : decode cX4_law 65 = .ok (.bipush 12, 2) := by decide +kernel
theorem dX4_law_67 : decode cX4_law 67 = .ok (.if_icmp .ne 6, 3) := by decide +kernel
theorem dX4_law_70 : decode cX4_law 70 = .ok (.ldc 134, 2) := by decide +kernel
theorem dX4_law_72 : decode cX4_law 72 = .ok (.ireturn, 1) := by decide +kernel
theorem dX4_law_73 : decode cX4_law 73 = .ok (.aload_n 0, 1) := by decide +kernel
theorem dX4_law_74 : decode cX4_law 74 = .ok (.iload_n 1, 1) := by decide +kernel
theorem dX4_law_75 : decode cX4_law 75 = .ok (.iload_n 2, 1) := by decide +kernel
theorem dX4_law_76 : decode cX4_law 76 = .ok (.iload_n 3, 1) := by decide +kernel
theorem dX4_law_77 : decode cX4_law 77 = .ok (.iload 4, 2) := by decide +kernel
theorem dX4_law_79 : decode cX4_law 79 = .ok (.iload 5, 2) := by decide +kernel
theorem dX4_law_81 : decode cX4_law 81 = .ok (.invokevirtual 135, 3) := by decide +kernel
theorem dX4_law_84 : decode cX4_law 84 = .ok (.aload_n 0, 1) := by decide +kernel
theorem dX4_law_85 : decode cX4_law 85 = .ok (.invokevirtual 78, 3) := by decide +kernel
theorem dX4_law_88 : decode cX4_law 88 = .ok (.invokestatic 93, 3) := by decide +kernel
theorem dX4_law_91 : decode cX4_law 91 = .ok (.ireturn, 1) := by decide +kernel
set_option maxRecDepth 20000 in
theorem ggX4_drop_X4_isLaw : GoodIn wsX4_drop wsX4_isLaw := goodIn_r _ [7, 2, 8, 9, 6, 10, 64, 65, 66, 67, 68, 69, 70, 71, 72, 73, 74, 75, 76] (by decide +kernel) (by decide +kernel)
set_option maxRecDepth 20000 in
theorem gX4_drop_X4_isLaw : GoodIn wsX4_drop (wsV RX4 120 RX4 yX4_isLaw wsX4_isLaw) := goodIn_app (goodIn_of _ (by decide +kernel)) ggX4_drop_X4_isLaw
set_option maxRecDepth 20000 in
theorem ggX4_drop_X4_note : GoodIn wsX4_drop wsX4_note := goodIn_r _ [14, 15, 16, 2, 17, 18, 6, 19, 64, 65, 66, 67, 68, 69, 70, 71, 72, 73, 74, 75, 76] (by decide +kernel) (by decide +kernel)
set_option maxRecDepth 20000 in
theorem gX4_drop_X4_note : GoodIn wsX4_drop (wsV RX4 127 RX4 yX4_note wsX4_note) := goodIn_app (goodIn_of _ (by decide +kernel)) ggX4_drop_X4_note
set_option maxRecDepth 20000 in
theorem ggX4_drop_X4_bring : GoodIn wsX4_drop wsX4_bring := goodIn_r _ [19] (by decide +kernel) (by decide +kernel)
set_option maxRecDepth 20000 in
theorem gX4_drop_X4_bring : GoodIn wsX4_drop (va_wsS RX4 123 yX4_bring wsX4_bring) := goodIn_app (goodIn_of _ (by decide +kernel)) ggX4_drop_X4_bring
set_option maxRecDepth 20000 in
theorem ggX4_drop_X4_bestOf : GoodIn wsX4_drop wsX4_bestOf := goodIn_r _ [23, 24, 2, 25, 26, 27, 6, 28, 29, 30, 31, 32, 33, 34, 35, 36, 37, 38, 39, 40, 41, 42, 43, 44, 45, 46, 47, 48, 8, 9, 10, 49, 50, 51, 52, 53, 54, 55, 56, 57, 58, 59, 64, 65, 66, 67, 68, 69, 70, 71, 72, 73, 74, 75, 76] (by decide +kernel) (by decide +kernel)
set_option maxRecDepth 20000 in
theorem gX4_drop_X4_bestOf : GoodIn wsX4_drop (wsV RX4 78 RX4 yX4_bestOf wsX4_bestOf) := goodIn_app (goodIn_of _ (by decide +kernel)) ggX4_drop_X4_bestOf
set_option maxRecDepth 20000 in
theorem ggX4_drop_X4_shown : GoodIn wsX4_drop wsX4_shown := goodIn_r _ [62, 34, 63] (by decide +kernel) (by decide +kernel)
set_option maxRecDepth 20000 in
theorem gX4_drop_X4_shown : GoodIn wsX4_drop (va_wsS RX4 93 yX4_shown wsX4_shown) := goodIn_app (goodIn_of _ (by decide +kernel)) ggX4_drop_X4_shown
theorem dX4_drop_0 : decode cX4_drop 0 = .ok (.aload_n 0, 1) := by decide +kernel
theorem dX4_drop_1 : decode cX4_drop 1 = .ok (.iload_n 1, 1) := by decide +kernel
theorem dX4_drop_2 : decode cX4_drop 2 = .ok (.invokevirtual 120, 3) := by decide +kernel
theorem dX4_drop_5 : decode cX4_drop 5 = .ok (.ifCond .ne 6, 3) := by decide +kernel
theorem dX4_drop_8 : decode cX4_drop 8 = .ok (.ldc 109, 2) := by decide +kernel
theorem dX4_drop_10 : decode cX4_drop 10 = .ok (.ireturn, 1) := by decide +kernel
theorem dX4_drop_11 : decode cX4_drop 11 = .ok (.aload_n 0, 1) := by decide +kernel
theorem dX4_drop_12 : decode cX4_drop 12 = .ok (.invokevirtual 127, 3) := by decide +kernel
theorem dX4_drop_15 : decode cX4_drop 15 = .ok (.aload_n 0, 1) := by decide +kernel
theorem dX4_drop_16 : decode cX4_drop 16 = .ok (.getfield 7, 3) := by decide +kernel
theorem dX4_drop_19 : decode cX4_drop 19 = .ok (.bipush 7, 2) := by decide +kernel
theorem dX4_drop_21 : decode cX4_drop 21 = .ok (.iaload, 1) := by decide +kernel
theorem dX4_drop_22 : decode cX4_drop 22 = .ok (.istore_n 2, 1) := by decide +kernel
theorem dX4_drop_23 : decode cX4_drop 23 = .ok (.aload_n 0, 1) := by decide +kernel
theorem dX4_drop_24 : decode cX4_drop 24 = .ok (.getfield 7, 3) := by decide +kernel
theorem dX4_drop_27 : decode cX4_drop 27 = .ok (.bipush 8, 2) := by decide +kernel
theorem dX4_drop_29 : decode cX4_drop 29 = .ok (.iconst 5, 1) := by decide +kernel
theorem dX4_drop_30 : decode cX4_drop 30 = .ok (.iload_n 1, 1) := by decide +kernel
theorem dX4_drop_31 : decode cX4_drop 31 = .ok (.imul, 1) := by decide +kernel
theorem dX4_drop_32 : decode cX4_drop 32 = .ok (.iadd, 1) := by decide +kernel
theorem dX4_drop_33 : decode cX4_drop 33 = .ok (.iconst 5, 1) := by decide +kernel
theorem dX4_drop_34 : decode cX4_drop 34 = .ok (.iadd, 1) := by decide +kernel
theorem dX4_drop_35 : decode cX4_drop 35 = .ok (.aload_n 0, 1) := by decide +kernel
theorem dX4_drop_36 : decode cX4_drop 36 = .ok (.getfield 7, 3) := by decide +kernel
theorem dX4_drop_39 : decode cX4_drop 39 = .ok (.bipush 8, 2) := by decide +kernel
theorem dX4_drop_41 : decode cX4_drop 41 = .ok (.iconst 5, 1) := by decide +kernel
theorem dX4_drop_42 : decode cX4_drop 42 = .ok (.iload_n 1, 1) := by decide +kernel
theorem dX4_drop_43 : decode cX4_drop 43 = .ok (.imul, 1) := by decide +kernel
theorem dX4_drop_44 : decode cX4_drop 44 = .ok (.iadd, 1) := by decide +kernel
theorem dX4_drop_45 : decode cX4_drop 45 = .ok (.iconst 5, 1) := by decide +kernel
theorem dX4_drop_46 : decode cX4_drop 46 = .ok (.iload_n 2, 1) := by decide +kernel
theorem dX4_drop_47 : decode cX4_drop 47 = .ok (.iload_n 1, 1) := by decide +kernel
theorem dX4_drop_48 : decode cX4_drop 48 = .ok (.isub, 1) := by decide +kernel
theorem dX4_drop_49 : decode cX4_drop 49 = .ok (.iconst 1, 1) := by decide +kernel
theorem dX4_drop_50 : decode cX4_drop 50 = .ok (.isub, 1) := by decide +kernel
theorem dX4_drop_51 : decode cX4_drop 51 = .ok (.imul, 1) := by decide +kernel
theorem dX4_drop_52 : decode cX4_drop 52 = .ok (.invokestatic 123, 3) := by decide +kernel
theorem dX4_drop_55 : decode cX4_drop 55 = .ok (.iconst 0, 1) := by decide +kernel
theorem dX4_drop_56 : decode cX4_drop 56 = .ok (.istore_n 3, 1) := by decide +kernel
theorem dX4_drop_57 : decode cX4_drop 57 = .ok (.iload_n 3, 1) := by decide +kernel
theorem dX4_drop_58 : decode cX4_drop 58 = .ok (.iconst 5, 1) := by decide +kernel
theorem dX4_drop_59 : decode cX4_drop 59 = .ok (.if_icmp .ge 25, 3) := by decide +kernel
theorem dX4_drop_62 : decode cX4_drop 62 = .ok (.aload_n 0, 1) := by decide +kernel
theorem dX4_drop_63 : decode cX4_drop 63 = .ok (.getfield 7, 3) := by decide +kernel
theorem dX4_drop_66 : decode cX4_drop 66 = .ok (.bipush 8, 2) := by decide +kernel
theorem dX4_drop_68 : decode cX4_drop 68 = .ok (.iconst 5, 1) := by decide +kernel
theorem dX4_drop_69 : decode cX4_drop 69 = .ok (.iload_n 2, 1) := by decide +kernel
theorem dX4_drop_70 : decode cX4_drop 70 = .ok (.iconst 1, 1) := by decide +kernel
theorem dX4_drop_71 : decode cX4_drop 71 = .ok (.isub, 1) := by decide +kernel
theorem dX4_drop_72 : decode cX4_drop 72 = .ok (.imul, 1) := by decide +kernel
theorem dX4_drop_73 : decode cX4_drop 73 = .ok (.iadd, 1) := by decide +kernel
theorem dX4_drop_74 : decode cX4_drop 74 = .ok (.iload_n 3, 1) := by decide +kernel
theorem dX4_drop_75 : decode cX4_drop 75 = .ok (.iadd, 1) := by decide +kernel
theorem dX4_drop_76 : decode cX4_drop 76 = .ok (.iconst 0, 1) := by decide +kernel
theorem dX4_drop_77 : decode cX4_drop 77 = .ok (.iastore, 1) := by decide +kernel
theorem dX4_drop_78 : decode cX4_drop 78 = .ok (.iinc 3 1, 3) := by decide +kernel
theorem dX4_drop_81 : decode cX4_drop 81 = .ok (.goto (-24), 3) := by decide +kernel
theorem dX4_drop_84 : decode cX4_drop 84 = .ok (.aload_n 0, 1) := by decide +kernel
theorem dX4_drop_85 : decode cX4_drop 85 = .ok (.getfield 7, 3) := by decide +kernel
theorem dX4_drop_88 : decode cX4_drop 88 = .ok (.bipush 7, 2) := by decide +kernel
theorem dX4_drop_90 : decode cX4_drop 90 = .ok (.dup2, 1) := by decide +kernel
theorem dX4_drop_91 : decode cX4_drop 91 = .ok (.iaload, 1) := by decide +kernel
theorem dX4_drop_92 : decode cX4_drop 92 = .ok (.iconst 1, 1) := by decide +kernel
theorem dX4_drop_93 : decode cX4_drop 93 = .ok (.isub, 1) := by decide +kernel
theorem dX4_drop_94 : decode cX4_drop 94 = .ok (.iastore, 1) := by decide +kernel
theorem dX4_drop_95 : decode cX4_drop 95 = .ok (.aload_n 0, 1) := by decide +kernel
theorem dX4_drop_96 : decode cX4_drop 96 = .ok (.invokevirtual 78, 3) := by decide +kernel
theorem dX4_drop_99 : decode cX4_drop 99 = .ok (.invokestatic 93, 3) := by decide +kernel
theorem dX4_drop_102 : decode cX4_drop 102 = .ok (.ireturn, 1) := by decide +kernel
set_option maxRecDepth 20000 in
theorem ggX4_done_X4_isPlanned : GoodIn wsX4_done wsX4_isPlanned := goodIn_r _ [9, 10, 1, 11, 12, 3, 13, 14, 15, 8, 16, 17, 18, 19, 20, 21, 22, 23, 24, 25, 26, 27, 28, 29, 30, 31, 32, 33, 34, 35, 36, 37, 38, 39, 40, 41, 42, 43, 44, 45, 46, 47, 48, 49, 50, 51, 52, 62, 63, 64, 65, 66, 67, 68, 69, 70, 71, 72, 73, 74] (by decide +kernel) (by decide +kernel)
set_option maxRecDepth 20000 in
theorem gX4_done_X4_isPlanned : GoodIn wsX4_done (wsV RX4 86 RX4 yX4_isPlanned wsX4_isPlanned) := goodIn_app (goodIn_of _ (by decide +kernel)) ggX4_done_X4_isPlanned
set_option maxRecDepth 20000 in
theorem ggX4_done_X4_toldPrice : GoodIn wsX4_done wsX4_toldPrice := goodIn_r _ [34, 1, 35, 36, 37, 8, 38, 39, 40, 41, 42, 43, 44, 45, 46, 47, 48, 62, 63, 64, 65, 66, 67, 68, 69, 70, 71, 72, 73, 74] (by decide +kernel) (by decide +kernel)
set_option maxRecDepth 20000 in
theorem gX4_done_X4_toldPrice : GoodIn wsX4_done (wsV RX4 61 RX4 yX4_toldPrice wsX4_toldPrice) := goodIn_app (goodIn_of _ (by decide +kernel)) ggX4_done_X4_toldPrice
set_option maxRecDepth 20000 in
theorem ggX4_done_X4_brings : GoodIn wsX4_done wsX4_brings := goodIn_r _ [52, 1, 62, 63, 64, 65, 66, 67, 68, 69, 70, 71, 72, 73, 74] (by decide +kernel) (by decide +kernel)
set_option maxRecDepth 20000 in
theorem gX4_done_X4_brings : GoodIn wsX4_done (wsV RX4 68 RX4 yX4_brings wsX4_brings) := goodIn_app (goodIn_of _ (by decide +kernel)) ggX4_done_X4_brings
set_option maxRecDepth 20000 in
theorem ggX4_done_X4_note : GoodIn wsX4_done wsX4_note := goodIn_r _ [56, 57, 58, 1, 59, 60, 8, 61, 62, 63, 64, 65, 66, 67, 68, 69, 70, 71, 72, 73, 74] (by decide +kernel) (by decide +kernel)
set_option maxRecDepth 20000 in
theorem gX4_done_X4_note : GoodIn wsX4_done (wsV RX4 127 RX4 yX4_note wsX4_note) := goodIn_app (goodIn_of _ (by decide +kernel)) ggX4_done_X4_note
theorem dX4_done_0 : decode cX4_done 0 = .ok (.aload_n 0, 1) := by decide +kernel
theorem dX4_done_1 : decode cX4_done 1 = .ok (.getfield 7, 3) := by decide +kernel
theorem dX4_done_4 : decode cX4_done 4 = .ok (.iconst 0, 1) := by decide +kernel
theorem dX4_done_5 : decode cX4_done 5 = .ok (.iaload, 1) := by decide +kernel
theorem dX4_done_6 : decode cX4_done 6 = .ok (.istore_n 1, 1) := by decide +kernel
theorem dX4_done_7 : decode cX4_done 7 = .ok (.iload_n 1, 1) := by decide +kernel
theorem dX4_done_8 : decode cX4_done 8 = .ok (.bipush 24, 2) := by decide +kernel
theorem dX4_done_10 : decode cX4_done 10 = .ok (.if_icmp .eq 10, 3) := by decide +kernel
theorem dX4_done_13 : decode cX4_done 13 = .ok (.aload_n 0, 1) := by decide +kernel
theorem dX4_done_14 : decode cX4_done 14 = .ok (.invokevirtual 86, 3) := by decide +kernel
theorem dX4_done_17 : decode cX4_done 17 = .ok (.ifCond .ne 6, 3) := by decide +kernel
theorem dX4_done_20 : decode cX4_done 20 = .ok (.ldc 139, 2) := by decide +kernel
theorem dX4_done_22 : decode cX4_done 22 = .ok (.ireturn, 1) := by decide +kernel
theorem dX4_done_23 : decode cX4_done 23 = .ok (.aload_n 0, 1) := by decide +kernel
theorem dX4_done_24 : decode cX4_done 24 = .ok (.getfield 7, 3) := by decide +kernel
theorem dX4_done_27 : decode cX4_done 27 = .ok (.bipush 92, 2) := by decide +kernel
theorem dX4_done_29 : decode cX4_done 29 = .ok (.iaload, 1) := by decide +kernel
theorem dX4_done_30 : decode cX4_done 30 = .ok (.aload_n 0, 1) := by decide +kernel
theorem dX4_done_31 : decode cX4_done 31 = .ok (.aload_n 0, 1) := by decide +kernel
theorem dX4_done_32 : decode cX4_done 32 = .ok (.iload_n 1, 1) := by decide +kernel
theorem dX4_done_33 : decode cX4_done 33 = .ok (.invokevirtual 61, 3) := by decide +kernel
theorem dX4_done_36 : decode cX4_done 36 = .ok (.aload_n 0, 1) := by decide +kernel
theorem dX4_done_37 : decode cX4_done 37 = .ok (.getfield 7, 3) := by decide +kernel
theorem dX4_done_40 : decode cX4_done 40 = .ok (.iconst 1, 1) := by decide +kernel
theorem dX4_done_41 : decode cX4_done 41 = .ok (.iaload, 1) := by decide +kernel
theorem dX4_done_42 : decode cX4_done 42 = .ok (.aload_n 0, 1) := by decide +kernel
theorem dX4_done_43 : decode cX4_done 43 = .ok (.getfield 32, 3) := by decide +kernel
theorem dX4_done_46 : decode cX4_done 46 = .ok (.iload_n 1, 1) := by decide +kernel
theorem dX4_done_47 : decode cX4_done 47 = .ok (.iaload, 1) := by decide +kernel
theorem dX4_done_48 : decode cX4_done 48 = .ok (.invokevirtual 68, 3) := by decide +kernel
theorem dX4_done_51 : decode cX4_done 51 = .ok (.iadd, 1) := by decide +kernel
theorem dX4_done_52 : decode cX4_done 52 = .ok (.istore_n 2, 1) := by decide +kernel
theorem dX4_done_53 : decode cX4_done 53 = .ok (.aload_n 0, 1) := by decide +kernel
theorem dX4_done_54 : decode cX4_done 54 = .ok (.invokevirtual 127, 3) := by decide +kernel
theorem dX4_done_57 : decode cX4_done 57 = .ok (.aload_n 0, 1) := by decide +kernel
theorem dX4_done_58 : decode cX4_done 58 = .ok (.getfield 7, 3) := by decide +kernel
theorem dX4_done_61 : decode cX4_done 61 = .ok (.iconst 1, 1) := by decide +kernel
theorem dX4_done_62 : decode cX4_done 62 = .ok (.aload_n 0, 1) := by decide +kernel
theorem dX4_done_63 : decode cX4_done 63 = .ok (.getfield 32, 3) := by decide +kernel
theorem dX4_done_66 : decode cX4_done 66 = .ok (.iload_n 1, 1) := by decide +kernel
theorem dX4_done_67 : decode cX4_done 67 = .ok (.iaload, 1) := by decide +kernel
theorem dX4_done_68 : decode cX4_done 68 = .ok (.iastore, 1) := by decide +kernel
theorem dX4_done_69 : decode cX4_done 69 = .ok (.aload_n 0, 1) := by decide +kernel
theorem dX4_done_70 : decode cX4_done 70 = .ok (.getfield 7, 3) := by decide +kernel
theorem dX4_done_73 : decode cX4_done 73 = .ok (.bipush 92, 2) := by decide +kernel
theorem dX4_done_75 : decode cX4_done 75 = .ok (.iload_n 2, 1) := by decide +kernel
theorem dX4_done_76 : decode cX4_done 76 = .ok (.iastore, 1) := by decide +kernel
theorem dX4_done_77 : decode cX4_done 77 = .ok (.aload_n 0, 1) := by decide +kernel
theorem dX4_done_78 : decode cX4_done 78 = .ok (.getfield 7, 3) := by decide +kernel
theorem dX4_done_81 : decode cX4_done 81 = .ok (.iconst 0, 1) := by decide +kernel
theorem dX4_done_82 : decode cX4_done 82 = .ok (.dup2, 1) := by decide +kernel
theorem dX4_done_83 : decode cX4_done 83 = .ok (.iaload, 1) := by decide +kernel
theorem dX4_done_84 : decode cX4_done 84 = .ok (.iconst 1, 1) := by decide +kernel
theorem dX4_done_85 : decode cX4_done 85 = .ok (.iadd, 1) := by decide +kernel
theorem dX4_done_86 : decode cX4_done 86 = .ok (.iastore, 1) := by decide +kernel
theorem dX4_done_87 : decode cX4_done 87 = .ok (.iload_n 2, 1) := by decide +kernel
theorem dX4_done_88 : decode cX4_done 88 = .ok (.ldc 82, 2) := by decide +kernel
theorem dX4_done_90 : decode cX4_done 90 = .ok (.iadd, 1) := by decide +kernel
theorem dX4_done_91 : decode cX4_done 91 = .ok (.ireturn, 1) := by decide +kernel
theorem dX4_drawn_0 : decode cX4_drawn 0 = .ok (.aload_n 0, 1) := by decide +kernel
theorem dX4_drawn_1 : decode cX4_drawn 1 = .ok (.aload_n 0, 1) := by decide +kernel
theorem dX4_drawn_2 : decode cX4_drawn 2 = .ok (.getfield 140, 3) := by decide +kernel
theorem dX4_drawn_5 : decode cX4_drawn 5 = .ok (.i2l, 1) := by decide +kernel
theorem dX4_drawn_6 : decode cX4_drawn 6 = .ok (.ldc2_w 143, 3) := by decide +kernel
theorem dX4_drawn_9 : decode cX4_drawn 9 = .ok (.lmul, 1) := by decide +kernel
theorem dX4_drawn_10 : decode cX4_drawn 10 = .ok (.ldc2_w 145, 3) := by decide +kernel
theorem dX4_drawn_13 : decode cX4_drawn 13 = .ok (.ladd, 1) := by decide +kernel
theorem dX4_drawn_14 : decode cX4_drawn 14 = .ok (.ldc2_w 147, 3) := by decide +kernel
theorem dX4_drawn_17 : decode cX4_drawn 17 = .ok (.lrem, 1) := by decide +kernel
theorem dX4_drawn_18 : decode cX4_drawn 18 = .ok (.l2i, 1) := by decide +kernel
theorem dX4_drawn_19 : decode cX4_drawn 19 = .ok (.putfield 140, 3) := by decide +kernel
theorem dX4_drawn_22 : decode cX4_drawn 22 = .ok (.aload_n 0, 1) := by decide +kernel
theorem dX4_drawn_23 : decode cX4_drawn 23 = .ok (.getfield 140, 3) := by decide +kernel
theorem dX4_drawn_26 : decode cX4_drawn 26 = .ok (.ldc 149, 2) := by decide +kernel
theorem dX4_drawn_28 : decode cX4_drawn 28 = .ok (.idiv, 1) := by decide +kernel
theorem dX4_drawn_29 : decode cX4_drawn 29 = .ok (.iload_n 1, 1) := by decide +kernel
theorem dX4_drawn_30 : decode cX4_drawn 30 = .ok (.irem, 1) := by decide +kernel
theorem dX4_drawn_31 : decode cX4_drawn 31 = .ok (.ireturn, 1) := by decide +kernel
set_option maxRecDepth 20000 in
theorem ggX4_drift_X4_in : GoodIn wsX4_drift wsX4_in := goodIn_r _ [6] (by decide +kernel) (by decide +kernel)
set_option maxRecDepth 20000 in
theorem gX4_drift_X4_in : GoodIn wsX4_drift (va_wsS RX4 42 yX4_in wsX4_in) := goodIn_app (goodIn_of _ (by decide +kernel)) ggX4_drift_X4_in
set_option maxRecDepth 20000 in
theorem ggX4_drift_X4_drawn : GoodIn wsX4_drift wsX4_drawn := goodIn_r _ [10, 11, 12, 13, 14, 15, 29, 30, 31, 32, 33, 34, 35, 36, 37, 38, 39, 40, 41] (by decide +kernel) (by decide +kernel)
set_option maxRecDepth 20000 in
theorem gX4_drift_X4_drawn : GoodIn wsX4_drift (wsV RX4 150 RX4 yX4_drawn wsX4_drawn) := goodIn_app (goodIn_of _ (by decide +kernel)) ggX4_drift_X4_drawn
set_option maxRecDepth 20000 in
theorem ggX4_drift_X4_addLaw : GoodIn wsX4_drift wsX4_addLaw := goodIn_r _ [19, 2, 20, 21, 22, 5, 23, 24, 25, 26, 27, 28, 29, 30, 31, 32, 33, 34, 35, 36, 37, 38, 39, 40, 41] (by decide +kernel) (by decide +kernel)
set_option maxRecDepth 20000 in
theorem gX4_drift_X4_addLaw : GoodIn wsX4_drift (wsV RX4 135 RX4 yX4_addLaw wsX4_addLaw) := goodIn_app (goodIn_of _ (by decide +kernel)) ggX4_drift_X4_addLaw
theorem dX4_drift_0 : decode cX4_drift 0 = .ok (.iload_n 1, 1) := by decide +kernel
theorem dX4_drift_1 : decode cX4_drift 1 = .ok (.iconst 1, 1) := by decide +kernel
theorem dX4_drift_2 : decode cX4_drift 2 = .ok (.bipush 12, 2) := by decide +kernel
theorem dX4_drift_4 : decode cX4_drift 4 = .ok (.invokestatic 42, 3) := by decide +kernel
theorem dX4_drift_7 : decode cX4_drift 7 = .ok (.ifCond .ne 6, 3) := by decide +kernel
theorem dX4_drift_10 : decode cX4_drift 10 = .ok (.ldc 110, 2) := by decide +kernel
theorem dX4_drift_12 : decode cX4_drift 12 = .ok (.ireturn, 1) := by decide +kernel
theorem dX4_drift_13 : decode cX4_drift 13 = .ok (.iconst 0, 1) := by decide +kernel
theorem dX4_drift_14 : decode cX4_drift 14 = .ok (.istore_n 2, 1) := by decide +kernel
theorem dX4_drift_15 : decode cX4_drift 15 = .ok (.iload_n 2, 1) := by decide +kernel
theorem dX4_drift_16 : decode cX4_drift 16 = .ok (.iload_n 1, 1) := by decide +kernel
theorem dX4_drift_17 : decode cX4_drift 17 = .ok (.if_icmp .ge 75, 3) := by decide +kernel
theorem dX4_drift_20 : decode cX4_drift 20 = .ok (.aload_n 0, 1) := by decide +kernel
theorem dX4_drift_21 : decode cX4_drift 21 = .ok (.getfield 7, 3) := by decide +kernel
theorem dX4_drift_24 : decode cX4_drift 24 = .ok (.bipush 7, 2) := by decide +kernel
theorem dX4_drift_26 : decode cX4_drift 26 = .ok (.iaload, 1) := by decide +kernel
theorem dX4_drift_27 : decode cX4_drift 27 = .ok (.bipush 12, 2) := by decide +kernel
theorem dX4_drift_29 : decode cX4_drift 29 = .ok (.if_icmp .ge 63, 3) := by decide +kernel
theorem dX4_drift_32 : decode cX4_drift 32 = .ok (.aload_n 0, 1) := by decide +kernel
theorem dX4_drift_33 : decode cX4_drift 33 = .ok (.bipush 24, 2) := by decide +kernel
theorem dX4_drift_35 : decode cX4_drift 35 = .ok (.invokevirtual 150, 3) := by decide +kernel
theorem dX4_drift_38 : decode cX4_drift 38 = .ok (.istore_n 3, 1) := by decide +kernel
theorem dX4_drift_39 : decode cX4_drift 39 = .ok (.iload_n 3, 1) := by decide +kernel
theorem dX4_drift_40 : decode cX4_drift 40 = .ok (.aload_n 0, 1) := by decide +kernel
theorem dX4_drift_41 : decode cX4_drift 41 = .ok (.bipush 24, 2) := by decide +kernel
theorem dX4_drift_43 : decode cX4_drift 43 = .ok (.iload_n 3, 1) := by decide +kernel
theorem dX4_drift_44 : decode cX4_drift 44 = .ok (.isub, 1) := by decide +kernel
theorem dX4_drift_45 : decode cX4_drift 45 = .ok (.invokevirtual 150, 3) := by decide +kernel
theorem dX4_drift_48 : decode cX4_drift 48 = .ok (.iadd, 1) := by decide +kernel
theorem dX4_drift_49 : decode cX4_drift 49 = .ok (.istore 4, 2) := by decide +kernel
theorem dX4_drift_51 : decode cX4_drift 51 = .ok (.aload_n 0, 1) := by decide +kernel
theorem dX4_drift_52 : decode cX4_drift 52 = .ok (.iconst 5, 1) := by decide +kernel
theorem dX4_drift_53 : decode cX4_drift 53 = .ok (.invokevirtual 150, 3) := by decide +kernel
theorem dX4_drift_56 : decode cX4_drift 56 = .ok (.istore 5, 2) := by decide +kernel
theorem dX4_drift_58 : decode cX4_drift 58 = .ok (.aload_n 0, 1) := by decide +kernel
theorem dX4_drift_59 : decode cX4_drift 59 = .ok (.bipush 100, 2) := by decide +kernel
theorem dX4_drift_61 : decode cX4_drift 61 = .ok (.invokevirtual 150, 3) := by decide +kernel
theorem dX4_drift_64 : decode cX4_drift 64 = .ok (.istore 6, 2) := by decide +kernel
theorem dX4_drift_66 : decode cX4_drift 66 = .ok (.aload_n 0, 1) := by decide +kernel
theorem dX4_drift_67 : decode cX4_drift 67 = .ok (.iload_n 3, 1) := by decide +kernel
theorem dX4_drift_68 : decode cX4_drift 68 = .ok (.iload 4, 2) := by decide +kernel
theorem dX4_drift_70 : decode cX4_drift 70 = .ok (.iload 5, 2) := by decide +kernel
theorem dX4_drift_72 : decode cX4_drift 72 = .ok (.iload 6, 2) := by decide +kernel
theorem dX4_drift_74 : decode cX4_drift 74 = .ok (.aload_n 0, 1) := by decide +kernel
theorem dX4_drift_75 : decode cX4_drift 75 = .ok (.bipush 19, 2) := by decide +kernel
theorem dX4_drift_77 : decode cX4_drift 77 = .ok (.invokevirtual 150, 3) := by decide +kernel
theorem dX4_drift_80 : decode cX4_drift 80 = .ok (.bipush 9, 2) := by decide +kernel
theorem dX4_drift_82 : decode cX4_drift 82 = .ok (.isub, 1) := by decide +kernel
theorem dX4_drift_83 : decode cX4_drift 83 = .ok (.invokevirtual 135, 3) := by decide +kernel
theorem dX4_drift_86 : decode cX4_drift 86 = .ok (.iinc 2 1, 3) := by decide +kernel
theorem dX4_drift_89 : decode cX4_drift 89 = .ok (.goto (-74), 3) := by decide +kernel
theorem dX4_drift_92 : decode cX4_drift 92 = .ok (.aload_n 0, 1) := by decide +kernel
theorem dX4_drift_93 : decode cX4_drift 93 = .ok (.getfield 7, 3) := by decide +kernel
theorem dX4_drift_96 : decode cX4_drift 96 = .ok (.bipush 7, 2) := by decide +kernel
theorem dX4_drift_98 : decode cX4_drift 98 = .ok (.iaload, 1) := by decide +kernel
theorem dX4_drift_99 : decode cX4_drift 99 = .ok (.ireturn, 1) := by decide +kernel
set_option maxRecDepth 20000 in
theorem ggX4_undo_X4_in : GoodIn wsX4_undo wsX4_in := goodIn_r _ [9] (by decide +kernel) (by decide +kernel)
set_option maxRecDepth 20000 in
theorem gX4_undo_X4_in : GoodIn wsX4_undo (va_wsS RX4 42 yX4_in wsX4_in) := goodIn_app (goodIn_of _ (by decide +kernel)) ggX4_undo_X4_in
set_option maxRecDepth 20000 in
theorem ggX4_undo_X4_bring : GoodIn wsX4_undo wsX4_bring := goodIn_r _ [12] (by decide +kernel) (by decide +kernel)
set_option maxRecDepth 20000 in
theorem gX4_undo_X4_bring : GoodIn wsX4_undo (va_wsS RX4 123 yX4_bring wsX4_bring) := goodIn_app (goodIn_of _ (by decide +kernel)) ggX4_undo_X4_bring
theorem dX4_undo_0 : decode cX4_undo 0 = .ok (.iload_n 1, 1) := by decide +kernel
theorem dX4_undo_1 : decode cX4_undo 1 = .ok (.iconst 1, 1) := by decide +kernel
theorem dX4_undo_2 : decode cX4_undo 2 = .ok (.bipush 40, 2) := by decide +kernel
theorem dX4_undo_4 : decode cX4_undo 4 = .ok (.invokestatic 42, 3) := by decide +kernel
theorem dX4_undo_7 : decode cX4_undo 7 = .ok (.ifCond .ne 6, 3) := by decide +kernel
theorem dX4_undo_10 : decode cX4_undo 10 = .ok (.ldc 110, 2) := by decide +kernel
theorem dX4_undo_12 : decode cX4_undo 12 = .ok (.ireturn, 1) := by decide +kernel
theorem dX4_undo_13 : decode cX4_undo 13 = .ok (.iload_n 1, 1) := by decide +kernel
theorem dX4_undo_14 : decode cX4_undo 14 = .ok (.aload_n 0, 1) := by decide +kernel
theorem dX4_undo_15 : decode cX4_undo 15 = .ok (.getfield 99, 3) := by decide +kernel
theorem dX4_undo_18 : decode cX4_undo 18 = .ok (.if_icmp .le 6, 3) := by decide +kernel
theorem dX4_undo_21 : decode cX4_undo 21 = .ok (.ldc 139, 2) := by decide +kernel
theorem dX4_undo_23 : decode cX4_undo 23 = .ok (.ireturn, 1) := by decide +kernel
theorem dX4_undo_24 : decode cX4_undo 24 = .ok (.aload_n 0, 1) := by decide +kernel
theorem dX4_undo_25 : decode cX4_undo 25 = .ok (.dup, 1) := by decide +kernel
theorem dX4_undo_26 : decode cX4_undo 26 = .ok (.getfield 99, 3) := by decide +kernel
theorem dX4_undo_29 : decode cX4_undo 29 = .ok (.iload_n 1, 1) := by decide +kernel
theorem dX4_undo_30 : decode cX4_undo 30 = .ok (.isub, 1) := by decide +kernel
theorem dX4_undo_31 : decode cX4_undo 31 = .ok (.putfield 99, 3) := by decide +kernel
theorem dX4_undo_34 : decode cX4_undo 34 = .ok (.aload_n 0, 1) := by decide +kernel
theorem dX4_undo_35 : decode cX4_undo 35 = .ok (.getfield 16, 3) := by decide +kernel
theorem dX4_undo_38 : decode cX4_undo 38 = .ok (.bipush 93, 2) := by decide +kernel
theorem dX4_undo_40 : decode cX4_undo 40 = .ok (.aload_n 0, 1) := by decide +kernel
theorem dX4_undo_41 : decode cX4_undo 41 = .ok (.getfield 99, 3) := by decide +kernel
theorem dX4_undo_44 : decode cX4_undo 44 = .ok (.imul, 1) := by decide +kernel
theorem dX4_undo_45 : decode cX4_undo 45 = .ok (.aload_n 0, 1) := by decide +kernel
theorem dX4_undo_46 : decode cX4_undo 46 = .ok (.getfield 7, 3) := by decide +kernel
theorem dX4_undo_49 : decode cX4_undo 49 = .ok (.iconst 0, 1) := by decide +kernel
theorem dX4_undo_50 : decode cX4_undo 50 = .ok (.bipush 93, 2) := by decide +kernel
theorem dX4_undo_52 : decode cX4_undo 52 = .ok (.invokestatic 123, 3) := by decide +kernel
theorem dX4_undo_55 : decode cX4_undo 55 = .ok (.aload_n 0, 1) := by decide +kernel
theorem dX4_undo_56 : decode cX4_undo 56 = .ok (.getfield 99, 3) := by decide +kernel
theorem dX4_undo_59 : decode cX4_undo 59 = .ok (.ireturn, 1) := by decide +kernel
set_option maxRecDepth 20000 in
theorem ggX4_gain_X4_in : GoodIn wsX4_gain wsX4_in := goodIn_r _ [8] (by decide +kernel) (by decide +kernel)
set_option maxRecDepth 20000 in
theorem gX4_gain_X4_in : GoodIn wsX4_gain (va_wsS RX4 42 yX4_in wsX4_in) := goodIn_app (goodIn_of _ (by decide +kernel)) ggX4_gain_X4_in
set_option maxRecDepth 20000 in
theorem ggX4_gain_X4_bestOf : GoodIn wsX4_gain wsX4_bestOf := goodIn_r _ [12, 13, 2, 14, 15, 16, 7, 17, 18, 19, 20, 21, 22, 4, 23, 24, 25, 26, 27, 28, 29, 30, 31, 32, 33, 34, 35, 36, 5, 6, 8, 37, 38, 39, 40, 41, 42, 43, 44, 45, 46, 47, 51, 52, 53, 54, 55, 56, 57, 58, 59, 60, 61, 62, 63] (by decide +kernel) (by decide +kernel)
set_option maxRecDepth 20000 in
theorem gX4_gain_X4_bestOf : GoodIn wsX4_gain (wsV RX4 78 RX4 yX4_bestOf wsX4_bestOf) := goodIn_app (goodIn_of _ (by decide +kernel)) ggX4_gain_X4_bestOf
set_option maxRecDepth 20000 in
theorem ggX4_gain_X4_bring : GoodIn wsX4_gain wsX4_bring := goodIn_r _ [50] (by decide +kernel) (by decide +kernel)
set_option maxRecDepth 20000 in
theorem gX4_gain_X4_bring : GoodIn wsX4_gain (va_wsS RX4 123 yX4_bring wsX4_bring) := goodIn_app (goodIn_of _ (by decide +kernel)) ggX4_gain_X4_bring
theorem dX4_gain_0 : decode cX4_gain 0 = .ok (.iload_n 1, 1) := by decide +kernel
theorem dX4_gain_1 : decode cX4_gain 1 = .ok (.iconst 0, 1) := by decide +kernel
theorem dX4_gain_2 : decode cX4_gain 2 = .ok (.iconst 3, 1) := by decide +kernel
theorem dX4_gain_3 : decode cX4_gain 3 = .ok (.invokestatic 42, 3) := by decide +kernel
theorem dX4_gain_6 : decode cX4_gain 6 = .ok (.ifCond .ne 6, 3) := by decide +kernel
theorem dX4_gain_9 : decode cX4_gain 9 = .ok (.ldc 110, 2) := by decide +kernel
theorem dX4_gain_11 : decode cX4_gain 11 = .ok (.ireturn, 1) := by decide +kernel
theorem dX4_gain_12 : decode cX4_gain 12 = .ok (.aload_n 0, 1) := by decide +kernel
theorem dX4_gain_13 : decode cX4_gain 13 = .ok (.invokevirtual 78, 3) := by decide +kernel
theorem dX4_gain_16 : decode cX4_gain 16 = .ok (.istore_n 2, 1) := by decide +kernel
theorem dX4_gain_17 : decode cX4_gain 17 = .ok (.aload_n 0, 1) := by decide +kernel
theorem dX4_gain_18 : decode cX4_gain 18 = .ok (.getfield 7, 3) := by decide +kernel
theorem dX4_gain_21 : decode cX4_gain 21 = .ok (.iconst 0, 1) := by decide +kernel
theorem dX4_gain_22 : decode cX4_gain 22 = .ok (.aload_n 0, 1) := by decide +kernel
theorem dX4_gain_23 : decode cX4_gain 23 = .ok (.getfield 13, 3) := by decide +kernel
theorem dX4_gain_26 : decode cX4_gain 26 = .ok (.iconst 0, 1) := by decide +kernel
theorem dX4_gain_27 : decode cX4_gain 27 = .ok (.bipush 93, 2) := by decide +kernel
theorem dX4_gain_29 : decode cX4_gain 29 = .ok (.invokestatic 123, 3) := by decide +kernel
theorem dX4_gain_32 : decode cX4_gain 32 = .ok (.iconst 0, 1) := by decide +kernel
theorem dX4_gain_33 : decode cX4_gain 33 = .ok (.istore_n 3, 1) := by decide +kernel
theorem dX4_gain_34 : decode cX4_gain 34 = .ok (.iload_n 3, 1) := by decide +kernel
theorem dX4_gain_35 : decode cX4_gain 35 = .ok (.bipush 24, 2) := by decide +kernel
theorem dX4_gain_37 : decode cX4_gain 37 = .ok (.if_icmp .ge 44, 3) := by decide +kernel
theorem dX4_gain_40 : decode cX4_gain 40 = .ok (.iload_n 1, 1) := by decide +kernel
theorem dX4_gain_41 : decode cX4_gain 41 = .ok (.ifCond .ne 40, 3) := by decide +kernel
theorem dX4_gain_44 : decode cX4_gain 44 = .ok (.aload_n 0, 1) := by decide +kernel
theorem dX4_gain_45 : decode cX4_gain 45 = .ok (.getfield 7, 3) := by decide +kernel
theorem dX4_gain_48 : decode cX4_gain 48 = .ok (.bipush 68, 2) := by decide +kernel
theorem dX4_gain_50 : decode cX4_gain 50 = .ok (.iload_n 3, 1) := by decide +kernel
theorem dX4_gain_51 : decode cX4_gain 51 = .ok (.iadd, 1) := by decide +kernel
theorem dX4_gain_52 : decode cX4_gain 52 = .ok (.dup2, 1) := by decide +kernel
theorem dX4_gain_53 : decode cX4_gain 53 = .ok (.iaload, 1) := by decide +kernel
theorem dX4_gain_54 : decode cX4_gain 54 = .ok (.aload_n 0, 1) := by decide +kernel
theorem dX4_gain_55 : decode cX4_gain 55 = .ok (.getfield 7, 3) := by decide +kernel
theorem dX4_gain_58 : decode cX4_gain 58 = .ok (.bipush 68, 2) := by decide +kernel
theorem dX4_gain_60 : decode cX4_gain 60 = .ok (.iload_n 3, 1) := by decide +kernel
theorem dX4_gain_61 : decode cX4_gain 61 = .ok (.iadd, 1) := by decide +kernel
theorem dX4_gain_62 : decode cX4_gain 62 = .ok (.iaload, 1) := by decide +kernel
theorem dX4_gain_63 : decode cX4_gain 63 = .ok (.bipush 60, 2) := by decide +kernel
theorem dX4_gain_65 : decode cX4_gain 65 = .ok (.if_icmp .ge 7, 3) := by decide +kernel
theorem dX4_gain_68 : decode cX4_gain 68 = .ok (.iconst 1, 1) := by decide +kernel
theorem dX4_gain_69 : decode cX4_gain 69 = .ok (.goto 4, 3) := by decide +kernel
theorem dX4_gain_72 : decode cX4_gain 72 = .ok (.iconst 0, 1) := by decide +kernel
theorem dX4_gain_73 : decode cX4_gain 73 = .ok (.iadd, 1) := by decide +kernel
theorem dX4_gain_74 : decode cX4_gain 74 = .ok (.iastore, 1) := by decide +kernel
theorem dX4_gain_75 : decode cX4_gain 75 = .ok (.iinc 3 1, 3) := by decide +kernel
theorem dX4_gain_78 : decode cX4_gain 78 = .ok (.goto (-44), 3) := by decide +kernel
theorem dX4_gain_81 : decode cX4_gain 81 = .ok (.aload_n 0, 1) := by decide +kernel
theorem dX4_gain_82 : decode cX4_gain 82 = .ok (.getfield 7, 3) := by decide +kernel
theorem dX4_gain_85 : decode cX4_gain 85 = .ok (.iconst 2, 1) := by decide +kernel
theorem dX4_gain_86 : decode cX4_gain 86 = .ok (.dup2, 1) := by decide +kernel
theorem dX4_gain_87 : decode cX4_gain 87 = .ok (.iaload, 1) := by decide +kernel
theorem dX4_gain_88 : decode cX4_gain 88 = .ok (.iload_n 1, 1) := by decide +kernel
theorem dX4_gain_89 : decode cX4_gain 89 = .ok (.iconst 1, 1) := by decide +kernel
theorem dX4_gain_90 : decode cX4_gain 90 = .ok (.if_icmp .ne 18, 3) := by decide +kernel
theorem dX4_gain_93 : decode cX4_gain 93 = .ok (.aload_n 0, 1) := by decide +kernel
theorem dX4_gain_94 : decode cX4_gain 94 = .ok (.getfield 7, 3) := by decide +kernel
theorem dX4_gain_97 : decode cX4_gain 97 = .ok (.iconst 2, 1) := by decide +kernel
theorem dX4_gain_98 : decode cX4_gain 98 = .ok (.iaload, 1) := by decide +kernel
theorem dX4_gain_99 : decode cX4_gain 99 = .ok (.bipush 9, 2) := by decide +kernel
theorem dX4_gain_101 : decode cX4_gain 101 = .ok (.if_icmp .ge 7, 3) := by decide +kernel
theorem dX4_gain_104 : decode cX4_gain 104 = .ok (.iconst 1, 1) := by decide +kernel
theorem dX4_gain_105 : decode cX4_gain 105 = .ok (.goto 4, 3) := by decide +kernel
theorem dX4_gain_108 : decode cX4_gain 108 = .ok (.iconst 0, 1) := by decide +kernel
theorem dX4_gain_109 : decode cX4_gain 109 = .ok (.iadd, 1) := by decide +kernel
theorem dX4_gain_110 : decode cX4_gain 110 = .ok (.iastore, 1) := by decide +kernel
theorem dX4_gain_111 : decode cX4_gain 111 = .ok (.aload_n 0, 1) := by decide +kernel
theorem dX4_gain_112 : decode cX4_gain 112 = .ok (.getfield 7, 3) := by decide +kernel
theorem dX4_gain_115 : decode cX4_gain 115 = .ok (.iconst 3, 1) := by decide +kernel
theorem dX4_gain_116 : decode cX4_gain 116 = .ok (.dup2, 1) := by decide +kernel
theorem dX4_gain_117 : decode cX4_gain 117 = .ok (.iaload, 1) := by decide +kernel
theorem dX4_gain_118 : decode cX4_gain 118 = .ok (.iload_n 1, 1) := by decide +kernel
theorem dX4_gain_119 : decode cX4_gain 119 = .ok (.iconst 2, 1) := by decide +kernel
theorem dX4_gain_120 : decode cX4_gain 120 = .ok (.if_icmp .ne 18, 3) := by decide +kernel
theorem dX4_gain_123 : decode cX4_gain 123 = .ok (.aload_n 0, 1) := by decide +kernel
theorem dX4_gain_124 : decode cX4_gain 124 = .ok (.getfield 7, 3) := by decide +kernel
theorem dX4_gain_127 : decode cX4_gain 127 = .ok (.iconst 3, 1) := by decide +kernel
theorem dX4_gain_128 : decode cX4_gain 128 = .ok (.iaload, 1) := by decide +kernel
theorem dX4_gain_129 : decode cX4_gain 129 = .ok (.bipush 9, 2) := by decide +kernel
theorem dX4_gain_131 : decode cX4_gain 131 = .ok (.if_icmp .ge 7, 3) := by decide +kernel
theorem dX4_gain_134 : decode cX4_gain 134 = .ok (.iconst 1, 1) := by decide +kernel
theorem dX4_gain_135 : decode cX4_gain 135 = .ok (.goto 4, 3) := by decide +kernel
theorem dX4_gain_138 : decode cX4_gain 138 = .ok (.iconst 0, 1) := by decide +kernel
theorem dX4_gain_139 : decode cX4_gain 139 = .ok (.iadd, 1) := by decide +kernel
theorem dX4_gain_140 : decode cX4_gain 140 = .ok (.iastore, 1) := by decide +kernel
theorem dX4_gain_141 : decode cX4_gain 141 = .ok (.aload_n 0, 1) := by decide +kernel
theorem dX4_gain_142 : decode cX4_gain 142 = .ok (.getfield 7, 3) := by decide +kernel
theorem dX4_gain_145 : decode cX4_gain 145 = .ok (.iconst 4, 1) := by decide +kernel
theorem dX4_gain_146 : decode cX4_gain 146 = .ok (.dup2, 1) := by decide +kernel
theorem dX4_gain_147 : decode cX4_gain 147 = .ok (.iaload, 1) := by decide +kernel
theorem dX4_gain_148 : decode cX4_gain 148 = .ok (.iload_n 1, 1) := by decide +kernel
theorem dX4_gain_149 : decode cX4_gain 149 = .ok (.iconst 3, 1) := by decide +kernel
theorem dX4_gain_150 : decode cX4_gain 150 = .ok (.if_icmp .ne 16, 3) := by decide +kernel
theorem dX4_gain_153 : decode cX4_gain 153 = .ok (.aload_n 0, 1) := by decide +kernel
theorem dX4_gain_154 : decode cX4_gain 154 = .ok (.getfield 7, 3) := by decide +kernel
theorem dX4_gain_157 : decode cX4_gain 157 = .ok (.iconst 4, 1) := by decide +kernel
theorem dX4_gain_158 : decode cX4_gain 158 = .ok (.iaload, 1) := by decide +kernel
theorem dX4_gain_159 : decode cX4_gain 159 = .ok (.ifCond .le 7, 3) := by decide +kernel
theorem dX4_gain_162 : decode cX4_gain 162 = .ok (.iconst 1, 1) := by decide +kernel
theorem dX4_gain_163 : decode cX4_gain 163 = .ok (.goto 4, 3) := by decide +kernel
theorem dX4_gain_166 : decode cX4_gain 166 = .ok (.iconst 0, 1) := by decide +kernel
theorem dX4_gain_167 : decode cX4_gain 167 = .ok (.isub, 1) := by decide +kernel
theorem dX4_gain_168 : decode cX4_gain 168 = .ok (.iastore, 1) := by decide +kernel
theorem dX4_gain_169 : decode cX4_gain 169 = .ok (.aload_n 0, 1) := by decide +kernel
theorem dX4_gain_170 : decode cX4_gain 170 = .ok (.invokevirtual 78, 3) := by decide +kernel
theorem dX4_gain_173 : decode cX4_gain 173 = .ok (.istore_n 3, 1) := by decide +kernel
theorem dX4_gain_174 : decode cX4_gain 174 = .ok (.aload_n 0, 1) := by decide +kernel
theorem dX4_gain_175 : decode cX4_gain 175 = .ok (.getfield 13, 3) := by decide +kernel
theorem dX4_gain_178 : decode cX4_gain 178 = .ok (.iconst 0, 1) := by decide +kernel
theorem dX4_gain_179 : decode cX4_gain 179 = .ok (.aload_n 0, 1) := by decide +kernel
theorem dX4_gain_180 : decode cX4_gain 180 = .ok (.getfield 7, 3) := by decide +kernel
theorem dX4_gain_183 : decode cX4_gain 183 = .ok (.iconst 0, 1) := by decide +kernel
theorem dX4_gain_184 : decode cX4_gain 184 = .ok (.bipush 93, 2) := by decide +kernel
theorem dX4_gain_186 : decode cX4_gain 186 = .ok (.invokestatic 123, 3) := by decide +kernel
theorem dX4_gain_189 : decode cX4_gain 189 = .ok (.iload_n 2, 1) := by decide +kernel
theorem dX4_gain_190 : decode cX4_gain 190 = .ok (.ldc 67, 2) := by decide +kernel
theorem dX4_gain_192 : decode cX4_gain 192 = .ok (.if_icmp .eq 9, 3) := by decide +kernel
theorem dX4_gain_195 : decode cX4_gain 195 = .ok (.iload_n 3, 1) := by decide +kernel
theorem dX4_gain_196 : decode cX4_gain 196 = .ok (.ldc 67, 2) := by decide +kernel
theorem dX4_gain_198 : decode cX4_gain 198 = .ok (.if_icmp .ne 7, 3) := by decide +kernel
theorem dX4_gain_201 : decode cX4_gain 201 = .ok (.iconst (-1), 1) := by decide +kernel
theorem dX4_gain_202 : decode cX4_gain 202 = .ok (.goto 6, 3) := by decide +kernel
theorem dX4_gain_205 : decode cX4_gain 205 = .ok (.iload_n 3, 1) := by decide +kernel
theorem dX4_gain_206 : decode cX4_gain 206 = .ok (.iload_n 2, 1) := by decide +kernel
theorem dX4_gain_207 : decode cX4_gain 207 = .ok (.isub, 1) := by decide +kernel
theorem dX4_gain_208 : decode cX4_gain 208 = .ok (.ireturn, 1) := by decide +kernel
set_option maxRecDepth 20000 in
theorem ggX4_without_X4_isHour : GoodIn wsX4_without wsX4_isHour := goodIn_r _ [6, 7, 8, 5, 9] (by decide +kernel) (by decide +kernel)
set_option maxRecDepth 20000 in
theorem gX4_without_X4_isHour : GoodIn wsX4_without (va_wsS RX4 105 yX4_isHour wsX4_isHour) := goodIn_app (goodIn_of _ (by decide +kernel)) ggX4_without_X4_isHour
set_option maxRecDepth 20000 in
theorem ggX4_without_X4_bestOf : GoodIn wsX4_without wsX4_bestOf := goodIn_r _ [13, 14, 15, 16, 17, 18, 5, 19, 20, 21, 22, 23, 2, 24, 25, 26, 27, 28, 29, 30, 31, 32, 33, 34, 35, 36, 37, 38, 7, 8, 9, 39, 40, 41, 42, 43, 44, 45, 46, 47, 48, 49, 54, 55, 56, 57, 58, 59, 60, 61, 62, 63, 64, 65, 66] (by decide +kernel) (by decide +kernel)
set_option maxRecDepth 20000 in
theorem gX4_without_X4_bestOf : GoodIn wsX4_without (wsV RX4 78 RX4 yX4_bestOf wsX4_bestOf) := goodIn_app (goodIn_of _ (by decide +kernel)) ggX4_without_X4_bestOf
set_option maxRecDepth 20000 in
theorem ggX4_without_X4_shown : GoodIn wsX4_without wsX4_shown := goodIn_r _ [52, 24, 53] (by decide +kernel) (by decide +kernel)
set_option maxRecDepth 20000 in
theorem gX4_without_X4_shown : GoodIn wsX4_without (va_wsS RX4 93 yX4_shown wsX4_shown) := goodIn_app (goodIn_of _ (by decide +kernel)) ggX4_without_X4_shown
theorem dX4_without_0 : decode cX4_without 0 = .ok (.iload_n 1, 1) := by decide +kernel
theorem dX4_without_1 : decode cX4_without 1 = .ok (.invokestatic 105, 3) := by decide +kernel
theorem dX4_without_4 : decode cX4_without 4 = .ok (.ifCond .ne 6, 3) := by decide +kernel
theorem dX4_without_7 : decode cX4_without 7 = .ok (.ldc 109, 2) := by decide +kernel
theorem dX4_without_9 : decode cX4_without 9 = .ok (.ireturn, 1) := by decide +kernel
theorem dX4_without_10 : decode cX4_without 10 = .ok (.aload_n 0, 1) := by decide +kernel
theorem dX4_without_11 : decode cX4_without 11 = .ok (.iload_n 1, 1) := by decide +kernel
theorem dX4_without_12 : decode cX4_without 12 = .ok (.putfield 35, 3) := by decide +kernel
theorem dX4_without_15 : decode cX4_without 15 = .ok (.aload_n 0, 1) := by decide +kernel
theorem dX4_without_16 : decode cX4_without 16 = .ok (.invokevirtual 78, 3) := by decide +kernel
theorem dX4_without_19 : decode cX4_without 19 = .ok (.istore_n 2, 1) := by decide +kernel
theorem dX4_without_20 : decode cX4_without 20 = .ok (.aload_n 0, 1) := by decide +kernel
theorem dX4_without_21 : decode cX4_without 21 = .ok (.iconst (-1), 1) := by decide +kernel
theorem dX4_without_22 : decode cX4_without 22 = .ok (.putfield 35, 3) := by decide +kernel
theorem dX4_without_25 : decode cX4_without 25 = .ok (.iload_n 2, 1) := by decide +kernel
theorem dX4_without_26 : decode cX4_without 26 = .ok (.invokestatic 93, 3) := by decide +kernel
theorem dX4_without_29 : decode cX4_without 29 = .ok (.ireturn, 1) := by decide +kernel
set_option maxRecDepth 20000 in
theorem ggX4_with_X4_isHour : GoodIn wsX4_with wsX4_isHour := goodIn_r _ [8, 9, 10, 7, 11] (by decide +kernel) (by decide +kernel)
set_option maxRecDepth 20000 in
theorem gX4_with_X4_isHour : GoodIn wsX4_with (va_wsS RX4 105 yX4_isHour wsX4_isHour) := goodIn_app (goodIn_of _ (by decide +kernel)) ggX4_with_X4_isHour
set_option maxRecDepth 20000 in
theorem ggX4_with_X4_in : GoodIn wsX4_with wsX4_in := goodIn_r _ [11] (by decide +kernel) (by decide +kernel)
set_option maxRecDepth 20000 in
theorem gX4_with_X4_in : GoodIn wsX4_with (va_wsS RX4 42 yX4_in wsX4_in) := goodIn_app (goodIn_of _ (by decide +kernel)) ggX4_with_X4_in
set_option maxRecDepth 20000 in
theorem ggX4_with_X4_bestOf : GoodIn wsX4_with wsX4_bestOf := goodIn_r _ [15, 16, 17, 18, 19, 20, 7, 21, 22, 23, 24, 25, 26, 27, 28, 29, 30, 31, 3, 4, 32, 33, 34, 35, 36, 37, 38, 39, 9, 10, 11, 40, 41, 42, 43, 44, 45, 46, 47, 48, 49, 50, 55, 56, 57, 58, 59, 60, 61, 62, 63, 64, 65, 66, 67] (by decide +kernel) (by decide +kernel)
set_option maxRecDepth 20000 in
theorem gX4_with_X4_bestOf : GoodIn wsX4_with (wsV RX4 78 RX4 yX4_bestOf wsX4_bestOf) := goodIn_app (goodIn_of _ (by decide +kernel)) ggX4_with_X4_bestOf
set_option maxRecDepth 20000 in
theorem ggX4_with_X4_shown : GoodIn wsX4_with wsX4_shown := goodIn_r _ [53, 27, 54] (by decide +kernel) (by decide +kernel)
set_option maxRecDepth 20000 in
theorem gX4_with_X4_shown : GoodIn wsX4_with (va_wsS RX4 93 yX4_shown wsX4_shown) := goodIn_app (goodIn_of _ (by decide +kernel)) ggX4_with_X4_shown
theorem dX4_with_0 : decode cX4_with 0 = .ok (.iload_n 1, 1) := by decide +kernel
theorem dX4_with_1 : decode cX4_with 1 = .ok (.invokestatic 105, 3) := by decide +kernel
theorem dX4_with_4 : decode cX4_with 4 = .ok (.ifCond .ne 6, 3) := by decide +kernel
theorem dX4_with_7 : decode cX4_with 7 = .ok (.ldc 109, 2) := by decide +kernel
theorem dX4_with_9 : decode cX4_with 9 = .ok (.ireturn, 1) := by decide +kernel
theorem dX4_with_10 : decode cX4_with 10 = .ok (.iload_n 2, 1) := by decide +kernel
theorem dX4_with_11 : decode cX4_with 11 = .ok (.sipush (-999), 3) := by decide +kernel
theorem dX4_with_14 : decode cX4_with 14 = .ok (.sipush 999, 3) := by decide +kernel
theorem dX4_with_17 : decode cX4_with 17 = .ok (.invokestatic 42, 3) := by decide +kernel
theorem dX4_with_20 : decode cX4_with 20 = .ok (.ifCond .ne 6, 3) := by decide +kernel
theorem dX4_with_23 : decode cX4_with 23 = .ok (.ldc 110, 2) := by decide +kernel
theorem dX4_with_25 : decode cX4_with 25 = .ok (.ireturn, 1) := by decide +kernel
theorem dX4_with_26 : decode cX4_with 26 = .ok (.aload_n 0, 1) := by decide +kernel
theorem dX4_with_27 : decode cX4_with 27 = .ok (.iload_n 1, 1) := by decide +kernel
theorem dX4_with_28 : decode cX4_with 28 = .ok (.putfield 39, 3) := by decide +kernel
theorem dX4_with_31 : decode cX4_with 31 = .ok (.aload_n 0, 1) := by decide +kernel
theorem dX4_with_32 : decode cX4_with 32 = .ok (.iload_n 2, 1) := by decide +kernel
theorem dX4_with_33 : decode cX4_with 33 = .ok (.putfield 58, 3) := by decide +kernel
theorem dX4_with_36 : decode cX4_with 36 = .ok (.aload_n 0, 1) := by decide +kernel
theorem dX4_with_37 : decode cX4_with 37 = .ok (.invokevirtual 78, 3) := by decide +kernel
theorem dX4_with_40 : decode cX4_with 40 = .ok (.istore_n 3, 1) := by decide +kernel
theorem dX4_with_41 : decode cX4_with 41 = .ok (.aload_n 0, 1) := by decide +kernel
theorem dX4_with_42 : decode cX4_with 42 = .ok (.iconst (-1), 1) := by decide +kernel
theorem dX4_with_43 : decode cX4_with 43 = .ok (.putfield 39, 3) := by decide +kernel
theorem dX4_with_46 : decode cX4_with 46 = .ok (.iload_n 3, 1) := by decide +kernel
theorem dX4_with_47 : decode cX4_with 47 = .ok (.invokestatic 93, 3) := by decide +kernel
theorem dX4_with_50 : decode cX4_with 50 = .ok (.ireturn, 1) := by decide +kernel
theorem dX4_seed_0 : decode cX4_seed 0 = .ok (.iload_n 1, 1) := by decide +kernel
theorem dX4_seed_1 : decode cX4_seed 1 = .ok (.ifCond .ge 6, 3) := by decide +kernel
theorem dX4_seed_4 : decode cX4_seed 4 = .ok (.ldc 110, 2) := by decide +kernel
theorem dX4_seed_6 : decode cX4_seed 6 = .ok (.ireturn, 1) := by decide +kernel
theorem dX4_seed_7 : decode cX4_seed 7 = .ok (.aload_n 0, 1) := by decide +kernel
theorem dX4_seed_8 : decode cX4_seed 8 = .ok (.getfield 140, 3) := by decide +kernel
theorem dX4_seed_11 : decode cX4_seed 11 = .ok (.istore_n 2, 1) := by decide +kernel
theorem dX4_seed_12 : decode cX4_seed 12 = .ok (.aload_n 0, 1) := by decide +kernel
theorem dX4_seed_13 : decode cX4_seed 13 = .ok (.iload_n 1, 1) := by decide +kernel
theorem dX4_seed_14 : decode cX4_seed 14 = .ok (.putfield 140, 3) := by decide +kernel
theorem dX4_seed_17 : decode cX4_seed 17 = .ok (.iload_n 2, 1) := by decide +kernel
theorem dX4_seed_18 : decode cX4_seed 18 = .ok (.ireturn, 1) := by decide +kernel
set_option maxRecDepth 20000 in
theorem ggX4_keep_X4_in : GoodIn wsX4_keep wsX4_in := goodIn_r _ [11] (by decide +kernel) (by decide +kernel)
set_option maxRecDepth 20000 in
theorem gX4_keep_X4_in : GoodIn wsX4_keep (va_wsS RX4 42 yX4_in wsX4_in) := goodIn_app (goodIn_of _ (by decide +kernel)) ggX4_keep_X4_in
set_option maxRecDepth 20000 in
theorem ggX4_keep_X4_bring : GoodIn wsX4_keep wsX4_bring := goodIn_r _ [14] (by decide +kernel) (by decide +kernel)
set_option maxRecDepth 20000 in
theorem gX4_keep_X4_bring : GoodIn wsX4_keep (va_wsS RX4 123 yX4_bring wsX4_bring) := goodIn_app (goodIn_of _ (by decide +kernel)) ggX4_keep_X4_bring
theorem dX4_keep_0 : decode cX4_keep 0 = .ok (.iload_n 1, 1) := by decide +kernel
theorem dX4_keep_1 : decode cX4_keep 1 = .ok (.iconst 0, 1) := by decide +kernel
theorem dX4_keep_2 : decode cX4_keep 2 = .ok (.iconst 1, 1) := by decide +kernel
theorem dX4_keep_3 : decode cX4_keep 3 = .ok (.invokestatic 42, 3) := by decide +kernel
theorem dX4_keep_6 : decode cX4_keep 6 = .ok (.ifCond .ne 6, 3) := by decide +kernel
theorem dX4_keep_9 : decode cX4_keep 9 = .ok (.ldc 109, 2) := by decide +kernel
theorem dX4_keep_11 : decode cX4_keep 11 = .ok (.ireturn, 1) := by decide +kernel
theorem dX4_keep_12 : decode cX4_keep 12 = .ok (.aload_n 0, 1) := by decide +kernel
theorem dX4_keep_13 : decode cX4_keep 13 = .ok (.getfield 7, 3) := by decide +kernel
theorem dX4_keep_16 : decode cX4_keep 16 = .ok (.iconst 0, 1) := by decide +kernel
theorem dX4_keep_17 : decode cX4_keep 17 = .ok (.aload_n 0, 1) := by decide +kernel
theorem dX4_keep_18 : decode cX4_keep 18 = .ok (.getfield 19, 3) := by decide +kernel
theorem dX4_keep_21 : decode cX4_keep 21 = .ok (.bipush 93, 2) := by decide +kernel
theorem dX4_keep_23 : decode cX4_keep 23 = .ok (.iload_n 1, 1) := by decide +kernel
theorem dX4_keep_24 : decode cX4_keep 24 = .ok (.imul, 1) := by decide +kernel
theorem dX4_keep_25 : decode cX4_keep 25 = .ok (.bipush 93, 2) := by decide +kernel
theorem dX4_keep_27 : decode cX4_keep 27 = .ok (.invokestatic 123, 3) := by decide +kernel
theorem dX4_keep_30 : decode cX4_keep 30 = .ok (.aload_n 0, 1) := by decide +kernel
theorem dX4_keep_31 : decode cX4_keep 31 = .ok (.getfield 22, 3) := by decide +kernel
theorem dX4_keep_34 : decode cX4_keep 34 = .ok (.iload_n 1, 1) := by decide +kernel
theorem dX4_keep_35 : decode cX4_keep 35 = .ok (.aload_n 0, 1) := by decide +kernel
theorem dX4_keep_36 : decode cX4_keep 36 = .ok (.getfield 140, 3) := by decide +kernel
theorem dX4_keep_39 : decode cX4_keep 39 = .ok (.iastore, 1) := by decide +kernel
theorem dX4_keep_40 : decode cX4_keep 40 = .ok (.aload_n 0, 1) := by decide +kernel
theorem dX4_keep_41 : decode cX4_keep 41 = .ok (.getfield 25, 3) := by decide +kernel
theorem dX4_keep_44 : decode cX4_keep 44 = .ok (.iload_n 1, 1) := by decide +kernel
theorem dX4_keep_45 : decode cX4_keep 45 = .ok (.iconst 1, 1) := by decide +kernel
theorem dX4_keep_46 : decode cX4_keep 46 = .ok (.bastore, 1) := by decide +kernel
theorem dX4_keep_47 : decode cX4_keep 47 = .ok (.aload_n 0, 1) := by decide +kernel
theorem dX4_keep_48 : decode cX4_keep 48 = .ok (.iconst 0, 1) := by decide +kernel
theorem dX4_keep_49 : decode cX4_keep 49 = .ok (.putfield 99, 3) := by decide +kernel
theorem dX4_keep_52 : decode cX4_keep 52 = .ok (.iconst 1, 1) := by decide +kernel
theorem dX4_keep_53 : decode cX4_keep 53 = .ok (.ireturn, 1) := by decide +kernel
set_option maxRecDepth 20000 in
theorem ggX4_goBack_X4_in : GoodIn wsX4_goBack wsX4_in := goodIn_r _ [12] (by decide +kernel) (by decide +kernel)
set_option maxRecDepth 20000 in
theorem gX4_goBack_X4_in : GoodIn wsX4_goBack (va_wsS RX4 42 yX4_in wsX4_in) := goodIn_app (goodIn_of _ (by decide +kernel)) ggX4_goBack_X4_in
set_option maxRecDepth 20000 in
theorem ggX4_goBack_X4_bring : GoodIn wsX4_goBack wsX4_bring := goodIn_r _ [15] (by decide +kernel) (by decide +kernel)
set_option maxRecDepth 20000 in
theorem gX4_goBack_X4_bring : GoodIn wsX4_goBack (va_wsS RX4 123 yX4_bring wsX4_bring) := goodIn_app (goodIn_of _ (by decide +kernel)) ggX4_goBack_X4_bring
theorem dX4_goBack_0 : decode cX4_goBack 0 = .ok (.iload_n 1, 1) := by decide +kernel
theorem dX4_goBack_1 : decode cX4_goBack 1 = .ok (.iconst 0, 1) := by decide +kernel
theorem dX4_goBack_2 : decode cX4_goBack 2 = .ok (.iconst 1, 1) := by decide +kernel
theorem dX4_goBack_3 : decode cX4_goBack 3 = .ok (.invokestatic 42, 3) := by decide +kernel
theorem dX4_goBack_6 : decode cX4_goBack 6 = .ok (.ifCond .ne 6, 3) := by decide +kernel
theorem dX4_goBack_9 : decode cX4_goBack 9 = .ok (.ldc 109, 2) := by decide +kernel
theorem dX4_goBack_11 : decode cX4_goBack 11 = .ok (.ireturn, 1) := by decide +kernel
theorem dX4_goBack_12 : decode cX4_goBack 12 = .ok (.aload_n 0, 1) := by decide +kernel
theorem dX4_goBack_13 : decode cX4_goBack 13 = .ok (.getfield 25, 3) := by decide +kernel
theorem dX4_goBack_16 : decode cX4_goBack 16 = .ok (.iload_n 1, 1) := by decide +kernel
theorem dX4_goBack_17 : decode cX4_goBack 17 = .ok (.baload, 1) := by decide +kernel
theorem dX4_goBack_18 : decode cX4_goBack 18 = .ok (.ifCond .ne 6, 3) := by decide +kernel
theorem dX4_goBack_21 : decode cX4_goBack 21 = .ok (.ldc 139, 2) := by decide +kernel
theorem dX4_goBack_23 : decode cX4_goBack 23 = .ok (.ireturn, 1) := by decide +kernel
theorem dX4_goBack_24 : decode cX4_goBack 24 = .ok (.aload_n 0, 1) := by decide +kernel
theorem dX4_goBack_25 : decode cX4_goBack 25 = .ok (.getfield 19, 3) := by decide +kernel
theorem dX4_goBack_28 : decode cX4_goBack 28 = .ok (.bipush 93, 2) := by decide +kernel
theorem dX4_goBack_30 : decode cX4_goBack 30 = .ok (.iload_n 1, 1) := by decide +kernel
theorem dX4_goBack_31 : decode cX4_goBack 31 = .ok (.imul, 1) := by decide +kernel
theorem dX4_goBack_32 : decode cX4_goBack 32 = .ok (.aload_n 0, 1) := by decide +kernel
theorem dX4_goBack_33 : decode cX4_goBack 33 = .ok (.getfield 7, 3) := by decide +kernel
theorem dX4_goBack_36 : decode cX4_goBack 36 = .ok (.iconst 0, 1) := by decide +kernel
theorem dX4_goBack_37 : decode cX4_goBack 37 = .ok (.bipush 93, 2) := by decide +kernel
theorem dX4_goBack_39 : decode cX4_goBack 39 = .ok (.invokestatic 123, 3) := by decide +kernel
theorem dX4_goBack_42 : decode cX4_goBack 42 = .ok (.aload_n 0, 1) := by decide +kernel
theorem dX4_goBack_43 : decode cX4_goBack 43 = .ok (.aload_n 0, 1) := by decide +kernel
theorem dX4_goBack_44 : decode cX4_goBack 44 = .ok (.getfield 22, 3) := by decide +kernel
theorem dX4_goBack_47 : decode cX4_goBack 47 = .ok (.iload_n 1, 1) := by decide +kernel
theorem dX4_goBack_48 : decode cX4_goBack 48 = .ok (.iaload, 1) := by decide +kernel
theorem dX4_goBack_49 : decode cX4_goBack 49 = .ok (.putfield 140, 3) := by decide +kernel
theorem dX4_goBack_52 : decode cX4_goBack 52 = .ok (.aload_n 0, 1) := by decide +kernel
theorem dX4_goBack_53 : decode cX4_goBack 53 = .ok (.iconst 0, 1) := by decide +kernel
theorem dX4_goBack_54 : decode cX4_goBack 54 = .ok (.putfield 99, 3) := by decide +kernel
theorem dX4_goBack_57 : decode cX4_goBack 57 = .ok (.iconst 1, 1) := by decide +kernel
theorem dX4_goBack_58 : decode cX4_goBack 58 = .ok (.ireturn, 1) := by decide +kernel
set_option maxRecDepth 20000 in
theorem ggX4_told_X4_in : GoodIn wsX4_told wsX4_in := goodIn_r _ [5] (by decide +kernel) (by decide +kernel)
set_option maxRecDepth 20000 in
theorem gX4_told_X4_in : GoodIn wsX4_told (va_wsS RX4 42 yX4_in wsX4_in) := goodIn_app (goodIn_of _ (by decide +kernel)) ggX4_told_X4_in
set_option maxRecDepth 20000 in
theorem ggX4_told_X4_toldOf : GoodIn wsX4_told wsX4_toldOf := goodIn_r _ [9, 10, 11, 12, 13, 14, 15, 4, 16, 17, 18, 19, 20, 21, 22, 23, 24, 25, 26, 27, 28, 29, 30, 31, 32, 33, 34, 35, 36, 37, 38, 39, 40, 41, 2, 3, 5, 42, 43, 44, 45, 46, 47, 48, 49, 50, 51, 52, 53, 54, 55, 56, 57, 58, 59, 60, 61, 62, 63, 64, 65, 66, 67, 68, 69, 70, 71, 72, 73, 74, 75, 76, 77, 78, 79, 80, 81, 82, 83, 84, 85] (by decide +kernel) (by decide +kernel)
set_option maxRecDepth 20000 in
theorem gX4_told_X4_toldOf : GoodIn wsX4_told (wsV RX4 153 RX4 yX4_toldOf wsX4_toldOf) := goodIn_app (goodIn_of _ (by decide +kernel)) ggX4_told_X4_toldOf
theorem dX4_told_0 : decode cX4_told 0 = .ok (.iload_n 1, 1) := by decide +kernel
theorem dX4_told_1 : decode cX4_told 1 = .ok (.iconst 0, 1) := by decide +kernel
theorem dX4_told_2 : decode cX4_told 2 = .ok (.bipush 13, 2) := by decide +kernel
theorem dX4_told_4 : decode cX4_told 4 = .ok (.invokestatic 42, 3) := by decide +kernel
theorem dX4_told_7 : decode cX4_told 7 = .ok (.ifCond .eq 11, 3) := by decide +kernel
theorem dX4_told_10 : decode cX4_told 10 = .ok (.aload_n 0, 1) := by decide +kernel
theorem dX4_told_11 : decode cX4_told 11 = .ok (.iload_n 1, 1) := by decide +kernel
theorem dX4_told_12 : decode cX4_told 12 = .ok (.invokevirtual 153, 3) := by decide +kernel
theorem dX4_told_15 : decode cX4_told 15 = .ok (.goto 5, 3) := by decide +kernel
theorem dX4_told_18 : decode cX4_told 18 = .ok (.ldc 110, 2) := by decide +kernel
theorem dX4_told_20 : decode cX4_told 20 = .ok (.ireturn, 1) := by decide +kernel
theorem dJ9_floorMod_7cf53_0 : decode cJ9_floorMod_7cf53 0 = .ok (.iload_n 0, 1) := by decide +kernel
theorem dJ9_floorMod_7cf53_1 : decode cJ9_floorMod_7cf53 1 = .ok (.iload_n 1, 1) := by decide +kernel
theorem dJ9_floorMod_7cf53_2 : decode cJ9_floorMod_7cf53 2 = .ok (.irem, 1) := by decide +kernel
theorem dJ9_floorMod_7cf53_3 : decode cJ9_floorMod_7cf53 3 = .ok (.istore_n 2, 1) := by decide +kernel
theorem dJ9_floorMod_7cf53_4 : decode cJ9_floorMod_7cf53 4 = .ok (.iload_n 0, 1) := by decide +kernel
theorem dJ9_floorMod_7cf53_5 : decode cJ9_floorMod_7cf53 5 = .ok (.iload_n 1, 1) := by decide +kernel
theorem dJ9_floorMod_7cf53_6 : decode cJ9_floorMod_7cf53 6 = .ok (.ixor, 1) := by decide +kernel
theorem dJ9_floorMod_7cf53_7 : decode cJ9_floorMod_7cf53 7 = .ok (.ifCond .ge 11, 3) := by decide +kernel
theorem dJ9_floorMod_7cf53_10 : decode cJ9_floorMod_7cf53 10 = .ok (.iload_n 2, 1) := by decide +kernel
theorem dJ9_floorMod_7cf53_11 : decode cJ9_floorMod_7cf53 11 = .ok (.ifCond .eq 7, 3) := by decide +kernel
theorem dJ9_floorMod_7cf53_14 : decode cJ9_floorMod_7cf53 14 = .ok (.iload_n 2, 1) := by decide +kernel
theorem dJ9_floorMod_7cf53_15 : decode cJ9_floorMod_7cf53 15 = .ok (.iload_n 1, 1) := by decide +kernel
theorem dJ9_floorMod_7cf53_16 : decode cJ9_floorMod_7cf53 16 = .ok (.iadd, 1) := by decide +kernel
theorem dJ9_floorMod_7cf53_17 : decode cJ9_floorMod_7cf53 17 = .ok (.ireturn, 1) := by decide +kernel
theorem dJ9_floorMod_7cf53_18 : decode cJ9_floorMod_7cf53 18 = .ok (.iload_n 2, 1) := by decide +kernel
theorem dJ9_floorMod_7cf53_19 : decode cJ9_floorMod_7cf53 19 = .ok (.ireturn, 1) := by decide +kernel
theorem dJ9_abs_0f7a4_0 : decode cJ9_abs_0f7a4 0 = .ok (.iload_n 0, 1) := by decide +kernel
theorem dJ9_abs_0f7a4_1 : decode cJ9_abs_0f7a4 1 = .ok (.ifCond .ge 8, 3) := by decide +kernel
theorem dJ9_abs_0f7a4_4 : decode cJ9_abs_0f7a4 4 = .ok (.iload_n 0, 1) := by decide +kernel
theorem dJ9_abs_0f7a4_5 : decode cJ9_abs_0f7a4 5 = .ok (.ineg, 1) := by decide +kernel
theorem dJ9_abs_0f7a4_6 : decode cJ9_abs_0f7a4 6 = .ok (.goto 4, 3) := by decide +kernel
theorem dJ9_abs_0f7a4_9 : decode cJ9_abs_0f7a4 9 = .ok (.iload_n 0, 1) := by decide +kernel
theorem dJ9_abs_0f7a4_10 : decode cJ9_abs_0f7a4 10 = .ok (.ireturn, 1) := by decide +kernel
theorem dJ9_max_7cf53_0 : decode cJ9_max_7cf53 0 = .ok (.iload_n 0, 1) := by decide +kernel
theorem dJ9_max_7cf53_1 : decode cJ9_max_7cf53 1 = .ok (.iload_n 1, 1) := by decide +kernel
theorem dJ9_max_7cf53_2 : decode cJ9_max_7cf53 2 = .ok (.if_icmp .lt 7, 3) := by decide +kernel
theorem dJ9_max_7cf53_5 : decode cJ9_max_7cf53 5 = .ok (.iload_n 0, 1) := by decide +kernel
theorem dJ9_max_7cf53_6 : decode cJ9_max_7cf53 6 = .ok (.goto 4, 3) := by decide +kernel
theorem dJ9_max_7cf53_9 : decode cJ9_max_7cf53 9 = .ok (.iload_n 1, 1) := by decide +kernel
theorem dJ9_max_7cf53_10 : decode cJ9_max_7cf53 10 = .ok (.ireturn, 1) := by decide +kernel
theorem dJ9_min_7cf53_0 : decode cJ9_min_7cf53 0 = .ok (.iload_n 0, 1) := by decide +kernel
theorem dJ9_min_7cf53_1 : decode cJ9_min_7cf53 1 = .ok (.iload_n 1, 1) := by decide +kernel
theorem dJ9_min_7cf53_2 : decode cJ9_min_7cf53 2 = .ok (.if_icmp .gt 7, 3) := by decide +kernel
theorem dJ9_min_7cf53_5 : decode cJ9_min_7cf53 5 = .ok (.iload_n 0, 1) := by decide +kernel
theorem dJ9_min_7cf53_6 : decode cJ9_min_7cf53 6 = .ok (.goto 4, 3) := by decide +kernel
theorem dJ9_min_7cf53_9 : decode cJ9_min_7cf53 9 = .ok (.iload_n 1, 1) := by decide +kernel
theorem dJ9_min_7cf53_10 : decode cJ9_min_7cf53 10 = .ok (.ireturn, 1) := by decide +kernel
