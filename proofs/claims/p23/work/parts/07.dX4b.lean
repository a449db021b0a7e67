set_option maxRecDepth 20000 in
theorem ggX4_hour_X4_isHour : GoodIn wsX4_hour wsX4_isHour := goodIn_r _ [8, 9, 10, 7, 11] (by decide +kernel) (by decide +kernel)
set_option maxRecDepth 20000 in
theorem gX4_hour_X4_isHour : GoodIn wsX4_hour (va_wsS RX4 105 yX4_isHour wsX4_isHour) := goodIn_app (goodIn_of _ (by decide +kernel)) ggX4_hour_X4_isHour
set_option maxRecDepth 20000 in
theorem ggX4_hour_X4_in : GoodIn wsX4_hour wsX4_in := goodIn_r _ [11] (by decide +kernel) (by decide +kernel)
set_option maxRecDepth 20000 in
theorem gX4_hour_X4_in : GoodIn wsX4_hour (va_wsS RX4 42 yX4_in wsX4_in) := goodIn_app (goodIn_of _ (by decide +kernel)) ggX4_hour_X4_in
set_option maxRecDepth 20000 in
theorem ggX4_hour_X4_toldPrice : GoodIn wsX4_hour wsX4_toldPrice := goodIn_r _ [15, 3, 16, 17, 18, 7, 19, 9, 10, 11, 20, 21, 22, 23, 24, 25, 26, 76, 77, 78, 79, 80, 81, 82, 83, 84, 85, 86, 87, 88] (by decide +kernel) (by decide +kernel)
set_option maxRecDepth 20000 in
theorem gX4_hour_X4_toldPrice : GoodIn wsX4_hour (wsV RX4 61 RX4 yX4_toldPrice wsX4_toldPrice) := goodIn_app (goodIn_of _ (by decide +kernel)) ggX4_hour_X4_toldPrice
set_option maxRecDepth 20000 in
theorem ggX4_hour_X4_lawOf : GoodIn wsX4_hour wsX4_lawOf := goodIn_r _ [30, 3, 16, 17, 18, 7, 19, 9, 10, 11, 76, 77, 78, 79, 80, 81, 82, 83, 84, 85, 86, 87, 88] (by decide +kernel) (by decide +kernel)
set_option maxRecDepth 20000 in
theorem gX4_hour_X4_lawOf : GoodIn wsX4_hour (wsV RX4 111 RX4 yX4_lawOf wsX4_lawOf) := goodIn_app (goodIn_of _ (by decide +kernel)) ggX4_hour_X4_lawOf
set_option maxRecDepth 20000 in
theorem ggX4_hour_X4_bendsOf : GoodIn wsX4_hour wsX4_bendsOf := goodIn_r _ [34, 35, 36, 37, 38, 39, 7, 40, 3, 41, 42, 43, 44, 45, 46, 47, 48, 49, 50, 51, 12, 13, 14, 15, 16, 17, 18, 19, 9, 10, 11, 20, 21, 22, 23, 24, 25, 26, 52, 53, 54, 55, 76, 77, 78, 79, 80, 81, 82, 83, 84, 85, 86, 87, 88] (by decide +kernel) (by decide +kernel)
set_option maxRecDepth 20000 in
theorem gX4_hour_X4_bendsOf : GoodIn wsX4_hour (wsV RX4 114 RX4 yX4_bendsOf wsX4_bendsOf) := goodIn_app (goodIn_of _ (by decide +kernel)) ggX4_hour_X4_bendsOf
set_option maxRecDepth 20000 in
theorem ggX4_hour_X4_isPlanned : GoodIn wsX4_hour wsX4_isPlanned := goodIn_r _ [59, 36, 3, 45, 35, 4, 60, 61, 62, 7, 63, 37, 38, 39, 40, 41, 42, 43, 44, 46, 47, 48, 49, 50, 51, 12, 13, 14, 15, 16, 17, 18, 19, 9, 10, 11, 20, 21, 22, 23, 24, 25, 26, 52, 53, 54, 55, 76, 77, 78, 79, 80, 81, 82, 83, 84, 85, 86, 87, 88] (by decide +kernel) (by decide +kernel)
set_option maxRecDepth 20000 in
theorem gX4_hour_X4_isPlanned : GoodIn wsX4_hour (wsV RX4 86 RX4 yX4_isPlanned wsX4_isPlanned) := goodIn_app (goodIn_of _ (by decide +kernel)) ggX4_hour_X4_isPlanned
set_option maxRecDepth 20000 in
theorem ggX4_hour_X4_before : GoodIn wsX4_hour wsX4_before := goodIn_r _ [67, 3, 4, 76, 77, 78, 79, 80, 81, 82, 83, 84, 85, 86, 87, 88] (by decide +kernel) (by decide +kernel)
set_option maxRecDepth 20000 in
theorem gX4_hour_X4_before : GoodIn wsX4_hour (wsV RX4 83 RX4 yX4_before wsX4_before) := goodIn_app (goodIn_of _ (by decide +kernel)) ggX4_hour_X4_before
set_option maxRecDepth 20000 in
theorem ggX4_hour_X4_dearOf : GoodIn wsX4_hour wsX4_dearOf := goodIn_r _ [71, 72, 73, 74, 7, 75, 50, 51, 4, 12, 13, 14, 15, 3, 16, 17, 18, 19, 9, 10, 11, 20, 21, 22, 23, 24, 25, 26, 56, 57, 58, 59, 36, 45, 35, 60, 61, 62, 63, 37, 38, 39, 40, 41, 42, 43, 44, 46, 47, 48, 49, 52, 53, 54, 55, 64, 65, 66, 67, 76, 77, 78, 79, 80, 81, 82, 83, 84, 85, 86, 87, 88] (by decide +kernel) (by decide +kernel)
set_option maxRecDepth 20000 in
theorem gX4_hour_X4_dearOf : GoodIn wsX4_hour (wsV RX4 117 RX4 yX4_dearOf wsX4_dearOf) := goodIn_app (goodIn_of _ (by decide +kernel)) ggX4_hour_X4_dearOf
theorem dX4_hour_0 : decode cX4_hour 0 = .ok (.iload_n 1, 1) := by decide +kernel
theorem dX4_hour_1 : decode cX4_hour 1 = .ok (.invokestatic 105, 3) := by decide +kernel
theorem dX4_hour_4 : decode cX4_hour 4 = .ok (.ifCond .ne 6, 3) := by decide +kernel
theorem dX4_hour_7 : decode cX4_hour 7 = .ok (.ldc 109, 2) := by decide +kernel
theorem dX4_hour_9 : decode cX4_hour 9 = .ok (.ireturn, 1) := by decide +kernel
theorem dX4_hour_10 : decode cX4_hour 10 = .ok (.iload_n 2, 1) := by decide +kernel
theorem dX4_hour_11 : decode cX4_hour 11 = .ok (.iconst 0, 1) := by decide +kernel
theorem dX4_hour_12 : decode cX4_hour 12 = .ok (.bipush 6, 2) := by decide +kernel
theorem dX4_hour_14 : decode cX4_hour 14 = .ok (.invokestatic 42, 3) := by decide +kernel
theorem dX4_hour_17 : decode cX4_hour 17 = .ok (.ifCond .ne 6, 3) := by decide +kernel
theorem dX4_hour_20 : decode cX4_hour 20 = .ok (.ldc 110, 2) := by decide +kernel
theorem dX4_hour_22 : decode cX4_hour 22 = .ok (.ireturn, 1) := by decide +kernel
theorem dX4_hour_23 : decode cX4_hour 23 = .ok (.iload_n 2, 1) := by decide +kernel
theorem dX4_hour_24 : decode cX4_hour 24 = .ok (.iconst 3, 1) := by decide +kernel
theorem dX4_hour_25 : decode cX4_hour 25 = .ok (.if_icmp .ge 42, 3) := by decide +kernel
theorem dX4_hour_28 : decode cX4_hour 28 = .ok (.iload_n 2, 1) := by decide +kernel
theorem dX4_hour_29 : decode cX4_hour 29 = .ok (.ifCond .ne 15, 3) := by decide +kernel
theorem dX4_hour_32 : decode cX4_hour 32 = .ok (.aload_n 0, 1) := by decide +kernel
theorem dX4_hour_33 : decode cX4_hour 33 = .ok (.iload_n 1, 1) := by decide +kernel
theorem dX4_hour_34 : decode cX4_hour 34 = .ok (.invokevirtual 61, 3) := by decide +kernel
theorem dX4_hour_37 : decode cX4_hour 37 = .ok (.sipush 10000, 3) := by decide +kernel
theorem dX4_hour_40 : decode cX4_hour 40 = .ok (.iadd, 1) := by decide +kernel
theorem dX4_hour_41 : decode cX4_hour 41 = .ok (.goto 25, 3) := by decide +kernel
theorem dX4_hour_44 : decode cX4_hour 44 = .ok (.iload_n 2, 1) := by decide +kernel
theorem dX4_hour_45 : decode cX4_hour 45 = .ok (.iconst 1, 1) := by decide +kernel
theorem dX4_hour_46 : decode cX4_hour 46 = .ok (.if_icmp .ne 15, 3) := by decide +kernel
theorem dX4_hour_49 : decode cX4_hour 49 = .ok (.aload_n 0, 1) := by decide +kernel
theorem dX4_hour_50 : decode cX4_hour 50 = .ok (.getfield 7, 3) := by decide +kernel
theorem dX4_hour_53 : decode cX4_hour 53 = .ok (.bipush 68, 2) := by decide +kernel
theorem dX4_hour_55 : decode cX4_hour 55 = .ok (.iload_n 1, 1) := by decide +kernel
theorem dX4_hour_56 : decode cX4_hour 56 = .ok (.iadd, 1) := by decide +kernel
theorem dX4_hour_57 : decode cX4_hour 57 = .ok (.iaload, 1) := by decide +kernel
theorem dX4_hour_58 : decode cX4_hour 58 = .ok (.goto 8, 3) := by decide +kernel
theorem dX4_hour_61 : decode cX4_hour 61 = .ok (.aload_n 0, 1) := by decide +kernel
theorem dX4_hour_62 : decode cX4_hour 62 = .ok (.iload_n 1, 1) := by decide +kernel
theorem dX4_hour_63 : decode cX4_hour 63 = .ok (.invokevirtual 111, 3) := by decide +kernel
theorem dX4_hour_66 : decode cX4_hour 66 = .ok (.ireturn, 1) := by decide +kernel
theorem dX4_hour_67 : decode cX4_hour 67 = .ok (.iload_n 2, 1) := by decide +kernel
theorem dX4_hour_68 : decode cX4_hour 68 = .ok (.bipush 6, 2) := by decide +kernel
theorem dX4_hour_70 : decode cX4_hour 70 = .ok (.if_icmp .ne 9, 3) := by decide +kernel
theorem dX4_hour_73 : decode cX4_hour 73 = .ok (.aload_n 0, 1) := by decide +kernel
theorem dX4_hour_74 : decode cX4_hour 74 = .ok (.iload_n 1, 1) := by decide +kernel
theorem dX4_hour_75 : decode cX4_hour 75 = .ok (.invokevirtual 114, 3) := by decide +kernel
theorem dX4_hour_78 : decode cX4_hour 78 = .ok (.ireturn, 1) := by decide +kernel
theorem dX4_hour_79 : decode cX4_hour 79 = .ok (.iload_n 1, 1) := by decide +kernel
theorem dX4_hour_80 : decode cX4_hour 80 = .ok (.aload_n 0, 1) := by decide +kernel
theorem dX4_hour_81 : decode cX4_hour 81 = .ok (.getfield 7, 3) := by decide +kernel
theorem dX4_hour_84 : decode cX4_hour 84 = .ok (.iconst 0, 1) := by decide +kernel
theorem dX4_hour_85 : decode cX4_hour 85 = .ok (.iaload, 1) := by decide +kernel
theorem dX4_hour_86 : decode cX4_hour 86 = .ok (.if_icmp .lt 10, 3) := by decide +kernel
theorem dX4_hour_89 : decode cX4_hour 89 = .ok (.aload_n 0, 1) := by decide +kernel
theorem dX4_hour_90 : decode cX4_hour 90 = .ok (.invokevirtual 86, 3) := by decide +kernel
theorem dX4_hour_93 : decode cX4_hour 93 = .ok (.ifCond .ne 5, 3) := by decide +kernel
theorem dX4_hour_96 : decode cX4_hour 96 = .ok (.iconst (-1), 1) := by decide +kernel
theorem dX4_hour_97 : decode cX4_hour 97 = .ok (.ireturn, 1) := by decide +kernel
theorem dX4_hour_98 : decode cX4_hour 98 = .ok (.iload_n 2, 1) := by decide +kernel
theorem dX4_hour_99 : decode cX4_hour 99 = .ok (.iconst 3, 1) := by decide +kernel
theorem dX4_hour_100 : decode cX4_hour 100 = .ok (.if_icmp .ne 12, 3) := by decide +kernel
theorem dX4_hour_103 : decode cX4_hour 103 = .ok (.aload_n 0, 1) := by decide +kernel
theorem dX4_hour_104 : decode cX4_hour 104 = .ok (.getfield 32, 3) := by decide +kernel
theorem dX4_hour_107 : decode cX4_hour 107 = .ok (.iload_n 1, 1) := by decide +kernel
theorem dX4_hour_108 : decode cX4_hour 108 = .ok (.iaload, 1) := by decide +kernel
theorem dX4_hour_109 : decode cX4_hour 109 = .ok (.goto 31, 3) := by decide +kernel
theorem dX4_hour_112 : decode cX4_hour 112 = .ok (.iload_n 2, 1) := by decide +kernel
theorem dX4_hour_113 : decode cX4_hour 113 = .ok (.iconst 4, 1) := by decide +kernel
theorem dX4_hour_114 : decode cX4_hour 114 = .ok (.if_icmp .ne 21, 3) := by decide +kernel
theorem dX4_hour_117 : decode cX4_hour 117 = .ok (.aload_n 0, 1) := by decide +kernel
theorem dX4_hour_118 : decode cX4_hour 118 = .ok (.getfield 32, 3) := by decide +kernel
theorem dX4_hour_121 : decode cX4_hour 121 = .ok (.iload_n 1, 1) := by decide +kernel
theorem dX4_hour_122 : decode cX4_hour 122 = .ok (.iaload, 1) := by decide +kernel
theorem dX4_hour_123 : decode cX4_hour 123 = .ok (.aload_n 0, 1) := by decide +kernel
theorem dX4_hour_124 : decode cX4_hour 124 = .ok (.iload_n 1, 1) := by decide +kernel
theorem dX4_hour_125 : decode cX4_hour 125 = .ok (.invokevirtual 83, 3) := by decide +kernel
theorem dX4_hour_128 : decode cX4_hour 128 = .ok (.isub, 1) := by decide +kernel
theorem dX4_hour_129 : decode cX4_hour 129 = .ok (.bipush 100, 2) := by decide +kernel
theorem dX4_hour_131 : decode cX4_hour 131 = .ok (.iadd, 1) := by decide +kernel
theorem dX4_hour_132 : decode cX4_hour 132 = .ok (.goto 8, 3) := by decide +kernel
theorem dX4_hour_135 : decode cX4_hour 135 = .ok (.aload_n 0, 1) := by decide +kernel
theorem dX4_hour_136 : decode cX4_hour 136 = .ok (.iload_n 1, 1) := by decide +kernel
theorem dX4_hour_137 : decode cX4_hour 137 = .ok (.invokevirtual 117, 3) := by decide +kernel
theorem dX4_hour_140 : decode cX4_hour 140 = .ok (.ireturn, 1) := by decide +kernel
set_option maxRecDepth 20000 in
theorem ggX4_isLaw_X4_in : GoodIn wsX4_isLaw wsX4_in := goodIn_r _ [5] (by decide +kernel) (by decide +kernel)
set_option maxRecDepth 20000 in
theorem gX4_isLaw_X4_in : GoodIn wsX4_isLaw (va_wsS RX4 42 yX4_in wsX4_in) := goodIn_app (goodIn_of _ (by decide +kernel)) ggX4_isLaw_X4_in
theorem dX4_isLaw_0 : decode cX4_isLaw 0 = .ok (.iload_n 1, 1) := by decide +kernel
theorem dX4_isLaw_1 : decode cX4_isLaw 1 = .ok (.iconst 0, 1) := by decide +kernel
theorem dX4_isLaw_2 : decode cX4_isLaw 2 = .ok (.aload_n 0, 1) := by decide +kernel
theorem dX4_isLaw_3 : decode cX4_isLaw 3 = .ok (.getfield 7, 3) := by decide +kernel
theorem dX4_isLaw_6 : decode cX4_isLaw 6 = .ok (.bipush 7, 2) := by decide +kernel
theorem dX4_isLaw_8 : decode cX4_isLaw 8 = .ok (.iaload, 1) := by decide +kernel
theorem dX4_isLaw_9 : decode cX4_isLaw 9 = .ok (.iconst 1, 1) := by decide +kernel
theorem dX4_isLaw_10 : decode cX4_isLaw 10 = .ok (.isub, 1) := by decide +kernel
theorem dX4_isLaw_11 : decode cX4_isLaw 11 = .ok (.invokestatic 42, 3) := by decide +kernel
theorem dX4_isLaw_14 : decode cX4_isLaw 14 = .ok (.ireturn, 1) := by decide +kernel
set_option maxRecDepth 20000 in
theorem ggX4_lawAt_X4_isLaw : GoodIn wsX4_lawAt wsX4_isLaw := goodIn_r _ [8, 3, 9, 10, 7, 11, 20, 21, 22, 23, 24, 25, 26, 27, 28, 29, 30, 31, 32] (by decide +kernel) (by decide +kernel)
set_option maxRecDepth 20000 in
theorem gX4_lawAt_X4_isLaw : GoodIn wsX4_lawAt (wsV RX4 120 RX4 yX4_isLaw wsX4_isLaw) := goodIn_app (goodIn_of _ (by decide +kernel)) ggX4_lawAt_X4_isLaw
set_option maxRecDepth 20000 in
theorem ggX4_lawAt_X4_in : GoodIn wsX4_lawAt wsX4_in := goodIn_r _ [11] (by decide +kernel) (by decide +kernel)
set_option maxRecDepth 20000 in
theorem gX4_lawAt_X4_in : GoodIn wsX4_lawAt (va_wsS RX4 42 yX4_in wsX4_in) := goodIn_app (goodIn_of _ (by decide +kernel)) ggX4_lawAt_X4_in
set_option maxRecDepth 20000 in
theorem ggX4_lawAt_X4_lawOf : GoodIn wsX4_lawAt wsX4_lawOf := goodIn_r _ [15, 3, 16, 17, 18, 7, 19, 9, 10, 11, 20, 21, 22, 23, 24, 25, 26, 27, 28, 29, 30, 31, 32] (by decide +kernel) (by decide +kernel)
set_option maxRecDepth 20000 in
theorem gX4_lawAt_X4_lawOf : GoodIn wsX4_lawAt (wsV RX4 111 RX4 yX4_lawOf wsX4_lawOf) := goodIn_app (goodIn_of _ (by decide +kernel)) ggX4_lawAt_X4_lawOf
theorem dX4_lawAt_0 : decode cX4_lawAt 0 = .ok (.aload_n 0, 1) := by decide +kernel
theorem dX4_lawAt_1 : decode cX4_lawAt 1 = .ok (.iload_n 1, 1) := by decide +kernel
theorem dX4_lawAt_2 : decode cX4_lawAt 2 = .ok (.invokevirtual 120, 3) := by decide +kernel
theorem dX4_lawAt_5 : decode cX4_lawAt 5 = .ok (.ifCond .ne 6, 3) := by decide +kernel
theorem dX4_lawAt_8 : decode cX4_lawAt 8 = .ok (.ldc 109, 2) := by decide +kernel
theorem dX4_lawAt_10 : decode cX4_lawAt 10 = .ok (.ireturn, 1) := by decide +kernel
theorem dX4_lawAt_11 : decode cX4_lawAt 11 = .ok (.iload_n 2, 1) := by decide +kernel
theorem dX4_lawAt_12 : decode cX4_lawAt 12 = .ok (.iconst 0, 1) := by decide +kernel
theorem dX4_lawAt_13 : decode cX4_lawAt 13 = .ok (.iconst 5, 1) := by decide +kernel
theorem dX4_lawAt_14 : decode cX4_lawAt 14 = .ok (.invokestatic 42, 3) := by decide +kernel
theorem dX4_lawAt_17 : decode cX4_lawAt 17 = .ok (.ifCond .ne 6, 3) := by decide +kernel
theorem dX4_lawAt_20 : decode cX4_lawAt 20 = .ok (.ldc 110, 2) := by decide +kernel
theorem dX4_lawAt_22 : decode cX4_lawAt 22 = .ok (.ireturn, 1) := by decide +kernel
theorem dX4_lawAt_23 : decode cX4_lawAt 23 = .ok (.iload_n 2, 1) := by decide +kernel
theorem dX4_lawAt_24 : decode cX4_lawAt 24 = .ok (.iconst 5, 1) := by decide +kernel
theorem dX4_lawAt_25 : decode cX4_lawAt 25 = .ok (.if_icmp .ne 41, 3) := by decide +kernel
theorem dX4_lawAt_28 : decode cX4_lawAt 28 = .ok (.iconst 0, 1) := by decide +kernel
theorem dX4_lawAt_29 : decode cX4_lawAt 29 = .ok (.istore_n 3, 1) := by decide +kernel
theorem dX4_lawAt_30 : decode cX4_lawAt 30 = .ok (.iconst 0, 1) := by decide +kernel
theorem dX4_lawAt_31 : decode cX4_lawAt 31 = .ok (.istore 4, 2) := by decide +kernel
theorem dX4_lawAt_33 : decode cX4_lawAt 33 = .ok (.iload 4, 2) := by decide +kernel
theorem dX4_lawAt_35 : decode cX4_lawAt 35 = .ok (.bipush 24, 2) := by decide +kernel
theorem dX4_lawAt_37 : decode cX4_lawAt 37 = .ok (.if_icmp .ge 27, 3) := by decide +kernel
theorem dX4_lawAt_40 : decode cX4_lawAt 40 = .ok (.iload_n 3, 1) := by decide +kernel
theorem dX4_lawAt_41 : decode cX4_lawAt 41 = .ok (.aload_n 0, 1) := by decide +kernel
theorem dX4_lawAt_42 : decode cX4_lawAt 42 = .ok (.iload 4, 2) := by decide +kernel
theorem dX4_lawAt_44 : decode cX4_lawAt 44 = .ok (.invokevirtual 111, 3) := by decide +kernel
theorem dX4_lawAt_47 : decode cX4_lawAt 47 = .ok (.iload_n 1, 1) := by decide +kernel
theorem dX4_lawAt_48 : decode cX4_lawAt 48 = .ok (.if_icmp .ne 7, 3) := by decide +kernel
theorem dX4_lawAt_51 : decode cX4_lawAt 51 = .ok (.iconst 1, 1) := by decide +kernel
theorem dX4_lawAt_52 : decode cX4_lawAt 52 = .ok (.goto 4, 3) := by decide +kernel
theorem dX4_lawAt_55 : decode cX4_lawAt 55 = .ok (.iconst 0, 1) := by decide +kernel
theorem dX4_lawAt_56 : decode cX4_lawAt 56 = .ok (.iadd, 1) := by decide +kernel
theorem dX4_lawAt_57 : decode cX4_lawAt 57 = .ok (.istore_n 3, 1) := by decide +kernel
theorem dX4_lawAt_58 : decode cX4_lawAt 58 = .ok (.iinc 4 1, 3) := by decide +kernel
theorem dX4_lawAt_61 : decode cX4_lawAt 61 = .ok (.goto (-28), 3) := by decide +kernel
theorem dX4_lawAt_64 : decode cX4_lawAt 64 = .ok (.iload_n 3, 1) := by decide +kernel
theorem dX4_lawAt_65 : decode cX4_lawAt 65 = .ok (.ireturn, 1) := by decide +kernel
theorem dX4_lawAt_66 : decode cX4_lawAt 66 = .ok (.aload_n 0, 1) := by decide +kernel
theorem dX4_lawAt_67 : decode cX4_lawAt 67 = .ok (.getfield 7, 3) := by decide +kernel
theorem dX4_lawAt_70 : decode cX4_lawAt 70 = .ok (.bipush 8, 2) := by decide +kernel
theorem dX4_lawAt_72 : decode cX4_lawAt 72 = .ok (.iconst 5, 1) := by decide +kernel
theorem dX4_lawAt_73 : decode cX4_lawAt 73 = .ok (.iload_n 1, 1) := by decide +kernel
theorem dX4_lawAt_74 : decode cX4_lawAt 74 = .ok (.imul, 1) := by decide +kernel
theorem dX4_lawAt_75 : decode cX4_lawAt 75 = .ok (.iadd, 1) := by decide +kernel
theorem dX4_lawAt_76 : decode cX4_lawAt 76 = .ok (.iload_n 2, 1) := by decide +kernel
theorem dX4_lawAt_77 : decode cX4_lawAt 77 = .ok (.iadd, 1) := by decide +kernel
theorem dX4_lawAt_78 : decode cX4_lawAt 78 = .ok (.iaload, 1) := by decide +kernel
theorem dX4_lawAt_79 : decode cX4_lawAt 79 = .ok (.iload_n 2, 1) := by decide +kernel
theorem dX4_lawAt_80 : decode cX4_lawAt 80 = .ok (.iconst 3, 1) := by decide +kernel
theorem dX4_lawAt_81 : decode cX4_lawAt 81 = .ok (.if_icmp .ne 8, 3) := by decide +kernel
theorem dX4_lawAt_84 : decode cX4_lawAt 84 = .ok (.bipush 100, 2) := by decide +kernel
theorem dX4_lawAt_86 : decode cX4_lawAt 86 = .ok (.goto 14, 3) := by decide +kernel
theorem dX4_lawAt_89 : decode cX4_lawAt 89 = .ok (.iload_n 2, 1) := by decide +kernel
theorem dX4_lawAt_90 : decode cX4_lawAt 90 = .ok (.iconst 4, 1) := by decide +kernel
theorem dX4_lawAt_91 : decode cX4_lawAt 91 = .ok (.if_icmp .ne 8, 3) := by decide +kernel
theorem dX4_lawAt_94 : decode cX4_lawAt 94 = .ok (.bipush 10, 2) := by decide +kernel
theorem dX4_lawAt_96 : decode cX4_lawAt 96 = .ok (.goto 4, 3) := by decide +kernel
theorem dX4_lawAt_99 : decode cX4_lawAt 99 = .ok (.iconst 0, 1) := by decide +kernel
theorem dX4_lawAt_100 : decode cX4_lawAt 100 = .ok (.iadd, 1) := by decide +kernel
theorem dX4_lawAt_101 : decode cX4_lawAt 101 = .ok (.ireturn, 1) := by decide +kernel
set_option maxRecDepth 20000 in
theorem ggX4_value_X4_in : GoodIn wsX4_value wsX4_in := goodIn_r _ [7] (by decide +kernel) (by decide +kernel)
set_option maxRecDepth 20000 in
theorem gX4_value_X4_in : GoodIn wsX4_value (va_wsS RX4 42 yX4_in wsX4_in) := goodIn_app (goodIn_of _ (by decide +kernel)) ggX4_value_X4_in
set_option maxRecDepth 20000 in
theorem ggX4_value_X4_lay : GoodIn wsX4_value wsX4_lay := goodIn_r _ [11, 3, 12, 13, 14, 15, 6, 16, 17, 18, 19, 20, 21, 22, 23, 24, 25, 26, 27, 28, 29, 30, 31, 32, 4, 5, 7, 33, 34, 35, 36, 37, 38, 39, 40, 41, 42, 43, 48, 49, 50, 51, 52, 53, 54, 55, 56, 57, 58, 59, 60] (by decide +kernel) (by decide +kernel)
set_option maxRecDepth 20000 in
theorem gX4_value_X4_lay : GoodIn wsX4_value (wsV RX4 75 RX4 yX4_lay wsX4_lay) := goodIn_app (goodIn_of _ (by decide +kernel)) ggX4_value_X4_lay
set_option maxRecDepth 20000 in
theorem ggX4_value_X4_shown : GoodIn wsX4_value wsX4_shown := goodIn_r _ [46, 18, 47] (by decide +kernel) (by decide +kernel)
set_option maxRecDepth 20000 in
theorem gX4_value_X4_shown : GoodIn wsX4_value (va_wsS RX4 93 yX4_shown wsX4_shown) := goodIn_app (goodIn_of _ (by decide +kernel)) ggX4_value_X4_shown
theorem dX4_value_0 : decode cX4_value 0 = .ok (.iload_n 1, 1) := by decide +kernel
theorem dX4_value_1 : decode cX4_value 1 = .ok (.iconst 0, 1) := by decide +kernel
theorem dX4_value_2 : decode cX4_value 2 = .ok (.bipush 24, 2) := by decide +kernel
theorem dX4_value_4 : decode cX4_value 4 = .ok (.invokestatic 42, 3) := by decide +kernel
theorem dX4_value_7 : decode cX4_value 7 = .ok (.ifCond .ne 6, 3) := by decide +kernel
theorem dX4_value_10 : decode cX4_value 10 = .ok (.ldc 109, 2) := by decide +kernel
theorem dX4_value_12 : decode cX4_value 12 = .ok (.ireturn, 1) := by decide +kernel
theorem dX4_value_13 : decode cX4_value 13 = .ok (.iload_n 2, 1) := by decide +kernel
theorem dX4_value_14 : decode cX4_value 14 = .ok (.iconst 0, 1) := by decide +kernel
theorem dX4_value_15 : decode cX4_value 15 = .ok (.bipush 60, 2) := by decide +kernel
theorem dX4_value_17 : decode cX4_value 17 = .ok (.invokestatic 42, 3) := by decide +kernel
theorem dX4_value_20 : decode cX4_value 20 = .ok (.ifCond .ne 6, 3) := by decide +kernel
theorem dX4_value_23 : decode cX4_value 23 = .ok (.ldc 110, 2) := by decide +kernel
theorem dX4_value_25 : decode cX4_value 25 = .ok (.ireturn, 1) := by decide +kernel
theorem dX4_value_26 : decode cX4_value 26 = .ok (.aload_n 0, 1) := by decide +kernel
theorem dX4_value_27 : decode cX4_value 27 = .ok (.invokevirtual 75, 3) := by decide +kernel
theorem dX4_value_30 : decode cX4_value 30 = .ok (.aload_n 0, 1) := by decide +kernel
theorem dX4_value_31 : decode cX4_value 31 = .ok (.getfield 29, 3) := by decide +kernel
theorem dX4_value_34 : decode cX4_value 34 = .ok (.bipush 61, 2) := by decide +kernel
theorem dX4_value_36 : decode cX4_value 36 = .ok (.iload_n 1, 1) := by decide +kernel
theorem dX4_value_37 : decode cX4_value 37 = .ok (.imul, 1) := by decide +kernel
theorem dX4_value_38 : decode cX4_value 38 = .ok (.iload_n 2, 1) := by decide +kernel
theorem dX4_value_39 : decode cX4_value 39 = .ok (.iadd, 1) := by decide +kernel
theorem dX4_value_40 : decode cX4_value 40 = .ok (.iaload, 1) := by decide +kernel
theorem dX4_value_41 : decode cX4_value 41 = .ok (.invokestatic 93, 3) := by decide +kernel
theorem dX4_value_44 : decode cX4_value 44 = .ok (.ireturn, 1) := by decide +kernel
set_option maxRecDepth 20000 in
theorem ggX4_margin_X4_in : GoodIn wsX4_margin wsX4_in := goodIn_r _ [9] (by decide +kernel) (by decide +kernel)
set_option maxRecDepth 20000 in
theorem gX4_margin_X4_in : GoodIn wsX4_margin (va_wsS RX4 42 yX4_in wsX4_in) := goodIn_app (goodIn_of _ (by decide +kernel)) ggX4_margin_X4_in
set_option maxRecDepth 20000 in
theorem ggX4_margin_X4_lay : GoodIn wsX4_margin wsX4_lay := goodIn_r _ [13, 3, 14, 15, 16, 17, 8, 18, 19, 4, 20, 21, 22, 23, 24, 25, 26, 27, 28, 29, 30, 31, 32, 33, 6, 7, 9, 34, 35, 36, 37, 38, 39, 40, 41, 42, 43, 44, 45, 46, 47, 48, 49, 50, 51, 52, 53, 54, 55, 56, 57] (by decide +kernel) (by decide +kernel)
set_option maxRecDepth 20000 in
theorem gX4_margin_X4_lay : GoodIn wsX4_margin (wsV RX4 75 RX4 yX4_lay wsX4_lay) := goodIn_app (goodIn_of _ (by decide +kernel)) ggX4_margin_X4_lay
theorem dX4_margin_0 : decode cX4_margin 0 = .ok (.iload_n 1, 1) := by decide +kernel
theorem dX4_margin_1 : decode cX4_margin 1 = .ok (.iconst 0, 1) := by decide +kernel
theorem dX4_margin_2 : decode cX4_margin 2 = .ok (.bipush 24, 2) := by decide +kernel
theorem dX4_margin_4 : decode cX4_margin 4 = .ok (.invokestatic 42, 3) := by decide +kernel
theorem dX4_margin_7 : decode cX4_margin 7 = .ok (.ifCond .ne 6, 3) := by decide +kernel
theorem dX4_margin_10 : decode cX4_margin 10 = .ok (.ldc 109, 2) := by decide +kernel
theorem dX4_margin_12 : decode cX4_margin 12 = .ok (.ireturn, 1) := by decide +kernel
theorem dX4_margin_13 : decode cX4_margin 13 = .ok (.iload_n 2, 1) := by decide +kernel
theorem dX4_margin_14 : decode cX4_margin 14 = .ok (.iconst 0, 1) := by decide +kernel
theorem dX4_margin_15 : decode cX4_margin 15 = .ok (.bipush 59, 2) := by decide +kernel
theorem dX4_margin_17 : decode cX4_margin 17 = .ok (.invokestatic 42, 3) := by decide +kernel
theorem dX4_margin_20 : decode cX4_margin 20 = .ok (.ifCond .ne 6, 3) := by decide +kernel
theorem dX4_margin_23 : decode cX4_margin 23 = .ok (.ldc 110, 2) := by decide +kernel
theorem dX4_margin_25 : decode cX4_margin 25 = .ok (.ireturn, 1) := by decide +kernel
theorem dX4_margin_26 : decode cX4_margin 26 = .ok (.aload_n 0, 1) := by decide +kernel
theorem dX4_margin_27 : decode cX4_margin 27 = .ok (.invokevirtual 75, 3) := by decide +kernel
theorem dX4_margin_30 : decode cX4_margin 30 = .ok (.aload_n 0, 1) := by decide +kernel
theorem dX4_margin_31 : decode cX4_margin 31 = .ok (.getfield 29, 3) := by decide +kernel
theorem dX4_margin_34 : decode cX4_margin 34 = .ok (.bipush 61, 2) := by decide +kernel
theorem dX4_margin_36 : decode cX4_margin 36 = .ok (.iload_n 1, 1) := by decide +kernel
theorem dX4_margin_37 : decode cX4_margin 37 = .ok (.imul, 1) := by decide +kernel
theorem dX4_margin_38 : decode cX4_margin 38 = .ok (.iload_n 2, 1) := by decide +kernel
theorem dX4_margin_39 : decode cX4_margin 39 = .ok (.iadd, 1) := by decide +kernel
theorem dX4_margin_40 : decode cX4_margin 40 = .ok (.iaload, 1) := by decide +kernel
theorem dX4_margin_41 : decode cX4_margin 41 = .ok (.istore_n 3, 1) := by decide +kernel
theorem dX4_margin_42 : decode cX4_margin 42 = .ok (.aload_n 0, 1) := by decide +kernel
theorem dX4_margin_43 : decode cX4_margin 43 = .ok (.getfield 29, 3) := by decide +kernel
theorem dX4_margin_46 : decode cX4_margin 46 = .ok (.bipush 61, 2) := by decide +kernel
theorem dX4_margin_48 : decode cX4_margin 48 = .ok (.iload_n 1, 1) := by decide +kernel
theorem dX4_margin_49 : decode cX4_margin 49 = .ok (.imul, 1) := by decide +kernel
theorem dX4_margin_50 : decode cX4_margin 50 = .ok (.iload_n 2, 1) := by decide +kernel
theorem dX4_margin_51 : decode cX4_margin 51 = .ok (.iadd, 1) := by decide +kernel
theorem dX4_margin_52 : decode cX4_margin 52 = .ok (.iconst 1, 1) := by decide +kernel
theorem dX4_margin_53 : decode cX4_margin 53 = .ok (.iadd, 1) := by decide +kernel
theorem dX4_margin_54 : decode cX4_margin 54 = .ok (.iaload, 1) := by decide +kernel
theorem dX4_margin_55 : decode cX4_margin 55 = .ok (.istore 4, 2) := by decide +kernel
theorem dX4_margin_57 : decode cX4_margin 57 = .ok (.iload_n 3, 1) := by decide +kernel
theorem dX4_margin_58 : decode cX4_margin 58 = .ok (.ldc 67, 2) := by decide +kernel
theorem dX4_margin_60 : decode cX4_margin 60 = .ok (.if_icmp .eq 10, 3) := by decide +kernel
theorem dX4_margin_63 : decode cX4_margin 63 = .ok (.iload 4, 2) := by decide +kernel
theorem dX4_margin_65 : decode cX4_margin 65 = .ok (.ldc 67, 2) := by decide +kernel
theorem dX4_margin_67 : decode cX4_margin 67 = .ok (.if_icmp .ne 7, 3) := by decide +kernel
theorem dX4_margin_70 : decode cX4_margin 70 = .ok (.iconst (-1), 1) := by decide +kernel
theorem dX4_margin_71 : decode cX4_margin 71 = .ok (.goto 10, 3) := by decide +kernel
theorem dX4_margin_74 : decode cX4_margin 74 = .ok (.iload 4, 2) := by decide +kernel
theorem dX4_margin_76 : decode cX4_margin 76 = .ok (.iload_n 3, 1) := by decide +kernel
theorem dX4_margin_77 : decode cX4_margin 77 = .ok (.isub, 1) := by decide +kernel
theorem dX4_margin_78 : decode cX4_margin 78 = .ok (.ldc 82, 2) := by decide +kernel
theorem dX4_margin_80 : decode cX4_margin 80 = .ok (.iadd, 1) := by decide +kernel
theorem dX4_margin_81 : decode cX4_margin 81 = .ok (.ireturn, 1) := by decide +kernel
set_option maxRecDepth 20000 in
theorem ggX4_note_X4_bring : GoodIn wsX4_note wsX4_bring := goodIn_r _ [7] (by decide +kernel) (by decide +kernel)
set_option maxRecDepth 20000 in
theorem gX4_note_X4_bring : GoodIn wsX4_note (va_wsS RX4 123 yX4_bring wsX4_bring) := goodIn_app (goodIn_of _ (by decide +kernel)) ggX4_note_X4_bring
theorem dX4_note_0 : decode cX4_note 0 = .ok (.aload_n 0, 1) := by decide +kernel
theorem dX4_note_1 : decode cX4_note 1 = .ok (.getfield 99, 3) := by decide +kernel
theorem dX4_note_4 : decode cX4_note 4 = .ok (.bipush 40, 2) := by decide +kernel
theorem dX4_note_6 : decode cX4_note 6 = .ok (.if_icmp .ne 30, 3) := by decide +kernel
theorem dX4_note_9 : decode cX4_note 9 = .ok (.aload_n 0, 1) := by decide +kernel
theorem dX4_note_10 : decode cX4_note 10 = .ok (.getfield 16, 3) := by decide +kernel
theorem dX4_note_13 : decode cX4_note 13 = .ok (.bipush 93, 2) := by decide +kernel
theorem dX4_note_15 : decode cX4_note 15 = .ok (.aload_n 0, 1) := by decide +kernel
theorem dX4_note_16 : decode cX4_note 16 = .ok (.getfield 16, 3) := by decide +kernel
theorem dX4_note_19 : decode cX4_note 19 = .ok (.iconst 0, 1) := by decide +kernel
theorem dX4_note_20 : decode cX4_note 20 = .ok (.sipush 3627, 3) := by decide +kernel
theorem dX4_note_23 : decode cX4_note 23 = .ok (.invokestatic 123, 3) := by decide +kernel
theorem dX4_note_26 : decode cX4_note 26 = .ok (.aload_n 0, 1) := by decide +kernel
theorem dX4_note_27 : decode cX4_note 27 = .ok (.dup, 1) := by decide +kernel
theorem dX4_note_28 : decode cX4_note 28 = .ok (.getfield 99, 3) := by decide +kernel
theorem dX4_note_31 : decode cX4_note 31 = .ok (.iconst 1, 1) := by decide +kernel
theorem dX4_note_32 : decode cX4_note 32 = .ok (.isub, 1) := by decide +kernel
theorem dX4_note_33 : decode cX4_note 33 = .ok (.putfield 99, 3) := by decide +kernel
theorem dX4_note_36 : decode cX4_note 36 = .ok (.aload_n 0, 1) := by decide +kernel
theorem dX4_note_37 : decode cX4_note 37 = .ok (.getfield 7, 3) := by decide +kernel
theorem dX4_note_40 : decode cX4_note 40 = .ok (.iconst 0, 1) := by decide +kernel
theorem dX4_note_41 : decode cX4_note 41 = .ok (.aload_n 0, 1) := by decide +kernel
theorem dX4_note_42 : decode cX4_note 42 = .ok (.getfield 16, 3) := by decide +kernel
theorem dX4_note_45 : decode cX4_note 45 = .ok (.bipush 93, 2) := by decide +kernel
theorem dX4_note_47 : decode cX4_note 47 = .ok (.aload_n 0, 1) := by decide +kernel
theorem dX4_note_48 : decode cX4_note 48 = .ok (.getfield 99, 3) := by decide +kernel
theorem dX4_note_51 : decode cX4_note 51 = .ok (.imul, 1) := by decide +kernel
theorem dX4_note_52 : decode cX4_note 52 = .ok (.bipush 93, 2) := by decide +kernel
theorem dX4_note_54 : decode cX4_note 54 = .ok (.invokestatic 123, 3) := by decide +kernel
theorem dX4_note_57 : decode cX4_note 57 = .ok (.aload_n 0, 1) := by decide +kernel
theorem dX4_note_58 : decode cX4_note 58 = .ok (.dup, 1) := by decide +kernel
theorem dX4_note_59 : decode cX4_note 59 = .ok (.getfield 99, 3) := by decide +kernel
theorem dX4_note_62 : decode cX4_note 62 = .ok (.iconst 1, 1) := by decide +kernel
theorem dX4_note_63 : decode cX4_note 63 = .ok (.iadd, 1) := by decide +kernel
theorem dX4_note_64 : decode cX4_note 64 = .ok (.putfield 99, 3) := by decide +kernel
theorem dX4_note_67 : decode cX4_note 67 = .ok (.return_, 1) := by decide +kernel
set_option maxRecDepth 20000 in
theorem ggX4_becomes_X4_note : GoodIn wsX4_becomes wsX4_note := goodIn_r _ [6, 7, 8, 1, 9, 10, 5, 11, 59, 60, 61, 62, 63, 64, 65, 66, 67, 68, 69, 70, 71] (by decide +kernel) (by decide +kernel)
set_option maxRecDepth 20000 in
theorem gX4_becomes_X4_note : GoodIn wsX4_becomes (wsV RX4 127 RX4 yX4_note wsX4_note) := goodIn_app (goodIn_of _ (by decide +kernel)) ggX4_becomes_X4_note
set_option maxRecDepth 20000 in
theorem ggX4_becomes_X4_bestOf : GoodIn wsX4_becomes wsX4_bestOf := goodIn_r _ [15, 16, 1, 17, 18, 19, 5, 20, 21, 22, 23, 24, 25, 26, 27, 28, 29, 30, 31, 32, 33, 34, 35, 36, 37, 38, 39, 40, 41, 42, 43, 44, 45, 46, 47, 48, 49, 50, 51, 52, 53, 54, 59, 60, 61, 62, 63, 64, 65, 66, 67, 68, 69, 70, 71] (by decide +kernel) (by decide +kernel)
set_option maxRecDepth 20000 in
theorem gX4_becomes_X4_bestOf : GoodIn wsX4_becomes (wsV RX4 78 RX4 yX4_bestOf wsX4_bestOf) := goodIn_app (goodIn_of _ (by decide +kernel)) ggX4_becomes_X4_bestOf
set_option maxRecDepth 20000 in
theorem ggX4_becomes_X4_shown : GoodIn wsX4_becomes wsX4_shown := goodIn_r _ [57, 26, 58] (by decide +kernel) (by decide +kernel)
set_option maxRecDepth 20000 in
theorem gX4_becomes_X4_shown : GoodIn wsX4_becomes (va_wsS RX4 93 yX4_shown wsX4_shown) := goodIn_app (goodIn_of _ (by decide +kernel)) ggX4_becomes_X4_shown
theorem dX4_becomes_0 : decode cX4_becomes 0 = .ok (.aload_n 0, 1) := by decide +kernel
theorem dX4_becomes_1 : decode cX4_becomes 1 = .ok (.invokevirtual 127, 3) := by decide +kernel
theorem dX4_becomes_4 : decode cX4_becomes 4 = .ok (.aload_n 0, 1) := by decide +kernel
theorem dX4_becomes_5 : decode cX4_becomes 5 = .ok (.getfield 7, 3) := by decide +kernel
theorem dX4_becomes_8 : decode cX4_becomes 8 = .ok (.iload_n 1, 1) := by decide +kernel
theorem dX4_becomes_9 : decode cX4_becomes 9 = .ok (.iload_n 2, 1) := by decide +kernel
theorem dX4_becomes_10 : decode cX4_becomes 10 = .ok (.iastore, 1) := by decide +kernel
theorem dX4_becomes_11 : decode cX4_becomes 11 = .ok (.aload_n 0, 1) := by decide +kernel
theorem dX4_becomes_12 : decode cX4_becomes 12 = .ok (.invokevirtual 78, 3) := by decide +kernel
theorem dX4_becomes_15 : decode cX4_becomes 15 = .ok (.invokestatic 93, 3) := by decide +kernel
theorem dX4_becomes_18 : decode cX4_becomes 18 = .ok (.ireturn, 1) := by decide +kernel
