theorem dX4_init_0 : decode cX4_init 0 = .ok (.aload_n 0, 1) := by decide +kernel
theorem dX4_init_1 : decode cX4_init 1 = .ok (.invokespecial 1, 3) := by decide +kernel
theorem dX4_init_4 : decode cX4_init 4 = .ok (.aload_n 0, 1) := by decide +kernel
theorem dX4_init_5 : decode cX4_init 5 = .ok (.bipush 93, 2) := by decide +kernel
theorem dX4_init_7 : decode cX4_init 7 = .ok (.newarray .int, 2) := by decide +kernel
theorem dX4_init_9 : decode cX4_init 9 = .ok (.putfield 7, 3) := by decide +kernel
theorem dX4_init_12 : decode cX4_init 12 = .ok (.aload_n 0, 1) := by decide +kernel
theorem dX4_init_13 : decode cX4_init 13 = .ok (.bipush 93, 2) := by decide +kernel
theorem dX4_init_15 : decode cX4_init 15 = .ok (.newarray .int, 2) := by decide +kernel
theorem dX4_init_17 : decode cX4_init 17 = .ok (.putfield 13, 3) := by decide +kernel
theorem dX4_init_20 : decode cX4_init 20 = .ok (.aload_n 0, 1) := by decide +kernel
theorem dX4_init_21 : decode cX4_init 21 = .ok (.sipush 3720, 3) := by decide +kernel
theorem dX4_init_24 : decode cX4_init 24 = .ok (.newarray .int, 2) := by decide +kernel
theorem dX4_init_26 : decode cX4_init 26 = .ok (.putfield 16, 3) := by decide +kernel
theorem dX4_init_29 : decode cX4_init 29 = .ok (.aload_n 0, 1) := by decide +kernel
theorem dX4_init_30 : decode cX4_init 30 = .ok (.sipush 186, 3) := by decide +kernel
theorem dX4_init_33 : decode cX4_init 33 = .ok (.newarray .int, 2) := by decide +kernel
theorem dX4_init_35 : decode cX4_init 35 = .ok (.putfield 19, 3) := by decide +kernel
theorem dX4_init_38 : decode cX4_init 38 = .ok (.aload_n 0, 1) := by decide +kernel
theorem dX4_init_39 : decode cX4_init 39 = .ok (.iconst 2, 1) := by decide +kernel
theorem dX4_init_40 : decode cX4_init 40 = .ok (.newarray .int, 2) := by decide +kernel
theorem dX4_init_42 : decode cX4_init 42 = .ok (.putfield 22, 3) := by decide +kernel
theorem dX4_init_45 : decode cX4_init 45 = .ok (.aload_n 0, 1) := by decide +kernel
theorem dX4_init_46 : decode cX4_init 46 = .ok (.iconst 2, 1) := by decide +kernel
theorem dX4_init_47 : decode cX4_init 47 = .ok (.newarray .boolean, 2) := by decide +kernel
theorem dX4_init_49 : decode cX4_init 49 = .ok (.putfield 25, 3) := by decide +kernel
theorem dX4_init_52 : decode cX4_init 52 = .ok (.aload_n 0, 1) := by decide +kernel
theorem dX4_init_53 : decode cX4_init 53 = .ok (.sipush 1525, 3) := by decide +kernel
theorem dX4_init_56 : decode cX4_init 56 = .ok (.newarray .int, 2) := by decide +kernel
theorem dX4_init_58 : decode cX4_init 58 = .ok (.putfield 29, 3) := by decide +kernel
theorem dX4_init_61 : decode cX4_init 61 = .ok (.aload_n 0, 1) := by decide +kernel
theorem dX4_init_62 : decode cX4_init 62 = .ok (.bipush 24, 2) := by decide +kernel
theorem dX4_init_64 : decode cX4_init 64 = .ok (.newarray .int, 2) := by decide +kernel
theorem dX4_init_66 : decode cX4_init 66 = .ok (.putfield 32, 3) := by decide +kernel
theorem dX4_init_69 : decode cX4_init 69 = .ok (.aload_n 0, 1) := by decide +kernel
theorem dX4_init_70 : decode cX4_init 70 = .ok (.iconst (-1), 1) := by decide +kernel
theorem dX4_init_71 : decode cX4_init 71 = .ok (.putfield 35, 3) := by decide +kernel
theorem dX4_init_74 : decode cX4_init 74 = .ok (.aload_n 0, 1) := by decide +kernel
theorem dX4_init_75 : decode cX4_init 75 = .ok (.iconst (-1), 1) := by decide +kernel
theorem dX4_init_76 : decode cX4_init 76 = .ok (.putfield 39, 3) := by decide +kernel
theorem dX4_init_79 : decode cX4_init 79 = .ok (.aload_n 0, 1) := by decide +kernel
theorem dX4_init_80 : decode cX4_init 80 = .ok (.getfield 7, 3) := by decide +kernel
theorem dX4_init_83 : decode cX4_init 83 = .ok (.iconst 2, 1) := by decide +kernel
theorem dX4_init_84 : decode cX4_init 84 = .ok (.iconst 1, 1) := by decide +kernel
theorem dX4_init_85 : decode cX4_init 85 = .ok (.iastore, 1) := by decide +kernel
theorem dX4_init_86 : decode cX4_init 86 = .ok (.aload_n 0, 1) := by decide +kernel
theorem dX4_init_87 : decode cX4_init 87 = .ok (.getfield 7, 3) := by decide +kernel
theorem dX4_init_90 : decode cX4_init 90 = .ok (.iconst 3, 1) := by decide +kernel
theorem dX4_init_91 : decode cX4_init 91 = .ok (.iconst 1, 1) := by decide +kernel
theorem dX4_init_92 : decode cX4_init 92 = .ok (.iastore, 1) := by decide +kernel
theorem dX4_init_93 : decode cX4_init 93 = .ok (.iconst 0, 1) := by decide +kernel
theorem dX4_init_94 : decode cX4_init 94 = .ok (.istore_n 1, 1) := by decide +kernel
theorem dX4_init_95 : decode cX4_init 95 = .ok (.iload_n 1, 1) := by decide +kernel
theorem dX4_init_96 : decode cX4_init 96 = .ok (.bipush 24, 2) := by decide +kernel
theorem dX4_init_98 : decode cX4_init 98 = .ok (.if_icmp .ge 20, 3) := by decide +kernel
theorem dX4_init_101 : decode cX4_init 101 = .ok (.aload_n 0, 1) := by decide +kernel
theorem dX4_init_102 : decode cX4_init 102 = .ok (.getfield 7, 3) := by decide +kernel
theorem dX4_init_105 : decode cX4_init 105 = .ok (.bipush 68, 2) := by decide +kernel
theorem dX4_init_107 : decode cX4_init 107 = .ok (.iload_n 1, 1) := by decide +kernel
theorem dX4_init_108 : decode cX4_init 108 = .ok (.iadd, 1) := by decide +kernel
theorem dX4_init_109 : decode cX4_init 109 = .ok (.bipush 10, 2) := by decide +kernel
theorem dX4_init_111 : decode cX4_init 111 = .ok (.iastore, 1) := by decide +kernel
theorem dX4_init_112 : decode cX4_init 112 = .ok (.iinc 1 1, 3) := by decide +kernel
theorem dX4_init_115 : decode cX4_init 115 = .ok (.goto (-20), 3) := by decide +kernel
theorem dX4_init_118 : decode cX4_init 118 = .ok (.return_, 1) := by decide +kernel
theorem dX4_in_0 : decode cX4_in 0 = .ok (.iload_n 0, 1) := by decide +kernel
theorem dX4_in_1 : decode cX4_in 1 = .ok (.iload_n 1, 1) := by decide +kernel
theorem dX4_in_2 : decode cX4_in 2 = .ok (.if_icmp .lt 12, 3) := by decide +kernel
theorem dX4_in_5 : decode cX4_in 5 = .ok (.iload_n 0, 1) := by decide +kernel
theorem dX4_in_6 : decode cX4_in 6 = .ok (.iload_n 2, 1) := by decide +kernel
theorem dX4_in_7 : decode cX4_in 7 = .ok (.if_icmp .gt 7, 3) := by decide +kernel
theorem dX4_in_10 : decode cX4_in 10 = .ok (.iconst 1, 1) := by decide +kernel
theorem dX4_in_11 : decode cX4_in 11 = .ok (.goto 4, 3) := by decide +kernel
theorem dX4_in_14 : decode cX4_in 14 = .ok (.iconst 0, 1) := by decide +kernel
theorem dX4_in_15 : decode cX4_in 15 = .ok (.ireturn, 1) := by decide +kernel
theorem dX4_bring_0 : decode cX4_bring 0 = .ok (.iconst 0, 1) := by decide +kernel
theorem dX4_bring_1 : decode cX4_bring 1 = .ok (.istore 5, 2) := by decide +kernel
theorem dX4_bring_3 : decode cX4_bring 3 = .ok (.iload 5, 2) := by decide +kernel
theorem dX4_bring_5 : decode cX4_bring 5 = .ok (.iload 4, 2) := by decide +kernel
theorem dX4_bring_7 : decode cX4_bring 7 = .ok (.if_icmp .ge 21, 3) := by decide +kernel
theorem dX4_bring_10 : decode cX4_bring 10 = .ok (.aload_n 2, 1) := by decide +kernel
theorem dX4_bring_11 : decode cX4_bring 11 = .ok (.iload_n 3, 1) := by decide +kernel
theorem dX4_bring_12 : decode cX4_bring 12 = .ok (.iload 5, 2) := by decide +kernel
theorem dX4_bring_14 : decode cX4_bring 14 = .ok (.iadd, 1) := by decide +kernel
theorem dX4_bring_15 : decode cX4_bring 15 = .ok (.aload_n 0, 1) := by decide +kernel
theorem dX4_bring_16 : decode cX4_bring 16 = .ok (.iload_n 1, 1) := by decide +kernel
theorem dX4_bring_17 : decode cX4_bring 17 = .ok (.iload 5, 2) := by decide +kernel
theorem dX4_bring_19 : decode cX4_bring 19 = .ok (.iadd, 1) := by decide +kernel
theorem dX4_bring_20 : decode cX4_bring 20 = .ok (.iaload, 1) := by decide +kernel
theorem dX4_bring_21 : decode cX4_bring 21 = .ok (.iastore, 1) := by decide +kernel
theorem dX4_bring_22 : decode cX4_bring 22 = .ok (.iinc 5 1, 3) := by decide +kernel
theorem dX4_bring_25 : decode cX4_bring 25 = .ok (.goto (-22), 3) := by decide +kernel
theorem dX4_bring_28 : decode cX4_bring 28 = .ok (.return_, 1) := by decide +kernel
set_option maxRecDepth 20000 in
theorem ggX4_isHour_X4_in : GoodIn wsX4_isHour wsX4_in := goodIn_r _ [4] (by decide +kernel) (by decide +kernel)
set_option maxRecDepth 20000 in
theorem gX4_isHour_X4_in : GoodIn wsX4_isHour (va_wsS RX4 42 yX4_in wsX4_in) := goodIn_app (goodIn_of _ (by decide +kernel)) ggX4_isHour_X4_in
theorem dX4_isHour_0 : decode cX4_isHour 0 = .ok (.iload_n 0, 1) := by decide +kernel
theorem dX4_isHour_1 : decode cX4_isHour 1 = .ok (.iconst 0, 1) := by decide +kernel
theorem dX4_isHour_2 : decode cX4_isHour 2 = .ok (.bipush 23, 2) := by decide +kernel
theorem dX4_isHour_4 : decode cX4_isHour 4 = .ok (.invokestatic 42, 3) := by decide +kernel
theorem dX4_isHour_7 : decode cX4_isHour 7 = .ok (.ireturn, 1) := by decide +kernel
set_option maxRecDepth 20000 in
theorem ggX4_isOf_X4_in : GoodIn wsX4_isOf wsX4_in := goodIn_r _ [5] (by decide +kernel) (by decide +kernel)
set_option maxRecDepth 20000 in
theorem gX4_isOf_X4_in : GoodIn wsX4_isOf (va_wsS RX4 42 yX4_in wsX4_in) := goodIn_app (goodIn_of _ (by decide +kernel)) ggX4_isOf_X4_in
theorem dX4_isOf_0 : decode cX4_isOf 0 = .ok (.iload_n 2, 1) := by decide +kernel
theorem dX4_isOf_1 : decode cX4_isOf 1 = .ok (.aload_n 0, 1) := by decide +kernel
theorem dX4_isOf_2 : decode cX4_isOf 2 = .ok (.getfield 7, 3) := by decide +kernel
theorem dX4_isOf_5 : decode cX4_isOf 5 = .ok (.bipush 8, 2) := by decide +kernel
theorem dX4_isOf_7 : decode cX4_isOf 7 = .ok (.iconst 5, 1) := by decide +kernel
theorem dX4_isOf_8 : decode cX4_isOf 8 = .ok (.iload_n 1, 1) := by decide +kernel
theorem dX4_isOf_9 : decode cX4_isOf 9 = .ok (.imul, 1) := by decide +kernel
theorem dX4_isOf_10 : decode cX4_isOf 10 = .ok (.iadd, 1) := by decide +kernel
theorem dX4_isOf_11 : decode cX4_isOf 11 = .ok (.iaload, 1) := by decide +kernel
theorem dX4_isOf_12 : decode cX4_isOf 12 = .ok (.aload_n 0, 1) := by decide +kernel
theorem dX4_isOf_13 : decode cX4_isOf 13 = .ok (.getfield 7, 3) := by decide +kernel
theorem dX4_isOf_16 : decode cX4_isOf 16 = .ok (.bipush 8, 2) := by decide +kernel
theorem dX4_isOf_18 : decode cX4_isOf 18 = .ok (.iconst 5, 1) := by decide +kernel
theorem dX4_isOf_19 : decode cX4_isOf 19 = .ok (.iload_n 1, 1) := by decide +kernel
theorem dX4_isOf_20 : decode cX4_isOf 20 = .ok (.imul, 1) := by decide +kernel
theorem dX4_isOf_21 : decode cX4_isOf 21 = .ok (.iadd, 1) := by decide +kernel
theorem dX4_isOf_22 : decode cX4_isOf 22 = .ok (.iconst 1, 1) := by decide +kernel
theorem dX4_isOf_23 : decode cX4_isOf 23 = .ok (.iadd, 1) := by decide +kernel
theorem dX4_isOf_24 : decode cX4_isOf 24 = .ok (.iaload, 1) := by decide +kernel
theorem dX4_isOf_25 : decode cX4_isOf 25 = .ok (.invokestatic 42, 3) := by decide +kernel
theorem dX4_isOf_28 : decode cX4_isOf 28 = .ok (.ireturn, 1) := by decide +kernel
theorem dX4_away_0 : decode cX4_away 0 = .ok (.iload_n 0, 1) := by decide +kernel
theorem dX4_away_1 : decode cX4_away 1 = .ok (.ifCond .ge 8, 3) := by decide +kernel
theorem dX4_away_4 : decode cX4_away 4 = .ok (.iload_n 0, 1) := by decide +kernel
theorem dX4_away_5 : decode cX4_away 5 = .ok (.ineg, 1) := by decide +kernel
theorem dX4_away_6 : decode cX4_away 6 = .ok (.goto 4, 3) := by decide +kernel
theorem dX4_away_9 : decode cX4_away 9 = .ok (.iload_n 0, 1) := by decide +kernel
theorem dX4_away_10 : decode cX4_away 10 = .ok (.ireturn, 1) := by decide +kernel
set_option maxRecDepth 20000 in
theorem ggX4_lawPrice_X4_away : GoodIn wsX4_lawPrice wsX4_away := goodIn_r _ [5] (by decide +kernel) (by decide +kernel)
set_option maxRecDepth 20000 in
theorem gX4_lawPrice_X4_away : GoodIn wsX4_lawPrice (va_wsS RX4 46 yX4_away wsX4_away) := goodIn_app (goodIn_of _ (by decide +kernel)) ggX4_lawPrice_X4_away
theorem dX4_lawPrice_0 : decode cX4_lawPrice 0 = .ok (.bipush 8, 2) := by decide +kernel
theorem dX4_lawPrice_2 : decode cX4_lawPrice 2 = .ok (.iconst 5, 1) := by decide +kernel
theorem dX4_lawPrice_3 : decode cX4_lawPrice 3 = .ok (.iload_n 1, 1) := by decide +kernel
theorem dX4_lawPrice_4 : decode cX4_lawPrice 4 = .ok (.imul, 1) := by decide +kernel
theorem dX4_lawPrice_5 : decode cX4_lawPrice 5 = .ok (.iadd, 1) := by decide +kernel
theorem dX4_lawPrice_6 : decode cX4_lawPrice 6 = .ok (.istore 4, 2) := by decide +kernel
theorem dX4_lawPrice_8 : decode cX4_lawPrice 8 = .ok (.aload_n 0, 1) := by decide +kernel
theorem dX4_lawPrice_9 : decode cX4_lawPrice 9 = .ok (.getfield 7, 3) := by decide +kernel
theorem dX4_lawPrice_12 : decode cX4_lawPrice 12 = .ok (.iload 4, 2) := by decide +kernel
theorem dX4_lawPrice_14 : decode cX4_lawPrice 14 = .ok (.iconst 3, 1) := by decide +kernel
theorem dX4_lawPrice_15 : decode cX4_lawPrice 15 = .ok (.iadd, 1) := by decide +kernel
theorem dX4_lawPrice_16 : decode cX4_lawPrice 16 = .ok (.iaload, 1) := by decide +kernel
theorem dX4_lawPrice_17 : decode cX4_lawPrice 17 = .ok (.istore 5, 2) := by decide +kernel
theorem dX4_lawPrice_19 : decode cX4_lawPrice 19 = .ok (.aload_n 0, 1) := by decide +kernel
theorem dX4_lawPrice_20 : decode cX4_lawPrice 20 = .ok (.getfield 7, 3) := by decide +kernel
theorem dX4_lawPrice_23 : decode cX4_lawPrice 23 = .ok (.iload 4, 2) := by decide +kernel
theorem dX4_lawPrice_25 : decode cX4_lawPrice 25 = .ok (.iconst 4, 1) := by decide +kernel
theorem dX4_lawPrice_26 : decode cX4_lawPrice 26 = .ok (.iadd, 1) := by decide +kernel
theorem dX4_lawPrice_27 : decode cX4_lawPrice 27 = .ok (.iaload, 1) := by decide +kernel
theorem dX4_lawPrice_28 : decode cX4_lawPrice 28 = .ok (.istore 6, 2) := by decide +kernel
theorem dX4_lawPrice_30 : decode cX4_lawPrice 30 = .ok (.aload_n 0, 1) := by decide +kernel
theorem dX4_lawPrice_31 : decode cX4_lawPrice 31 = .ok (.getfield 7, 3) := by decide +kernel
theorem dX4_lawPrice_34 : decode cX4_lawPrice 34 = .ok (.iload 4, 2) := by decide +kernel
theorem dX4_lawPrice_36 : decode cX4_lawPrice 36 = .ok (.iconst 2, 1) := by decide +kernel
theorem dX4_lawPrice_37 : decode cX4_lawPrice 37 = .ok (.iadd, 1) := by decide +kernel
theorem dX4_lawPrice_38 : decode cX4_lawPrice 38 = .ok (.iaload, 1) := by decide +kernel
theorem dX4_lawPrice_39 : decode cX4_lawPrice 39 = .ok (.tableswitch 101 0 3 #[29, 32, 48, 70], 29) := by decide +kernel
theorem dX4_lawPrice_68 : decode cX4_lawPrice 68 = .ok (.iload 5, 2) := by decide +kernel
theorem dX4_lawPrice_70 : decode cX4_lawPrice 70 = .ok (.ireturn, 1) := by decide +kernel
theorem dX4_lawPrice_71 : decode cX4_lawPrice 71 = .ok (.iload 5, 2) := by decide +kernel
theorem dX4_lawPrice_73 : decode cX4_lawPrice 73 = .ok (.iload 6, 2) := by decide +kernel
theorem dX4_lawPrice_75 : decode cX4_lawPrice 75 = .ok (.iload_n 2, 1) := by decide +kernel
theorem dX4_lawPrice_76 : decode cX4_lawPrice 76 = .ok (.aload_n 0, 1) := by decide +kernel
theorem dX4_lawPrice_77 : decode cX4_lawPrice 77 = .ok (.getfield 7, 3) := by decide +kernel
theorem dX4_lawPrice_80 : decode cX4_lawPrice 80 = .ok (.iload 4, 2) := by decide +kernel
theorem dX4_lawPrice_82 : decode cX4_lawPrice 82 = .ok (.iaload, 1) := by decide +kernel
theorem dX4_lawPrice_83 : decode cX4_lawPrice 83 = .ok (.isub, 1) := by decide +kernel
theorem dX4_lawPrice_84 : decode cX4_lawPrice 84 = .ok (.imul, 1) := by decide +kernel
theorem dX4_lawPrice_85 : decode cX4_lawPrice 85 = .ok (.iadd, 1) := by decide +kernel
theorem dX4_lawPrice_86 : decode cX4_lawPrice 86 = .ok (.ireturn, 1) := by decide +kernel
theorem dX4_lawPrice_87 : decode cX4_lawPrice 87 = .ok (.iload_n 2, 1) := by decide +kernel
theorem dX4_lawPrice_88 : decode cX4_lawPrice 88 = .ok (.aload_n 0, 1) := by decide +kernel
theorem dX4_lawPrice_89 : decode cX4_lawPrice 89 = .ok (.getfield 7, 3) := by decide +kernel
theorem dX4_lawPrice_92 : decode cX4_lawPrice 92 = .ok (.iload 4, 2) := by decide +kernel
theorem dX4_lawPrice_94 : decode cX4_lawPrice 94 = .ok (.iaload, 1) := by decide +kernel
theorem dX4_lawPrice_95 : decode cX4_lawPrice 95 = .ok (.isub, 1) := by decide +kernel
theorem dX4_lawPrice_96 : decode cX4_lawPrice 96 = .ok (.iconst 2, 1) := by decide +kernel
theorem dX4_lawPrice_97 : decode cX4_lawPrice 97 = .ok (.irem, 1) := by decide +kernel
theorem dX4_lawPrice_98 : decode cX4_lawPrice 98 = .ok (.ifCond .ne 8, 3) := by decide +kernel
theorem dX4_lawPrice_101 : decode cX4_lawPrice 101 = .ok (.iload 5, 2) := by decide +kernel
theorem dX4_lawPrice_103 : decode cX4_lawPrice 103 = .ok (.goto 5, 3) := by decide +kernel
theorem dX4_lawPrice_106 : decode cX4_lawPrice 106 = .ok (.iload 6, 2) := by decide +kernel
theorem dX4_lawPrice_108 : decode cX4_lawPrice 108 = .ok (.ireturn, 1) := by decide +kernel
theorem dX4_lawPrice_109 : decode cX4_lawPrice 109 = .ok (.iload 5, 2) := by decide +kernel
theorem dX4_lawPrice_111 : decode cX4_lawPrice 111 = .ok (.iload 6, 2) := by decide +kernel
theorem dX4_lawPrice_113 : decode cX4_lawPrice 113 = .ok (.iconst 2, 1) := by decide +kernel
theorem dX4_lawPrice_114 : decode cX4_lawPrice 114 = .ok (.iload_n 2, 1) := by decide +kernel
theorem dX4_lawPrice_115 : decode cX4_lawPrice 115 = .ok (.imul, 1) := by decide +kernel
theorem dX4_lawPrice_116 : decode cX4_lawPrice 116 = .ok (.aload_n 0, 1) := by decide +kernel
theorem dX4_lawPrice_117 : decode cX4_lawPrice 117 = .ok (.getfield 7, 3) := by decide +kernel
theorem dX4_lawPrice_120 : decode cX4_lawPrice 120 = .ok (.iload 4, 2) := by decide +kernel
theorem dX4_lawPrice_122 : decode cX4_lawPrice 122 = .ok (.iaload, 1) := by decide +kernel
theorem dX4_lawPrice_123 : decode cX4_lawPrice 123 = .ok (.isub, 1) := by decide +kernel
theorem dX4_lawPrice_124 : decode cX4_lawPrice 124 = .ok (.aload_n 0, 1) := by decide +kernel
theorem dX4_lawPrice_125 : decode cX4_lawPrice 125 = .ok (.getfield 7, 3) := by decide +kernel
theorem dX4_lawPrice_128 : decode cX4_lawPrice 128 = .ok (.iload 4, 2) := by decide +kernel
theorem dX4_lawPrice_130 : decode cX4_lawPrice 130 = .ok (.iconst 1, 1) := by decide +kernel
theorem dX4_lawPrice_131 : decode cX4_lawPrice 131 = .ok (.iadd, 1) := by decide +kernel
theorem dX4_lawPrice_132 : decode cX4_lawPrice 132 = .ok (.iaload, 1) := by decide +kernel
theorem dX4_lawPrice_133 : decode cX4_lawPrice 133 = .ok (.isub, 1) := by decide +kernel
theorem dX4_lawPrice_134 : decode cX4_lawPrice 134 = .ok (.invokestatic 46, 3) := by decide +kernel
theorem dX4_lawPrice_137 : decode cX4_lawPrice 137 = .ok (.imul, 1) := by decide +kernel
theorem dX4_lawPrice_138 : decode cX4_lawPrice 138 = .ok (.iadd, 1) := by decide +kernel
theorem dX4_lawPrice_139 : decode cX4_lawPrice 139 = .ok (.ireturn, 1) := by decide +kernel
theorem dX4_lawPrice_140 : decode cX4_lawPrice 140 = .ok (.iload 5, 2) := by decide +kernel
theorem dX4_lawPrice_142 : decode cX4_lawPrice 142 = .ok (.iload_n 3, 1) := by decide +kernel
theorem dX4_lawPrice_143 : decode cX4_lawPrice 143 = .ok (.if_icmp .ge 8, 3) := by decide +kernel
theorem dX4_lawPrice_146 : decode cX4_lawPrice 146 = .ok (.iload 5, 2) := by decide +kernel
theorem dX4_lawPrice_148 : decode cX4_lawPrice 148 = .ok (.goto 7, 3) := by decide +kernel
theorem dX4_lawPrice_151 : decode cX4_lawPrice 151 = .ok (.iload_n 3, 1) := by decide +kernel
theorem dX4_lawPrice_152 : decode cX4_lawPrice 152 = .ok (.iload 6, 2) := by decide +kernel
theorem dX4_lawPrice_154 : decode cX4_lawPrice 154 = .ok (.iadd, 1) := by decide +kernel
theorem dX4_lawPrice_155 : decode cX4_lawPrice 155 = .ok (.ireturn, 1) := by decide +kernel
set_option maxRecDepth 20000 in
theorem ggX4_toldPrice_X4_isOf : GoodIn wsX4_toldPrice wsX4_isOf := goodIn_r _ [6, 1, 7, 8, 5, 9, 17, 18, 19, 20, 21, 22, 23, 24, 25, 26, 27, 28, 29] (by decide +kernel) (by decide +kernel)
set_option maxRecDepth 20000 in
theorem gX4_toldPrice_X4_isOf : GoodIn wsX4_toldPrice (wsV RX4 50 RX4 yX4_isOf wsX4_isOf) := goodIn_app (goodIn_of _ (by decide +kernel)) ggX4_toldPrice_X4_isOf
set_option maxRecDepth 20000 in
theorem ggX4_toldPrice_X4_lawPrice : GoodIn wsX4_toldPrice wsX4_lawPrice := goodIn_r _ [13, 1, 14, 15, 5, 16, 17, 18, 19, 20, 21, 22, 23, 24, 25, 26, 27, 28, 29] (by decide +kernel) (by decide +kernel)
set_option maxRecDepth 20000 in
theorem gX4_toldPrice_X4_lawPrice : GoodIn wsX4_toldPrice (wsV RX4 54 RX4 yX4_lawPrice wsX4_lawPrice) := goodIn_app (goodIn_of _ (by decide +kernel)) ggX4_toldPrice_X4_lawPrice
theorem dX4_toldPrice_0 : decode cX4_toldPrice 0 = .ok (.iconst 0, 1) := by decide +kernel
theorem dX4_toldPrice_1 : decode cX4_toldPrice 1 = .ok (.istore_n 2, 1) := by decide +kernel
theorem dX4_toldPrice_2 : decode cX4_toldPrice 2 = .ok (.iconst 0, 1) := by decide +kernel
theorem dX4_toldPrice_3 : decode cX4_toldPrice 3 = .ok (.istore_n 3, 1) := by decide +kernel
theorem dX4_toldPrice_4 : decode cX4_toldPrice 4 = .ok (.iload_n 3, 1) := by decide +kernel
theorem dX4_toldPrice_5 : decode cX4_toldPrice 5 = .ok (.aload_n 0, 1) := by decide +kernel
theorem dX4_toldPrice_6 : decode cX4_toldPrice 6 = .ok (.getfield 7, 3) := by decide +kernel
theorem dX4_toldPrice_9 : decode cX4_toldPrice 9 = .ok (.bipush 7, 2) := by decide +kernel
theorem dX4_toldPrice_11 : decode cX4_toldPrice 11 = .ok (.iaload, 1) := by decide +kernel
theorem dX4_toldPrice_12 : decode cX4_toldPrice 12 = .ok (.if_icmp .ge 30, 3) := by decide +kernel
theorem dX4_toldPrice_15 : decode cX4_toldPrice 15 = .ok (.aload_n 0, 1) := by decide +kernel
theorem dX4_toldPrice_16 : decode cX4_toldPrice 16 = .ok (.iload_n 3, 1) := by decide +kernel
theorem dX4_toldPrice_17 : decode cX4_toldPrice 17 = .ok (.iload_n 1, 1) := by decide +kernel
theorem dX4_toldPrice_18 : decode cX4_toldPrice 18 = .ok (.invokevirtual 50, 3) := by decide +kernel
theorem dX4_toldPrice_21 : decode cX4_toldPrice 21 = .ok (.ifCond .eq 13, 3) := by decide +kernel
theorem dX4_toldPrice_24 : decode cX4_toldPrice 24 = .ok (.aload_n 0, 1) := by decide +kernel
theorem dX4_toldPrice_25 : decode cX4_toldPrice 25 = .ok (.iload_n 3, 1) := by decide +kernel
theorem dX4_toldPrice_26 : decode cX4_toldPrice 26 = .ok (.iload_n 1, 1) := by decide +kernel
theorem dX4_toldPrice_27 : decode cX4_toldPrice 27 = .ok (.iload_n 2, 1) := by decide +kernel
theorem dX4_toldPrice_28 : decode cX4_toldPrice 28 = .ok (.invokevirtual 54, 3) := by decide +kernel
theorem dX4_toldPrice_31 : decode cX4_toldPrice 31 = .ok (.goto 4, 3) := by decide +kernel
theorem dX4_toldPrice_34 : decode cX4_toldPrice 34 = .ok (.iload_n 2, 1) := by decide +kernel
theorem dX4_toldPrice_35 : decode cX4_toldPrice 35 = .ok (.istore_n 2, 1) := by decide +kernel
theorem dX4_toldPrice_36 : decode cX4_toldPrice 36 = .ok (.iinc 3 1, 3) := by decide +kernel
theorem dX4_toldPrice_39 : decode cX4_toldPrice 39 = .ok (.goto (-35), 3) := by decide +kernel
theorem dX4_toldPrice_42 : decode cX4_toldPrice 42 = .ok (.iload_n 2, 1) := by decide +kernel
theorem dX4_toldPrice_43 : decode cX4_toldPrice 43 = .ok (.ireturn, 1) := by decide +kernel
set_option maxRecDepth 20000 in
theorem ggX4_priceOf_X4_toldPrice : GoodIn wsX4_priceOf wsX4_toldPrice := goodIn_r _ [7, 8, 9, 10, 11, 6, 12, 13, 14, 15, 16, 17, 18, 19, 20, 21, 22, 23, 24, 25, 26, 27, 28, 29, 30, 31, 32, 33, 34, 35] (by decide +kernel) (by decide +kernel)
set_option maxRecDepth 20000 in
theorem gX4_priceOf_X4_toldPrice : GoodIn wsX4_priceOf (wsV RX4 61 RX4 yX4_toldPrice wsX4_toldPrice) := goodIn_app (goodIn_of _ (by decide +kernel)) ggX4_priceOf_X4_toldPrice
theorem dX4_priceOf_0 : decode cX4_priceOf 0 = .ok (.iload_n 1, 1) := by decide +kernel
theorem dX4_priceOf_1 : decode cX4_priceOf 1 = .ok (.aload_n 0, 1) := by decide +kernel
theorem dX4_priceOf_2 : decode cX4_priceOf 2 = .ok (.getfield 39, 3) := by decide +kernel
theorem dX4_priceOf_5 : decode cX4_priceOf 5 = .ok (.if_icmp .ne 10, 3) := by decide +kernel
theorem dX4_priceOf_8 : decode cX4_priceOf 8 = .ok (.aload_n 0, 1) := by decide +kernel
theorem dX4_priceOf_9 : decode cX4_priceOf 9 = .ok (.getfield 58, 3) := by decide +kernel
theorem dX4_priceOf_12 : decode cX4_priceOf 12 = .ok (.goto 8, 3) := by decide +kernel
theorem dX4_priceOf_15 : decode cX4_priceOf 15 = .ok (.aload_n 0, 1) := by decide +kernel
theorem dX4_priceOf_16 : decode cX4_priceOf 16 = .ok (.iload_n 1, 1) := by decide +kernel
theorem dX4_priceOf_17 : decode cX4_priceOf 17 = .ok (.invokevirtual 61, 3) := by decide +kernel
theorem dX4_priceOf_20 : decode cX4_priceOf 20 = .ok (.ireturn, 1) := by decide +kernel
set_option maxRecDepth 20000 in
theorem ggX4_lawOf_X4_isOf : GoodIn wsX4_lawOf wsX4_isOf := goodIn_r _ [6, 1, 7, 8, 5, 9, 10, 11, 12, 13, 14, 15, 16, 17, 18, 19, 20, 21, 22] (by decide +kernel) (by decide +kernel)
set_option maxRecDepth 20000 in
theorem gX4_lawOf_X4_isOf : GoodIn wsX4_lawOf (wsV RX4 50 RX4 yX4_isOf wsX4_isOf) := goodIn_app (goodIn_of _ (by decide +kernel)) ggX4_lawOf_X4_isOf
theorem dX4_lawOf_0 : decode cX4_lawOf 0 = .ok (.iconst (-1), 1) := by decide +kernel
theorem dX4_lawOf_1 : decode cX4_lawOf 1 = .ok (.istore_n 2, 1) := by decide +kernel
theorem dX4_lawOf_2 : decode cX4_lawOf 2 = .ok (.iconst 0, 1) := by decide +kernel
theorem dX4_lawOf_3 : decode cX4_lawOf 3 = .ok (.istore_n 3, 1) := by decide +kernel
theorem dX4_lawOf_4 : decode cX4_lawOf 4 = .ok (.iload_n 3, 1) := by decide +kernel
theorem dX4_lawOf_5 : decode cX4_lawOf 5 = .ok (.aload_n 0, 1) := by decide +kernel
theorem dX4_lawOf_6 : decode cX4_lawOf 6 = .ok (.getfield 7, 3) := by decide +kernel
theorem dX4_lawOf_9 : decode cX4_lawOf 9 = .ok (.bipush 7, 2) := by decide +kernel
theorem dX4_lawOf_11 : decode cX4_lawOf 11 = .ok (.iaload, 1) := by decide +kernel
theorem dX4_lawOf_12 : decode cX4_lawOf 12 = .ok (.if_icmp .ge 24, 3) := by decide +kernel
theorem dX4_lawOf_15 : decode cX4_lawOf 15 = .ok (.aload_n 0, 1) := by decide +kernel
theorem dX4_lawOf_16 : decode cX4_lawOf 16 = .ok (.iload_n 3, 1) := by decide +kernel
theorem dX4_lawOf_17 : decode cX4_lawOf 17 = .ok (.iload_n 1, 1) := by decide +kernel
theorem dX4_lawOf_18 : decode cX4_lawOf 18 = .ok (.invokevirtual 50, 3) := by decide +kernel
theorem dX4_lawOf_21 : decode cX4_lawOf 21 = .ok (.ifCond .eq 7, 3) := by decide +kernel
theorem dX4_lawOf_24 : decode cX4_lawOf 24 = .ok (.iload_n 3, 1) := by decide +kernel
theorem dX4_lawOf_25 : decode cX4_lawOf 25 = .ok (.goto 4, 3) := by decide +kernel
theorem dX4_lawOf_28 : decode cX4_lawOf 28 = .ok (.iload_n 2, 1) := by decide +kernel
theorem dX4_lawOf_29 : decode cX4_lawOf 29 = .ok (.istore_n 2, 1) := by decide +kernel
theorem dX4_lawOf_30 : decode cX4_lawOf 30 = .ok (.iinc 3 1, 3) := by decide +kernel
theorem dX4_lawOf_33 : decode cX4_lawOf 33 = .ok (.goto (-29), 3) := by decide +kernel
theorem dX4_lawOf_36 : decode cX4_lawOf 36 = .ok (.iload_n 2, 1) := by decide +kernel
theorem dX4_lawOf_37 : decode cX4_lawOf 37 = .ok (.ireturn, 1) := by decide +kernel
theorem dX4_brings_0 : decode cX4_brings 0 = .ok (.iload_n 3, 1) := by decide +kernel
theorem dX4_brings_1 : decode cX4_brings 1 = .ok (.iload_n 2, 1) := by decide +kernel
theorem dX4_brings_2 : decode cX4_brings 2 = .ok (.if_icmp .le 12, 3) := by decide +kernel
theorem dX4_brings_5 : decode cX4_brings 5 = .ok (.iload_n 1, 1) := by decide +kernel
theorem dX4_brings_6 : decode cX4_brings 6 = .ok (.ineg, 1) := by decide +kernel
theorem dX4_brings_7 : decode cX4_brings 7 = .ok (.iload_n 3, 1) := by decide +kernel
theorem dX4_brings_8 : decode cX4_brings 8 = .ok (.iload_n 2, 1) := by decide +kernel
theorem dX4_brings_9 : decode cX4_brings 9 = .ok (.isub, 1) := by decide +kernel
theorem dX4_brings_10 : decode cX4_brings 10 = .ok (.imul, 1) := by decide +kernel
theorem dX4_brings_11 : decode cX4_brings 11 = .ok (.goto 16, 3) := by decide +kernel
theorem dX4_brings_14 : decode cX4_brings 14 = .ok (.iload_n 1, 1) := by decide +kernel
theorem dX4_brings_15 : decode cX4_brings 15 = .ok (.aload_n 0, 1) := by decide +kernel
theorem dX4_brings_16 : decode cX4_brings 16 = .ok (.getfield 7, 3) := by decide +kernel
theorem dX4_brings_19 : decode cX4_brings 19 = .ok (.bipush 6, 2) := by decide +kernel
theorem dX4_brings_21 : decode cX4_brings 21 = .ok (.iaload, 1) := by decide +kernel
theorem dX4_brings_22 : decode cX4_brings 22 = .ok (.isub, 1) := by decide +kernel
theorem dX4_brings_23 : decode cX4_brings 23 = .ok (.iload_n 2, 1) := by decide +kernel
theorem dX4_brings_24 : decode cX4_brings 24 = .ok (.iload_n 3, 1) := by decide +kernel
theorem dX4_brings_25 : decode cX4_brings 25 = .ok (.isub, 1) := by decide +kernel
theorem dX4_brings_26 : decode cX4_brings 26 = .ok (.imul, 1) := by decide +kernel
theorem dX4_brings_27 : decode cX4_brings 27 = .ok (.istore 4, 2) := by decide +kernel
theorem dX4_brings_29 : decode cX4_brings 29 = .ok (.iload 4, 2) := by decide +kernel
theorem dX4_brings_31 : decode cX4_brings 31 = .ok (.aload_n 0, 1) := by decide +kernel
theorem dX4_brings_32 : decode cX4_brings 32 = .ok (.getfield 7, 3) := by decide +kernel
theorem dX4_brings_35 : decode cX4_brings 35 = .ok (.iconst 4, 1) := by decide +kernel
theorem dX4_brings_36 : decode cX4_brings 36 = .ok (.iaload, 1) := by decide +kernel
theorem dX4_brings_37 : decode cX4_brings 37 = .ok (.iload_n 3, 1) := by decide +kernel
theorem dX4_brings_38 : decode cX4_brings 38 = .ok (.imul, 1) := by decide +kernel
theorem dX4_brings_39 : decode cX4_brings 39 = .ok (.isub, 1) := by decide +kernel
theorem dX4_brings_40 : decode cX4_brings 40 = .ok (.ireturn, 1) := by decide +kernel
set_option maxRecDepth 20000 in
theorem ggX4_layHour_X4_priceOf : GoodIn wsX4_layHour wsX4_priceOf := goodIn_r _ [9, 10, 11, 12, 13, 14, 8, 15, 2, 16, 17, 18, 19, 20, 21, 22, 23, 24, 25, 26, 27, 28, 29, 34, 35, 36, 37, 38, 39, 40, 41, 42, 43, 44, 45, 46] (by decide +kernel) (by decide +kernel)
set_option maxRecDepth 20000 in
theorem gX4_layHour_X4_priceOf : GoodIn wsX4_layHour (wsV RX4 64 RX4 yX4_priceOf wsX4_priceOf) := goodIn_app (goodIn_of _ (by decide +kernel)) ggX4_layHour_X4_priceOf
set_option maxRecDepth 20000 in
theorem ggX4_layHour_X4_brings : GoodIn wsX4_layHour wsX4_brings := goodIn_r _ [33, 2, 34, 35, 36, 37, 38, 39, 40, 41, 42, 43, 44, 45, 46] (by decide +kernel) (by decide +kernel)
set_option maxRecDepth 20000 in
theorem gX4_layHour_X4_brings : GoodIn wsX4_layHour (wsV RX4 68 RX4 yX4_brings wsX4_brings) := goodIn_app (goodIn_of _ (by decide +kernel)) ggX4_layHour_X4_brings
theorem dX4_layHour_0 : decode cX4_layHour 0 = .ok (.aload_n 0, 1) := by decide +kernel
theorem dX4_layHour_1 : decode cX4_layHour 1 = .ok (.iload_n 1, 1) := by decide +kernel
theorem dX4_layHour_2 : decode cX4_layHour 2 = .ok (.invokevirtual 64, 3) := by decide +kernel
theorem dX4_layHour_5 : decode cX4_layHour 5 = .ok (.istore_n 2, 1) := by decide +kernel
theorem dX4_layHour_6 : decode cX4_layHour 6 = .ok (.iload_n 1, 1) := by decide +kernel
theorem dX4_layHour_7 : decode cX4_layHour 7 = .ok (.aload_n 0, 1) := by decide +kernel
theorem dX4_layHour_8 : decode cX4_layHour 8 = .ok (.getfield 35, 3) := by decide +kernel
theorem dX4_layHour_11 : decode cX4_layHour 11 = .ok (.if_icmp .ne 7, 3) := by decide +kernel
theorem dX4_layHour_14 : decode cX4_layHour 14 = .ok (.iconst 0, 1) := by decide +kernel
theorem dX4_layHour_15 : decode cX4_layHour 15 = .ok (.goto 9, 3) := by decide +kernel
theorem dX4_layHour_18 : decode cX4_layHour 18 = .ok (.aload_n 0, 1) := by decide +kernel
theorem dX4_layHour_19 : decode cX4_layHour 19 = .ok (.getfield 7, 3) := by decide +kernel
theorem dX4_layHour_22 : decode cX4_layHour 22 = .ok (.iconst 2, 1) := by decide +kernel
theorem dX4_layHour_23 : decode cX4_layHour 23 = .ok (.iaload, 1) := by decide +kernel
theorem dX4_layHour_24 : decode cX4_layHour 24 = .ok (.istore_n 3, 1) := by decide +kernel
theorem dX4_layHour_25 : decode cX4_layHour 25 = .ok (.iload_n 1, 1) := by decide +kernel
theorem dX4_layHour_26 : decode cX4_layHour 26 = .ok (.aload_n 0, 1) := by decide +kernel
theorem dX4_layHour_27 : decode cX4_layHour 27 = .ok (.getfield 35, 3) := by decide +kernel
theorem dX4_layHour_30 : decode cX4_layHour 30 = .ok (.if_icmp .ne 7, 3) := by decide +kernel
theorem dX4_layHour_33 : decode cX4_layHour 33 = .ok (.iconst 0, 1) := by decide +kernel
theorem dX4_layHour_34 : decode cX4_layHour 34 = .ok (.goto 9, 3) := by decide +kernel
theorem dX4_layHour_37 : decode cX4_layHour 37 = .ok (.aload_n 0, 1) := by decide +kernel
theorem dX4_layHour_38 : decode cX4_layHour 38 = .ok (.getfield 7, 3) := by decide +kernel
theorem dX4_layHour_41 : decode cX4_layHour 41 = .ok (.iconst 3, 1) := by decide +kernel
theorem dX4_layHour_42 : decode cX4_layHour 42 = .ok (.iaload, 1) := by decide +kernel
theorem dX4_layHour_43 : decode cX4_layHour 43 = .ok (.istore 4, 2) := by decide +kernel
theorem dX4_layHour_45 : decode cX4_layHour 45 = .ok (.iconst 0, 1) := by decide +kernel
theorem dX4_layHour_46 : decode cX4_layHour 46 = .ok (.istore 5, 2) := by decide +kernel
theorem dX4_layHour_48 : decode cX4_layHour 48 = .ok (.iload 5, 2) := by decide +kernel
theorem dX4_layHour_50 : decode cX4_layHour 50 = .ok (.bipush 61, 2) := by decide +kernel
theorem dX4_layHour_52 : decode cX4_layHour 52 = .ok (.if_icmp .ge 155, 3) := by decide +kernel
theorem dX4_layHour_55 : decode cX4_layHour 55 = .ok (.ldc 67, 2) := by decide +kernel
theorem dX4_layHour_57 : decode cX4_layHour 57 = .ok (.istore 6, 2) := by decide +kernel
theorem dX4_layHour_59 : decode cX4_layHour 59 = .ok (.iload 5, 2) := by decide +kernel
theorem dX4_layHour_61 : decode cX4_layHour 61 = .ok (.iload 4, 2) := by decide +kernel
theorem dX4_layHour_63 : decode cX4_layHour 63 = .ok (.isub, 1) := by decide +kernel
theorem dX4_layHour_64 : decode cX4_layHour 64 = .ok (.ifCond .ge 7, 3) := by decide +kernel
theorem dX4_layHour_67 : decode cX4_layHour 67 = .ok (.iconst 0, 1) := by decide +kernel
theorem dX4_layHour_68 : decode cX4_layHour 68 = .ok (.goto 8, 3) := by decide +kernel
theorem dX4_layHour_71 : decode cX4_layHour 71 = .ok (.iload 5, 2) := by decide +kernel
theorem dX4_layHour_73 : decode cX4_layHour 73 = .ok (.iload 4, 2) := by decide +kernel
theorem dX4_layHour_75 : decode cX4_layHour 75 = .ok (.isub, 1) := by decide +kernel
theorem dX4_layHour_76 : decode cX4_layHour 76 = .ok (.istore 7, 2) := by decide +kernel
theorem dX4_layHour_78 : decode cX4_layHour 78 = .ok (.iload 5, 2) := by decide +kernel
theorem dX4_layHour_80 : decode cX4_layHour 80 = .ok (.iload_n 3, 1) := by decide +kernel
theorem dX4_layHour_81 : decode cX4_layHour 81 = .ok (.iadd, 1) := by decide +kernel
theorem dX4_layHour_82 : decode cX4_layHour 82 = .ok (.aload_n 0, 1) := by decide +kernel
theorem dX4_layHour_83 : decode cX4_layHour 83 = .ok (.getfield 7, 3) := by decide +kernel
theorem dX4_layHour_86 : decode cX4_layHour 86 = .ok (.bipush 68, 2) := by decide +kernel
theorem dX4_layHour_88 : decode cX4_layHour 88 = .ok (.iload_n 1, 1) := by decide +kernel
theorem dX4_layHour_89 : decode cX4_layHour 89 = .ok (.iadd, 1) := by decide +kernel
theorem dX4_layHour_90 : decode cX4_layHour 90 = .ok (.iaload, 1) := by decide +kernel
theorem dX4_layHour_91 : decode cX4_layHour 91 = .ok (.if_icmp .le 15, 3) := by decide +kernel
theorem dX4_layHour_94 : decode cX4_layHour 94 = .ok (.aload_n 0, 1) := by decide +kernel
theorem dX4_layHour_95 : decode cX4_layHour 95 = .ok (.getfield 7, 3) := by decide +kernel
theorem dX4_layHour_98 : decode cX4_layHour 98 = .ok (.bipush 68, 2) := by decide +kernel
theorem dX4_layHour_100 : decode cX4_layHour 100 = .ok (.iload_n 1, 1) := by decide +kernel
theorem dX4_layHour_101 : decode cX4_layHour 101 = .ok (.iadd, 1) := by decide +kernel
theorem dX4_layHour_102 : decode cX4_layHour 102 = .ok (.iaload, 1) := by decide +kernel
theorem dX4_layHour_103 : decode cX4_layHour 103 = .ok (.goto 7, 3) := by decide +kernel
theorem dX4_layHour_106 : decode cX4_layHour 106 = .ok (.iload 5, 2) := by decide +kernel
theorem dX4_layHour_108 : decode cX4_layHour 108 = .ok (.iload_n 3, 1) := by decide +kernel
theorem dX4_layHour_109 : decode cX4_layHour 109 = .ok (.iadd, 1) := by decide +kernel
theorem dX4_layHour_110 : decode cX4_layHour 110 = .ok (.istore 8, 2) := by decide +kernel
theorem dX4_layHour_112 : decode cX4_layHour 112 = .ok (.iload 7, 2) := by decide +kernel
theorem dX4_layHour_114 : decode cX4_layHour 114 = .ok (.istore 9, 2) := by decide +kernel
theorem dX4_layHour_116 : decode cX4_layHour 116 = .ok (.iload 9, 2) := by decide +kernel
theorem dX4_layHour_118 : decode cX4_layHour 118 = .ok (.iload 8, 2) := by decide +kernel
theorem dX4_layHour_120 : decode cX4_layHour 120 = .ok (.if_icmp .gt 67, 3) := by decide +kernel
theorem dX4_layHour_123 : decode cX4_layHour 123 = .ok (.aload_n 0, 1) := by decide +kernel
theorem dX4_layHour_124 : decode cX4_layHour 124 = .ok (.getfield 29, 3) := by decide +kernel
theorem dX4_layHour_127 : decode cX4_layHour 127 = .ok (.bipush 61, 2) := by decide +kernel
theorem dX4_layHour_129 : decode cX4_layHour 129 = .ok (.iload_n 1, 1) := by decide +kernel
theorem dX4_layHour_130 : decode cX4_layHour 130 = .ok (.iconst 1, 1) := by decide +kernel
theorem dX4_layHour_131 : decode cX4_layHour 131 = .ok (.iadd, 1) := by decide +kernel
theorem dX4_layHour_132 : decode cX4_layHour 132 = .ok (.imul, 1) := by decide +kernel
theorem dX4_layHour_133 : decode cX4_layHour 133 = .ok (.iload 9, 2) := by decide +kernel
theorem dX4_layHour_135 : decode cX4_layHour 135 = .ok (.iadd, 1) := by decide +kernel
theorem dX4_layHour_136 : decode cX4_layHour 136 = .ok (.iaload, 1) := by decide +kernel
theorem dX4_layHour_137 : decode cX4_layHour 137 = .ok (.istore 10, 2) := by decide +kernel
theorem dX4_layHour_139 : decode cX4_layHour 139 = .ok (.iload 10, 2) := by decide +kernel
theorem dX4_layHour_141 : decode cX4_layHour 141 = .ok (.ldc 67, 2) := by decide +kernel
theorem dX4_layHour_143 : decode cX4_layHour 143 = .ok (.if_icmp .ne 8, 3) := by decide +kernel
theorem dX4_layHour_146 : decode cX4_layHour 146 = .ok (.ldc 67, 2) := by decide +kernel
theorem dX4_layHour_148 : decode cX4_layHour 148 = .ok (.goto 15, 3) := by decide +kernel
theorem dX4_layHour_151 : decode cX4_layHour 151 = .ok (.iload 10, 2) := by decide +kernel
theorem dX4_layHour_153 : decode cX4_layHour 153 = .ok (.aload_n 0, 1) := by decide +kernel
theorem dX4_layHour_154 : decode cX4_layHour 154 = .ok (.iload_n 2, 1) := by decide +kernel
theorem dX4_layHour_155 : decode cX4_layHour 155 = .ok (.iload 5, 2) := by decide +kernel
theorem dX4_layHour_157 : decode cX4_layHour 157 = .ok (.iload 9, 2) := by decide +kernel
theorem dX4_layHour_159 : decode cX4_layHour 159 = .ok (.invokevirtual 68, 3) := by decide +kernel
theorem dX4_layHour_162 : decode cX4_layHour 162 = .ok (.iadd, 1) := by decide +kernel
theorem dX4_layHour_163 : decode cX4_layHour 163 = .ok (.istore 11, 2) := by decide +kernel
theorem dX4_layHour_165 : decode cX4_layHour 165 = .ok (.iload 11, 2) := by decide +kernel
theorem dX4_layHour_167 : decode cX4_layHour 167 = .ok (.iload 6, 2) := by decide +kernel
theorem dX4_layHour_169 : decode cX4_layHour 169 = .ok (.if_icmp .le 8, 3) := by decide +kernel
theorem dX4_layHour_172 : decode cX4_layHour 172 = .ok (.iload 11, 2) := by decide +kernel
theorem dX4_layHour_174 : decode cX4_layHour 174 = .ok (.goto 5, 3) := by decide +kernel
theorem dX4_layHour_177 : decode cX4_layHour 177 = .ok (.iload 6, 2) := by decide +kernel
theorem dX4_layHour_179 : decode cX4_layHour 179 = .ok (.istore 6, 2) := by decide +kernel
theorem dX4_layHour_181 : decode cX4_layHour 181 = .ok (.iinc 9 1, 3) := by decide +kernel
theorem dX4_layHour_184 : decode cX4_layHour 184 = .ok (.goto (-68), 3) := by decide +kernel
theorem dX4_layHour_187 : decode cX4_layHour 187 = .ok (.aload_n 0, 1) := by decide +kernel
theorem dX4_layHour_188 : decode cX4_layHour 188 = .ok (.getfield 29, 3) := by decide +kernel
theorem dX4_layHour_191 : decode cX4_layHour 191 = .ok (.bipush 61, 2) := by decide +kernel
theorem dX4_layHour_193 : decode cX4_layHour 193 = .ok (.iload_n 1, 1) := by decide +kernel
theorem dX4_layHour_194 : decode cX4_layHour 194 = .ok (.imul, 1) := by decide +kernel
theorem dX4_layHour_195 : decode cX4_layHour 195 = .ok (.iload 5, 2) := by decide +kernel
theorem dX4_layHour_197 : decode cX4_layHour 197 = .ok (.iadd, 1) := by decide +kernel
theorem dX4_layHour_198 : decode cX4_layHour 198 = .ok (.iload 6, 2) := by decide +kernel
theorem dX4_layHour_200 : decode cX4_layHour 200 = .ok (.iastore, 1) := by decide +kernel
theorem dX4_layHour_201 : decode cX4_layHour 201 = .ok (.iinc 5 1, 3) := by decide +kernel
theorem dX4_layHour_204 : decode cX4_layHour 204 = .ok (.goto (-156), 3) := by decide +kernel
theorem dX4_layHour_207 : decode cX4_layHour 207 = .ok (.return_, 1) := by decide +kernel
set_option maxRecDepth 20000 in
theorem ggX4_lay_X4_layHour : GoodIn wsX4_lay wsX4_layHour := goodIn_r _ [7, 8, 2, 9, 1, 10, 11, 12, 6, 13, 14, 15, 16, 17, 18, 19, 20, 21, 22, 23, 24, 25, 26, 27, 28, 29, 30, 31, 32, 33, 34, 35, 36, 37, 38, 39, 40, 41, 42, 43, 44, 45, 46, 47, 48, 49, 50] (by decide +kernel) (by decide +kernel)
set_option maxRecDepth 20000 in
theorem gX4_lay_X4_layHour : GoodIn wsX4_lay (wsV RX4 71 RX4 yX4_layHour wsX4_layHour) := goodIn_app (goodIn_of _ (by decide +kernel)) ggX4_lay_X4_layHour
theorem dX4_lay_0 : decode cX4_lay 0 = .ok (.iconst 0, 1) := by decide +kernel
theorem dX4_lay_1 : decode cX4_lay 1 = .ok (.istore_n 1, 1) := by decide +kernel
theorem dX4_lay_2 : decode cX4_lay 2 = .ok (.iload_n 1, 1) := by decide +kernel
theorem dX4_lay_3 : decode cX4_lay 3 = .ok (.bipush 61, 2) := by decide +kernel
theorem dX4_lay_5 : decode cX4_lay 5 = .ok (.if_icmp .ge 27, 3) := by decide +kernel
theorem dX4_lay_8 : decode cX4_lay 8 = .ok (.aload_n 0, 1) := by decide +kernel
theorem dX4_lay_9 : decode cX4_lay 9 = .ok (.getfield 29, 3) := by decide +kernel
theorem dX4_lay_12 : decode cX4_lay 12 = .ok (.sipush 1464, 3) := by decide +kernel
theorem dX4_lay_15 : decode cX4_lay 15 = .ok (.iload_n 1, 1) := by decide +kernel
theorem dX4_lay_16 : decode cX4_lay 16 = .ok (.iadd, 1) := by decide +kernel
theorem dX4_lay_17 : decode cX4_lay 17 = .ok (.aload_n 0, 1) := by decide +kernel
theorem dX4_lay_18 : decode cX4_lay 18 = .ok (.getfield 7, 3) := by decide +kernel
theorem dX4_lay_21 : decode cX4_lay 21 = .ok (.iconst 5, 1) := by decide +kernel
theorem dX4_lay_22 : decode cX4_lay 22 = .ok (.iaload, 1) := by decide +kernel
theorem dX4_lay_23 : decode cX4_lay 23 = .ok (.iload_n 1, 1) := by decide +kernel
theorem dX4_lay_24 : decode cX4_lay 24 = .ok (.imul, 1) := by decide +kernel
theorem dX4_lay_25 : decode cX4_lay 25 = .ok (.iastore, 1) := by decide +kernel
theorem dX4_lay_26 : decode cX4_lay 26 = .ok (.iinc 1 1, 3) := by decide +kernel
theorem dX4_lay_29 : decode cX4_lay 29 = .ok (.goto (-27), 3) := by decide +kernel
theorem dX4_lay_32 : decode cX4_lay 32 = .ok (.bipush 23, 2) := by decide +kernel
theorem dX4_lay_34 : decode cX4_lay 34 = .ok (.istore_n 1, 1) := by decide +kernel
theorem dX4_lay_35 : decode cX4_lay 35 = .ok (.iload_n 1, 1) := by decide +kernel
theorem dX4_lay_36 : decode cX4_lay 36 = .ok (.ifCond .lt 14, 3) := by decide +kernel
theorem dX4_lay_39 : decode cX4_lay 39 = .ok (.aload_n 0, 1) := by decide +kernel
theorem dX4_lay_40 : decode cX4_lay 40 = .ok (.iload_n 1, 1) := by decide +kernel
theorem dX4_lay_41 : decode cX4_lay 41 = .ok (.invokevirtual 71, 3) := by decide +kernel
theorem dX4_lay_44 : decode cX4_lay 44 = .ok (.iinc 1 (-1), 3) := by decide +kernel
theorem dX4_lay_47 : decode cX4_lay 47 = .ok (.goto (-12), 3) := by decide +kernel
theorem dX4_lay_50 : decode cX4_lay 50 = .ok (.return_, 1) := by decide +kernel
set_option maxRecDepth 20000 in
theorem ggX4_bestOf_X4_lay : GoodIn wsX4_bestOf wsX4_lay := goodIn_r _ [7, 1, 2, 8, 9, 10, 6, 11, 12, 13, 14, 15, 16, 17, 18, 19, 20, 21, 22, 23, 24, 25, 26, 27, 28, 29, 30, 31, 32, 33, 34, 35, 36, 37, 38, 39, 40, 41, 42, 43, 44, 45, 46, 47, 48, 49, 50, 51, 52, 53, 54] (by decide +kernel) (by decide +kernel)
set_option maxRecDepth 20000 in
theorem gX4_bestOf_X4_lay : GoodIn wsX4_bestOf (wsV RX4 75 RX4 yX4_lay wsX4_lay) := goodIn_app (goodIn_of _ (by decide +kernel)) ggX4_bestOf_X4_lay
theorem dX4_bestOf_0 : decode cX4_bestOf 0 = .ok (.aload_n 0, 1) := by decide +kernel
theorem dX4_bestOf_1 : decode cX4_bestOf 1 = .ok (.invokevirtual 75, 3) := by decide +kernel
theorem dX4_bestOf_4 : decode cX4_bestOf 4 = .ok (.aload_n 0, 1) := by decide +kernel
theorem dX4_bestOf_5 : decode cX4_bestOf 5 = .ok (.getfield 29, 3) := by decide +kernel
theorem dX4_bestOf_8 : decode cX4_bestOf 8 = .ok (.bipush 61, 2) := by decide +kernel
theorem dX4_bestOf_10 : decode cX4_bestOf 10 = .ok (.aload_n 0, 1) := by decide +kernel
theorem dX4_bestOf_11 : decode cX4_bestOf 11 = .ok (.getfield 7, 3) := by decide +kernel
theorem dX4_bestOf_14 : decode cX4_bestOf 14 = .ok (.iconst 0, 1) := by decide +kernel
theorem dX4_bestOf_15 : decode cX4_bestOf 15 = .ok (.iaload, 1) := by decide +kernel
theorem dX4_bestOf_16 : decode cX4_bestOf 16 = .ok (.imul, 1) := by decide +kernel
theorem dX4_bestOf_17 : decode cX4_bestOf 17 = .ok (.aload_n 0, 1) := by decide +kernel
theorem dX4_bestOf_18 : decode cX4_bestOf 18 = .ok (.getfield 7, 3) := by decide +kernel
theorem dX4_bestOf_21 : decode cX4_bestOf 21 = .ok (.iconst 1, 1) := by decide +kernel
theorem dX4_bestOf_22 : decode cX4_bestOf 22 = .ok (.iaload, 1) := by decide +kernel
theorem dX4_bestOf_23 : decode cX4_bestOf 23 = .ok (.iadd, 1) := by decide +kernel
theorem dX4_bestOf_24 : decode cX4_bestOf 24 = .ok (.iaload, 1) := by decide +kernel
theorem dX4_bestOf_25 : decode cX4_bestOf 25 = .ok (.ireturn, 1) := by decide +kernel
set_option maxRecDepth 20000 in
theorem ggX4_isPlanned_X4_bestOf : GoodIn wsX4_isPlanned wsX4_bestOf := goodIn_r _ [10, 4, 2, 11, 12, 13, 9, 14, 15, 16, 17, 18, 3, 1, 19, 20, 21, 22, 23, 24, 25, 26, 27, 28, 29, 30, 31, 32, 33, 34, 35, 36, 37, 38, 39, 40, 41, 42, 43, 44, 45, 46, 47, 48, 49, 50, 51, 52, 53, 54, 55, 56, 57, 58, 59] (by decide +kernel) (by decide +kernel)
set_option maxRecDepth 20000 in
theorem gX4_isPlanned_X4_bestOf : GoodIn wsX4_isPlanned (wsV RX4 78 RX4 yX4_bestOf wsX4_bestOf) := goodIn_app (goodIn_of _ (by decide +kernel)) ggX4_isPlanned_X4_bestOf
set_option maxRecDepth 20000 in
theorem ggX4_isPlanned_X4_priceOf : GoodIn wsX4_isPlanned wsX4_priceOf := goodIn_r _ [22, 23, 24, 25, 26, 27, 9, 28, 2, 29, 30, 31, 32, 33, 34, 35, 36, 37, 38, 39, 40, 41, 42, 47, 48, 49, 50, 51, 52, 53, 54, 55, 56, 57, 58, 59] (by decide +kernel) (by decide +kernel)
set_option maxRecDepth 20000 in
theorem gX4_isPlanned_X4_priceOf : GoodIn wsX4_isPlanned (wsV RX4 64 RX4 yX4_priceOf wsX4_priceOf) := goodIn_app (goodIn_of _ (by decide +kernel)) ggX4_isPlanned_X4_priceOf
set_option maxRecDepth 20000 in
theorem ggX4_isPlanned_X4_brings : GoodIn wsX4_isPlanned wsX4_brings := goodIn_r _ [46, 2, 47, 48, 49, 50, 51, 52, 53, 54, 55, 56, 57, 58, 59] (by decide +kernel) (by decide +kernel)
set_option maxRecDepth 20000 in
theorem gX4_isPlanned_X4_brings : GoodIn wsX4_isPlanned (wsV RX4 68 RX4 yX4_brings wsX4_brings) := goodIn_app (goodIn_of _ (by decide +kernel)) ggX4_isPlanned_X4_brings
theorem dX4_isPlanned_0 : decode cX4_isPlanned 0 = .ok (.aload_n 0, 1) := by decide +kernel
theorem dX4_isPlanned_1 : decode cX4_isPlanned 1 = .ok (.invokevirtual 78, 3) := by decide +kernel
theorem dX4_isPlanned_4 : decode cX4_isPlanned 4 = .ok (.ldc 67, 2) := by decide +kernel
theorem dX4_isPlanned_6 : decode cX4_isPlanned 6 = .ok (.if_icmp .ne 5, 3) := by decide +kernel
theorem dX4_isPlanned_9 : decode cX4_isPlanned 9 = .ok (.iconst 0, 1) := by decide +kernel
theorem dX4_isPlanned_10 : decode cX4_isPlanned 10 = .ok (.ireturn, 1) := by decide +kernel
theorem dX4_isPlanned_11 : decode cX4_isPlanned 11 = .ok (.aload_n 0, 1) := by decide +kernel
theorem dX4_isPlanned_12 : decode cX4_isPlanned 12 = .ok (.getfield 7, 3) := by decide +kernel
theorem dX4_isPlanned_15 : decode cX4_isPlanned 15 = .ok (.iconst 1, 1) := by decide +kernel
theorem dX4_isPlanned_16 : decode cX4_isPlanned 16 = .ok (.iaload, 1) := by decide +kernel
theorem dX4_isPlanned_17 : decode cX4_isPlanned 17 = .ok (.istore_n 1, 1) := by decide +kernel
theorem dX4_isPlanned_18 : decode cX4_isPlanned 18 = .ok (.aload_n 0, 1) := by decide +kernel
theorem dX4_isPlanned_19 : decode cX4_isPlanned 19 = .ok (.getfield 7, 3) := by decide +kernel
theorem dX4_isPlanned_22 : decode cX4_isPlanned 22 = .ok (.iconst 0, 1) := by decide +kernel
theorem dX4_isPlanned_23 : decode cX4_isPlanned 23 = .ok (.iaload, 1) := by decide +kernel
theorem dX4_isPlanned_24 : decode cX4_isPlanned 24 = .ok (.istore_n 2, 1) := by decide +kernel
theorem dX4_isPlanned_25 : decode cX4_isPlanned 25 = .ok (.iload_n 2, 1) := by decide +kernel
theorem dX4_isPlanned_26 : decode cX4_isPlanned 26 = .ok (.bipush 24, 2) := by decide +kernel
theorem dX4_isPlanned_28 : decode cX4_isPlanned 28 = .ok (.if_icmp .ge 129, 3) := by decide +kernel
theorem dX4_isPlanned_31 : decode cX4_isPlanned 31 = .ok (.aload_n 0, 1) := by decide +kernel
theorem dX4_isPlanned_32 : decode cX4_isPlanned 32 = .ok (.iload_n 2, 1) := by decide +kernel
theorem dX4_isPlanned_33 : decode cX4_isPlanned 33 = .ok (.invokevirtual 64, 3) := by decide +kernel
theorem dX4_isPlanned_36 : decode cX4_isPlanned 36 = .ok (.istore_n 3, 1) := by decide +kernel
theorem dX4_isPlanned_37 : decode cX4_isPlanned 37 = .ok (.iload_n 1, 1) := by decide +kernel
theorem dX4_isPlanned_38 : decode cX4_isPlanned 38 = .ok (.aload_n 0, 1) := by decide +kernel
theorem dX4_isPlanned_39 : decode cX4_isPlanned 39 = .ok (.getfield 7, 3) := by decide +kernel
theorem dX4_isPlanned_42 : decode cX4_isPlanned 42 = .ok (.iconst 3, 1) := by decide +kernel
theorem dX4_isPlanned_43 : decode cX4_isPlanned 43 = .ok (.iaload, 1) := by decide +kernel
theorem dX4_isPlanned_44 : decode cX4_isPlanned 44 = .ok (.isub, 1) := by decide +kernel
theorem dX4_isPlanned_45 : decode cX4_isPlanned 45 = .ok (.ifCond .ge 7, 3) := by decide +kernel
theorem dX4_isPlanned_48 : decode cX4_isPlanned 48 = .ok (.iconst 0, 1) := by decide +kernel
theorem dX4_isPlanned_49 : decode cX4_isPlanned 49 = .ok (.goto 11, 3) := by decide +kernel
theorem dX4_isPlanned_52 : decode cX4_isPlanned 52 = .ok (.iload_n 1, 1) := by decide +kernel
theorem dX4_isPlanned_53 : decode cX4_isPlanned 53 = .ok (.aload_n 0, 1) := by decide +kernel
theorem dX4_isPlanned_54 : decode cX4_isPlanned 54 = .ok (.getfield 7, 3) := by decide +kernel
theorem dX4_isPlanned_57 : decode cX4_isPlanned 57 = .ok (.iconst 3, 1) := by decide +kernel
theorem dX4_isPlanned_58 : decode cX4_isPlanned 58 = .ok (.iaload, 1) := by decide +kernel
theorem dX4_isPlanned_59 : decode cX4_isPlanned 59 = .ok (.isub, 1) := by decide +kernel
theorem dX4_isPlanned_60 : decode cX4_isPlanned 60 = .ok (.istore 4, 2) := by decide +kernel
theorem dX4_isPlanned_62 : decode cX4_isPlanned 62 = .ok (.iload_n 2, 1) := by decide +kernel
theorem dX4_isPlanned_63 : decode cX4_isPlanned 63 = .ok (.aload_n 0, 1) := by decide +kernel
theorem dX4_isPlanned_64 : decode cX4_isPlanned 64 = .ok (.getfield 35, 3) := by decide +kernel
theorem dX4_isPlanned_67 : decode cX4_isPlanned 67 = .ok (.if_icmp .ne 7, 3) := by decide +kernel
theorem dX4_isPlanned_70 : decode cX4_isPlanned 70 = .ok (.iload_n 1, 1) := by decide +kernel
theorem dX4_isPlanned_71 : decode cX4_isPlanned 71 = .ok (.goto 5, 3) := by decide +kernel
theorem dX4_isPlanned_74 : decode cX4_isPlanned 74 = .ok (.iload 4, 2) := by decide +kernel
theorem dX4_isPlanned_76 : decode cX4_isPlanned 76 = .ok (.istore 4, 2) := by decide +kernel
theorem dX4_isPlanned_78 : decode cX4_isPlanned 78 = .ok (.aload_n 0, 1) := by decide +kernel
theorem dX4_isPlanned_79 : decode cX4_isPlanned 79 = .ok (.getfield 29, 3) := by decide +kernel
theorem dX4_isPlanned_82 : decode cX4_isPlanned 82 = .ok (.bipush 61, 2) := by decide +kernel
theorem dX4_isPlanned_84 : decode cX4_isPlanned 84 = .ok (.iload_n 2, 1) := by decide +kernel
theorem dX4_isPlanned_85 : decode cX4_isPlanned 85 = .ok (.iconst 1, 1) := by decide +kernel
theorem dX4_isPlanned_86 : decode cX4_isPlanned 86 = .ok (.iadd, 1) := by decide +kernel
theorem dX4_isPlanned_87 : decode cX4_isPlanned 87 = .ok (.imul, 1) := by decide +kernel
theorem dX4_isPlanned_88 : decode cX4_isPlanned 88 = .ok (.iload 4, 2) := by decide +kernel
theorem dX4_isPlanned_90 : decode cX4_isPlanned 90 = .ok (.iadd, 1) := by decide +kernel
theorem dX4_isPlanned_91 : decode cX4_isPlanned 91 = .ok (.iaload, 1) := by decide +kernel
theorem dX4_isPlanned_92 : decode cX4_isPlanned 92 = .ok (.ldc 67, 2) := by decide +kernel
theorem dX4_isPlanned_94 : decode cX4_isPlanned 94 = .ok (.if_icmp .eq 40, 3) := by decide +kernel
theorem dX4_isPlanned_97 : decode cX4_isPlanned 97 = .ok (.aload_n 0, 1) := by decide +kernel
theorem dX4_isPlanned_98 : decode cX4_isPlanned 98 = .ok (.getfield 29, 3) := by decide +kernel
theorem dX4_isPlanned_101 : decode cX4_isPlanned 101 = .ok (.bipush 61, 2) := by decide +kernel
theorem dX4_isPlanned_103 : decode cX4_isPlanned 103 = .ok (.iload_n 2, 1) := by decide +kernel
theorem dX4_isPlanned_104 : decode cX4_isPlanned 104 = .ok (.iconst 1, 1) := by decide +kernel
theorem dX4_isPlanned_105 : decode cX4_isPlanned 105 = .ok (.iadd, 1) := by decide +kernel
theorem dX4_isPlanned_106 : decode cX4_isPlanned 106 = .ok (.imul, 1) := by decide +kernel
theorem dX4_isPlanned_107 : decode cX4_isPlanned 107 = .ok (.iload 4, 2) := by decide +kernel
theorem dX4_isPlanned_109 : decode cX4_isPlanned 109 = .ok (.iadd, 1) := by decide +kernel
theorem dX4_isPlanned_110 : decode cX4_isPlanned 110 = .ok (.iaload, 1) := by decide +kernel
theorem dX4_isPlanned_111 : decode cX4_isPlanned 111 = .ok (.aload_n 0, 1) := by decide +kernel
theorem dX4_isPlanned_112 : decode cX4_isPlanned 112 = .ok (.iload_n 3, 1) := by decide +kernel
theorem dX4_isPlanned_113 : decode cX4_isPlanned 113 = .ok (.iload_n 1, 1) := by decide +kernel
theorem dX4_isPlanned_114 : decode cX4_isPlanned 114 = .ok (.iload 4, 2) := by decide +kernel
theorem dX4_isPlanned_116 : decode cX4_isPlanned 116 = .ok (.invokevirtual 68, 3) := by decide +kernel
theorem dX4_isPlanned_119 : decode cX4_isPlanned 119 = .ok (.iadd, 1) := by decide +kernel
theorem dX4_isPlanned_120 : decode cX4_isPlanned 120 = .ok (.aload_n 0, 1) := by decide +kernel
theorem dX4_isPlanned_121 : decode cX4_isPlanned 121 = .ok (.getfield 29, 3) := by decide +kernel
theorem dX4_isPlanned_124 : decode cX4_isPlanned 124 = .ok (.bipush 61, 2) := by decide +kernel
theorem dX4_isPlanned_126 : decode cX4_isPlanned 126 = .ok (.iload_n 2, 1) := by decide +kernel
theorem dX4_isPlanned_127 : decode cX4_isPlanned 127 = .ok (.imul, 1) := by decide +kernel
theorem dX4_isPlanned_128 : decode cX4_isPlanned 128 = .ok (.iload_n 1, 1) := by decide +kernel
theorem dX4_isPlanned_129 : decode cX4_isPlanned 129 = .ok (.iadd, 1) := by decide +kernel
theorem dX4_isPlanned_130 : decode cX4_isPlanned 130 = .ok (.iaload, 1) := by decide +kernel
theorem dX4_isPlanned_131 : decode cX4_isPlanned 131 = .ok (.if_icmp .eq 9, 3) := by decide +kernel
theorem dX4_isPlanned_134 : decode cX4_isPlanned 134 = .ok (.iinc 4 1, 3) := by decide +kernel
theorem dX4_isPlanned_137 : decode cX4_isPlanned 137 = .ok (.goto (-59), 3) := by decide +kernel
theorem dX4_isPlanned_140 : decode cX4_isPlanned 140 = .ok (.aload_n 0, 1) := by decide +kernel
theorem dX4_isPlanned_141 : decode cX4_isPlanned 141 = .ok (.getfield 32, 3) := by decide +kernel
theorem dX4_isPlanned_144 : decode cX4_isPlanned 144 = .ok (.iload_n 2, 1) := by decide +kernel
theorem dX4_isPlanned_145 : decode cX4_isPlanned 145 = .ok (.iload 4, 2) := by decide +kernel
theorem dX4_isPlanned_147 : decode cX4_isPlanned 147 = .ok (.iastore, 1) := by decide +kernel
theorem dX4_isPlanned_148 : decode cX4_isPlanned 148 = .ok (.iload 4, 2) := by decide +kernel
theorem dX4_isPlanned_150 : decode cX4_isPlanned 150 = .ok (.istore_n 1, 1) := by decide +kernel
theorem dX4_isPlanned_151 : decode cX4_isPlanned 151 = .ok (.iinc 2 1, 3) := by decide +kernel
theorem dX4_isPlanned_154 : decode cX4_isPlanned 154 = .ok (.goto (-129), 3) := by decide +kernel
theorem dX4_isPlanned_157 : decode cX4_isPlanned 157 = .ok (.iconst 1, 1) := by decide +kernel
theorem dX4_isPlanned_158 : decode cX4_isPlanned 158 = .ok (.ireturn, 1) := by decide +kernel
theorem dX4_before_0 : decode cX4_before 0 = .ok (.iload_n 1, 1) := by decide +kernel
theorem dX4_before_1 : decode cX4_before 1 = .ok (.aload_n 0, 1) := by decide +kernel
theorem dX4_before_2 : decode cX4_before 2 = .ok (.getfield 7, 3) := by decide +kernel
theorem dX4_before_5 : decode cX4_before 5 = .ok (.iconst 0, 1) := by decide +kernel
theorem dX4_before_6 : decode cX4_before 6 = .ok (.iaload, 1) := by decide +kernel
theorem dX4_before_7 : decode cX4_before 7 = .ok (.if_icmp .ne 12, 3) := by decide +kernel
theorem dX4_before_10 : decode cX4_before 10 = .ok (.aload_n 0, 1) := by decide +kernel
theorem dX4_before_11 : decode cX4_before 11 = .ok (.getfield 7, 3) := by decide +kernel
theorem dX4_before_14 : decode cX4_before 14 = .ok (.iconst 1, 1) := by decide +kernel
theorem dX4_before_15 : decode cX4_before 15 = .ok (.iaload, 1) := by decide +kernel
theorem dX4_before_16 : decode cX4_before 16 = .ok (.goto 11, 3) := by decide +kernel
theorem dX4_before_19 : decode cX4_before 19 = .ok (.aload_n 0, 1) := by decide +kernel
theorem dX4_before_20 : decode cX4_before 20 = .ok (.getfield 32, 3) := by decide +kernel
theorem dX4_before_23 : decode cX4_before 23 = .ok (.iload_n 1, 1) := by decide +kernel
theorem dX4_before_24 : decode cX4_before 24 = .ok (.iconst 1, 1) := by decide +kernel
theorem dX4_before_25 : decode cX4_before 25 = .ok (.isub, 1) := by decide +kernel
theorem dX4_before_26 : decode cX4_before 26 = .ok (.iaload, 1) := by decide +kernel
theorem dX4_before_27 : decode cX4_before 27 = .ok (.ireturn, 1) := by decide +kernel
theorem dX4_shown_0 : decode cX4_shown 0 = .ok (.iload_n 0, 1) := by decide +kernel
theorem dX4_shown_1 : decode cX4_shown 1 = .ok (.ldc 67, 2) := by decide +kernel
theorem dX4_shown_3 : decode cX4_shown 3 = .ok (.if_icmp .ne 7, 3) := by decide +kernel
theorem dX4_shown_6 : decode cX4_shown 6 = .ok (.iconst (-1), 1) := by decide +kernel
theorem dX4_shown_7 : decode cX4_shown 7 = .ok (.goto 7, 3) := by decide +kernel
theorem dX4_shown_10 : decode cX4_shown 10 = .ok (.iload_n 0, 1) := by decide +kernel
theorem dX4_shown_11 : decode cX4_shown 11 = .ok (.ldc 82, 2) := by decide +kernel
theorem dX4_shown_13 : decode cX4_shown 13 = .ok (.iadd, 1) := by decide +kernel
theorem dX4_shown_14 : decode cX4_shown 14 = .ok (.ireturn, 1) := by decide +kernel
set_option maxRecDepth 20000 in
theorem ggX4_traded_X4_before : GoodIn wsX4_traded wsX4_before := goodIn_r _ [7, 1, 2, 8, 9, 10, 11, 12, 13, 14, 15, 16, 17, 18, 19, 20] (by decide +kernel) (by decide +kernel)
set_option maxRecDepth 20000 in
theorem gX4_traded_X4_before : GoodIn wsX4_traded (wsV RX4 83 RX4 yX4_before wsX4_before) := goodIn_app (goodIn_of _ (by decide +kernel)) ggX4_traded_X4_before
theorem dX4_traded_0 : decode cX4_traded 0 = .ok (.iconst 0, 1) := by decide +kernel
theorem dX4_traded_1 : decode cX4_traded 1 = .ok (.istore_n 2, 1) := by decide +kernel
theorem dX4_traded_2 : decode cX4_traded 2 = .ok (.aload_n 0, 1) := by decide +kernel
theorem dX4_traded_3 : decode cX4_traded 3 = .ok (.getfield 7, 3) := by decide +kernel
theorem dX4_traded_6 : decode cX4_traded 6 = .ok (.iconst 0, 1) := by decide +kernel
theorem dX4_traded_7 : decode cX4_traded 7 = .ok (.iaload, 1) := by decide +kernel
theorem dX4_traded_8 : decode cX4_traded 8 = .ok (.istore_n 3, 1) := by decide +kernel
theorem dX4_traded_9 : decode cX4_traded 9 = .ok (.iload_n 3, 1) := by decide +kernel
theorem dX4_traded_10 : decode cX4_traded 10 = .ok (.bipush 24, 2) := by decide +kernel
theorem dX4_traded_12 : decode cX4_traded 12 = .ok (.if_icmp .ge 39, 3) := by decide +kernel
theorem dX4_traded_15 : decode cX4_traded 15 = .ok (.iload_n 1, 1) := by decide +kernel
theorem dX4_traded_16 : decode cX4_traded 16 = .ok (.aload_n 0, 1) := by decide +kernel
theorem dX4_traded_17 : decode cX4_traded 17 = .ok (.getfield 32, 3) := by decide +kernel
theorem dX4_traded_20 : decode cX4_traded 20 = .ok (.iload_n 3, 1) := by decide +kernel
theorem dX4_traded_21 : decode cX4_traded 21 = .ok (.iaload, 1) := by decide +kernel
theorem dX4_traded_22 : decode cX4_traded 22 = .ok (.aload_n 0, 1) := by decide +kernel
theorem dX4_traded_23 : decode cX4_traded 23 = .ok (.iload_n 3, 1) := by decide +kernel
theorem dX4_traded_24 : decode cX4_traded 24 = .ok (.invokevirtual 83, 3) := by decide +kernel
theorem dX4_traded_27 : decode cX4_traded 27 = .ok (.isub, 1) := by decide +kernel
theorem dX4_traded_28 : decode cX4_traded 28 = .ok (.imul, 1) := by decide +kernel
theorem dX4_traded_29 : decode cX4_traded 29 = .ok (.istore 4, 2) := by decide +kernel
theorem dX4_traded_31 : decode cX4_traded 31 = .ok (.iload_n 2, 1) := by decide +kernel
theorem dX4_traded_32 : decode cX4_traded 32 = .ok (.iload 4, 2) := by decide +kernel
theorem dX4_traded_34 : decode cX4_traded 34 = .ok (.ifCond .le 8, 3) := by decide +kernel
theorem dX4_traded_37 : decode cX4_traded 37 = .ok (.iload 4, 2) := by decide +kernel
theorem dX4_traded_39 : decode cX4_traded 39 = .ok (.goto 4, 3) := by decide +kernel
theorem dX4_traded_42 : decode cX4_traded 42 = .ok (.iconst 0, 1) := by decide +kernel
theorem dX4_traded_43 : decode cX4_traded 43 = .ok (.iadd, 1) := by decide +kernel
theorem dX4_traded_44 : decode cX4_traded 44 = .ok (.istore_n 2, 1) := by decide +kernel
theorem dX4_traded_45 : decode cX4_traded 45 = .ok (.iinc 3 1, 3) := by decide +kernel
theorem dX4_traded_48 : decode cX4_traded 48 = .ok (.goto (-39), 3) := by decide +kernel
theorem dX4_traded_51 : decode cX4_traded 51 = .ok (.iload_n 2, 1) := by decide +kernel
theorem dX4_traded_52 : decode cX4_traded 52 = .ok (.ireturn, 1) := by decide +kernel
set_option maxRecDepth 20000 in
theorem ggX4_ofPlan_X4_isPlanned : GoodIn wsX4_ofPlan wsX4_isPlanned := goodIn_r _ [7, 8, 1, 9, 10, 2, 11, 12, 13, 6, 14, 15, 16, 17, 18, 19, 20, 21, 22, 23, 24, 25, 26, 27, 28, 29, 30, 31, 32, 33, 34, 35, 36, 37, 38, 39, 40, 41, 42, 43, 44, 45, 46, 47, 48, 49, 50, 59, 60, 61, 62, 63, 64, 65, 66, 67, 68, 69, 70, 71] (by decide +kernel) (by decide +kernel)
set_option maxRecDepth 20000 in
theorem gX4_ofPlan_X4_isPlanned : GoodIn wsX4_ofPlan (wsV RX4 86 RX4 yX4_isPlanned wsX4_isPlanned) := goodIn_app (goodIn_of _ (by decide +kernel)) ggX4_ofPlan_X4_isPlanned
set_option maxRecDepth 20000 in
theorem ggX4_ofPlan_X4_traded : GoodIn wsX4_ofPlan wsX4_traded := goodIn_r _ [54, 1, 2, 55, 56, 57, 6, 58, 59, 60, 61, 62, 63, 64, 65, 66, 67, 68, 69, 70, 71] (by decide +kernel) (by decide +kernel)
set_option maxRecDepth 20000 in
theorem gX4_ofPlan_X4_traded : GoodIn wsX4_ofPlan (wsV RX4 90 RX4 yX4_traded wsX4_traded) := goodIn_app (goodIn_of _ (by decide +kernel)) ggX4_ofPlan_X4_traded
theorem dX4_ofPlan_0 : decode cX4_ofPlan 0 = .ok (.aload_n 0, 1) := by decide +kernel
theorem dX4_ofPlan_1 : decode cX4_ofPlan 1 = .ok (.invokevirtual 86, 3) := by decide +kernel
theorem dX4_ofPlan_4 : decode cX4_ofPlan 4 = .ok (.ifCond .ne 5, 3) := by decide +kernel
theorem dX4_ofPlan_7 : decode cX4_ofPlan 7 = .ok (.iconst (-1), 1) := by decide +kernel
theorem dX4_ofPlan_8 : decode cX4_ofPlan 8 = .ok (.ireturn, 1) := by decide +kernel
theorem dX4_ofPlan_9 : decode cX4_ofPlan 9 = .ok (.iload_n 1, 1) := by decide +kernel
theorem dX4_ofPlan_10 : decode cX4_ofPlan 10 = .ok (.bipush 12, 2) := by decide +kernel
theorem dX4_ofPlan_12 : decode cX4_ofPlan 12 = .ok (.if_icmp .ge 19, 3) := by decide +kernel
theorem dX4_ofPlan_15 : decode cX4_ofPlan 15 = .ok (.aload_n 0, 1) := by decide +kernel
theorem dX4_ofPlan_16 : decode cX4_ofPlan 16 = .ok (.iload_n 1, 1) := by decide +kernel
theorem dX4_ofPlan_17 : decode cX4_ofPlan 17 = .ok (.bipush 10, 2) := by decide +kernel
theorem dX4_ofPlan_19 : decode cX4_ofPlan 19 = .ok (.if_icmp .ne 7, 3) := by decide +kernel
theorem dX4_ofPlan_22 : decode cX4_ofPlan 22 = .ok (.iconst 1, 1) := by decide +kernel
theorem dX4_ofPlan_23 : decode cX4_ofPlan 23 = .ok (.goto 4, 3) := by decide +kernel
theorem dX4_ofPlan_26 : decode cX4_ofPlan 26 = .ok (.iconst (-1), 1) := by decide +kernel
theorem dX4_ofPlan_27 : decode cX4_ofPlan 27 = .ok (.invokevirtual 90, 3) := by decide +kernel
theorem dX4_ofPlan_30 : decode cX4_ofPlan 30 = .ok (.ireturn, 1) := by decide +kernel
theorem dX4_ofPlan_31 : decode cX4_ofPlan 31 = .ok (.aload_n 0, 1) := by decide +kernel
theorem dX4_ofPlan_32 : decode cX4_ofPlan 32 = .ok (.getfield 7, 3) := by decide +kernel
theorem dX4_ofPlan_35 : decode cX4_ofPlan 35 = .ok (.iconst 0, 1) := by decide +kernel
theorem dX4_ofPlan_36 : decode cX4_ofPlan 36 = .ok (.iaload, 1) := by decide +kernel
theorem dX4_ofPlan_37 : decode cX4_ofPlan 37 = .ok (.bipush 24, 2) := by decide +kernel
theorem dX4_ofPlan_39 : decode cX4_ofPlan 39 = .ok (.if_icmp .ne 12, 3) := by decide +kernel
theorem dX4_ofPlan_42 : decode cX4_ofPlan 42 = .ok (.aload_n 0, 1) := by decide +kernel
theorem dX4_ofPlan_43 : decode cX4_ofPlan 43 = .ok (.getfield 7, 3) := by decide +kernel
theorem dX4_ofPlan_46 : decode cX4_ofPlan 46 = .ok (.iconst 1, 1) := by decide +kernel
theorem dX4_ofPlan_47 : decode cX4_ofPlan 47 = .ok (.iaload, 1) := by decide +kernel
theorem dX4_ofPlan_48 : decode cX4_ofPlan 48 = .ok (.goto 10, 3) := by decide +kernel
theorem dX4_ofPlan_51 : decode cX4_ofPlan 51 = .ok (.aload_n 0, 1) := by decide +kernel
theorem dX4_ofPlan_52 : decode cX4_ofPlan 52 = .ok (.getfield 32, 3) := by decide +kernel
theorem dX4_ofPlan_55 : decode cX4_ofPlan 55 = .ok (.bipush 23, 2) := by decide +kernel
theorem dX4_ofPlan_57 : decode cX4_ofPlan 57 = .ok (.iaload, 1) := by decide +kernel
theorem dX4_ofPlan_58 : decode cX4_ofPlan 58 = .ok (.ireturn, 1) := by decide +kernel
set_option maxRecDepth 20000 in
theorem ggX4_toldOf_X4_bestOf : GoodIn wsX4_toldOf wsX4_bestOf := goodIn_r _ [8, 9, 1, 10, 11, 12, 7, 13, 14, 15, 16, 17, 18, 19, 20, 21, 22, 23, 24, 25, 26, 27, 28, 29, 30, 31, 32, 33, 34, 35, 36, 37, 38, 39, 40, 41, 42, 43, 44, 45, 46, 47, 68, 69, 70, 71, 72, 73, 74, 75, 76, 77, 78, 79, 80] (by decide +kernel) (by decide +kernel)
set_option maxRecDepth 20000 in
theorem gX4_toldOf_X4_bestOf : GoodIn wsX4_toldOf (wsV RX4 78 RX4 yX4_bestOf wsX4_bestOf) := goodIn_app (goodIn_of _ (by decide +kernel)) ggX4_toldOf_X4_bestOf
set_option maxRecDepth 20000 in
theorem ggX4_toldOf_X4_shown : GoodIn wsX4_toldOf wsX4_shown := goodIn_r _ [50, 19, 2] (by decide +kernel) (by decide +kernel)
set_option maxRecDepth 20000 in
theorem gX4_toldOf_X4_shown : GoodIn wsX4_toldOf (va_wsS RX4 93 yX4_shown wsX4_shown) := goodIn_app (goodIn_of _ (by decide +kernel)) ggX4_toldOf_X4_shown
set_option maxRecDepth 20000 in
theorem ggX4_toldOf_X4_ofPlan : GoodIn wsX4_toldOf wsX4_ofPlan := goodIn_r _ [54, 1, 55, 56, 57, 58, 7, 59, 19, 18, 9, 4, 5, 6, 8, 10, 11, 12, 13, 14, 15, 16, 17, 20, 21, 22, 23, 24, 25, 26, 27, 28, 29, 30, 31, 32, 33, 34, 35, 36, 37, 38, 39, 40, 41, 42, 43, 44, 45, 46, 47, 60, 61, 62, 63, 64, 65, 66, 67, 68, 69, 70, 71, 72, 73, 74, 75, 76, 77, 78, 79, 80] (by decide +kernel) (by decide +kernel)
set_option maxRecDepth 20000 in
theorem gX4_toldOf_X4_ofPlan : GoodIn wsX4_toldOf (wsV RX4 96 RX4 yX4_ofPlan wsX4_ofPlan) := goodIn_app (goodIn_of _ (by decide +kernel)) ggX4_toldOf_X4_ofPlan
theorem dX4_toldOf_0 : decode cX4_toldOf 0 = .ok (.iload_n 1, 1) := by decide +kernel
theorem dX4_toldOf_1 : decode cX4_toldOf 1 = .ok (.tableswitch 91 5 13 #[51, 91, 91, 61, 69, 80, 80, 80, 86], 51) := by decide +kernel
theorem dX4_toldOf_52 : decode cX4_toldOf 52 = .ok (.aload_n 0, 1) := by decide +kernel
theorem dX4_toldOf_53 : decode cX4_toldOf 53 = .ok (.getfield 7, 3) := by decide +kernel
theorem dX4_toldOf_56 : decode cX4_toldOf 56 = .ok (.iconst 5, 1) := by decide +kernel
theorem dX4_toldOf_57 : decode cX4_toldOf 57 = .ok (.iaload, 1) := by decide +kernel
theorem dX4_toldOf_58 : decode cX4_toldOf 58 = .ok (.bipush 100, 2) := by decide +kernel
theorem dX4_toldOf_60 : decode cX4_toldOf 60 = .ok (.iadd, 1) := by decide +kernel
theorem dX4_toldOf_61 : decode cX4_toldOf 61 = .ok (.ireturn, 1) := by decide +kernel
theorem dX4_toldOf_62 : decode cX4_toldOf 62 = .ok (.aload_n 0, 1) := by decide +kernel
theorem dX4_toldOf_63 : decode cX4_toldOf 63 = .ok (.invokevirtual 78, 3) := by decide +kernel
theorem dX4_toldOf_66 : decode cX4_toldOf 66 = .ok (.invokestatic 93, 3) := by decide +kernel
theorem dX4_toldOf_69 : decode cX4_toldOf 69 = .ok (.ireturn, 1) := by decide +kernel
theorem dX4_toldOf_70 : decode cX4_toldOf 70 = .ok (.aload_n 0, 1) := by decide +kernel
theorem dX4_toldOf_71 : decode cX4_toldOf 71 = .ok (.getfield 7, 3) := by decide +kernel
theorem dX4_toldOf_74 : decode cX4_toldOf 74 = .ok (.bipush 92, 2) := by decide +kernel
theorem dX4_toldOf_76 : decode cX4_toldOf 76 = .ok (.iaload, 1) := by decide +kernel
theorem dX4_toldOf_77 : decode cX4_toldOf 77 = .ok (.ldc 82, 2) := by decide +kernel
theorem dX4_toldOf_79 : decode cX4_toldOf 79 = .ok (.iadd, 1) := by decide +kernel
theorem dX4_toldOf_80 : decode cX4_toldOf 80 = .ok (.ireturn, 1) := by decide +kernel
theorem dX4_toldOf_81 : decode cX4_toldOf 81 = .ok (.aload_n 0, 1) := by decide +kernel
theorem dX4_toldOf_82 : decode cX4_toldOf 82 = .ok (.iload_n 1, 1) := by decide +kernel
theorem dX4_toldOf_83 : decode cX4_toldOf 83 = .ok (.invokevirtual 96, 3) := by decide +kernel
theorem dX4_toldOf_86 : decode cX4_toldOf 86 = .ok (.ireturn, 1) := by decide +kernel
theorem dX4_toldOf_87 : decode cX4_toldOf 87 = .ok (.aload_n 0, 1) := by decide +kernel
theorem dX4_toldOf_88 : decode cX4_toldOf 88 = .ok (.getfield 99, 3) := by decide +kernel
theorem dX4_toldOf_91 : decode cX4_toldOf 91 = .ok (.ireturn, 1) := by decide +kernel
theorem dX4_toldOf_92 : decode cX4_toldOf 92 = .ok (.aload_n 0, 1) := by decide +kernel
theorem dX4_toldOf_93 : decode cX4_toldOf 93 = .ok (.getfield 7, 3) := by decide +kernel
theorem dX4_toldOf_96 : decode cX4_toldOf 96 = .ok (.iload_n 1, 1) := by decide +kernel
theorem dX4_toldOf_97 : decode cX4_toldOf 97 = .ok (.iaload, 1) := by decide +kernel
theorem dX4_toldOf_98 : decode cX4_toldOf 98 = .ok (.ireturn, 1) := by decide +kernel
set_option maxRecDepth 20000 in
theorem ggX4_isBought_X4_toldPrice : GoodIn wsX4_isBought wsX4_toldPrice := goodIn_r _ [8, 9, 10, 11, 12, 7, 13, 14, 15, 16, 17, 18, 19, 20, 21, 22, 23, 55, 56, 57, 58, 59, 60, 61, 62, 63, 64, 65, 66, 67] (by decide +kernel) (by decide +kernel)
set_option maxRecDepth 20000 in
theorem gX4_isBought_X4_toldPrice : GoodIn wsX4_isBought (wsV RX4 61 RX4 yX4_toldPrice wsX4_toldPrice) := goodIn_app (goodIn_of _ (by decide +kernel)) ggX4_isBought_X4_toldPrice
set_option maxRecDepth 20000 in
theorem ggX4_isBought_X4_isPlanned : GoodIn wsX4_isBought wsX4_isPlanned := goodIn_r _ [27, 28, 9, 29, 30, 3, 31, 32, 33, 7, 34, 35, 36, 37, 38, 39, 40, 41, 42, 43, 44, 45, 46, 1, 2, 4, 5, 6, 8, 10, 11, 12, 13, 14, 15, 16, 17, 18, 19, 20, 21, 22, 23, 47, 48, 49, 50, 55, 56, 57, 58, 59, 60, 61, 62, 63, 64, 65, 66, 67] (by decide +kernel) (by decide +kernel)
set_option maxRecDepth 20000 in
theorem gX4_isBought_X4_isPlanned : GoodIn wsX4_isBought (wsV RX4 86 RX4 yX4_isPlanned wsX4_isPlanned) := goodIn_app (goodIn_of _ (by decide +kernel)) ggX4_isBought_X4_isPlanned
set_option maxRecDepth 20000 in
theorem ggX4_isBought_X4_before : GoodIn wsX4_isBought wsX4_before := goodIn_r _ [54, 9, 3, 55, 56, 57, 58, 59, 60, 61, 62, 63, 64, 65, 66, 67] (by decide +kernel) (by decide +kernel)
set_option maxRecDepth 20000 in
theorem gX4_isBought_X4_before : GoodIn wsX4_isBought (wsV RX4 83 RX4 yX4_before wsX4_before) := goodIn_app (goodIn_of _ (by decide +kernel)) ggX4_isBought_X4_before
theorem dX4_isBought_0 : decode cX4_isBought 0 = .ok (.aload_n 0, 1) := by decide +kernel
theorem dX4_isBought_1 : decode cX4_isBought 1 = .ok (.iload_n 1, 1) := by decide +kernel
theorem dX4_isBought_2 : decode cX4_isBought 2 = .ok (.putfield 39, 3) := by decide +kernel
theorem dX4_isBought_5 : decode cX4_isBought 5 = .ok (.aload_n 0, 1) := by decide +kernel
theorem dX4_isBought_6 : decode cX4_isBought 6 = .ok (.aload_n 0, 1) := by decide +kernel
theorem dX4_isBought_7 : decode cX4_isBought 7 = .ok (.iload_n 1, 1) := by decide +kernel
theorem dX4_isBought_8 : decode cX4_isBought 8 = .ok (.invokevirtual 61, 3) := by decide +kernel
theorem dX4_isBought_11 : decode cX4_isBought 11 = .ok (.iload_n 2, 1) := by decide +kernel
theorem dX4_isBought_12 : decode cX4_isBought 12 = .ok (.iadd, 1) := by decide +kernel
theorem dX4_isBought_13 : decode cX4_isBought 13 = .ok (.putfield 58, 3) := by decide +kernel
theorem dX4_isBought_16 : decode cX4_isBought 16 = .ok (.aload_n 0, 1) := by decide +kernel
theorem dX4_isBought_17 : decode cX4_isBought 17 = .ok (.invokevirtual 86, 3) := by decide +kernel
theorem dX4_isBought_20 : decode cX4_isBought 20 = .ok (.ifCond .eq 21, 3) := by decide +kernel
theorem dX4_isBought_23 : decode cX4_isBought 23 = .ok (.aload_n 0, 1) := by decide +kernel
theorem dX4_isBought_24 : decode cX4_isBought 24 = .ok (.getfield 32, 3) := by decide +kernel
theorem dX4_isBought_27 : decode cX4_isBought 27 = .ok (.iload_n 1, 1) := by decide +kernel
theorem dX4_isBought_28 : decode cX4_isBought 28 = .ok (.iaload, 1) := by decide +kernel
theorem dX4_isBought_29 : decode cX4_isBought 29 = .ok (.aload_n 0, 1) := by decide +kernel
theorem dX4_isBought_30 : decode cX4_isBought 30 = .ok (.iload_n 1, 1) := by decide +kernel
theorem dX4_isBought_31 : decode cX4_isBought 31 = .ok (.invokevirtual 83, 3) := by decide +kernel
theorem dX4_isBought_34 : decode cX4_isBought 34 = .ok (.if_icmp .le 7, 3) := by decide +kernel
theorem dX4_isBought_37 : decode cX4_isBought 37 = .ok (.iconst 1, 1) := by decide +kernel
theorem dX4_isBought_38 : decode cX4_isBought 38 = .ok (.goto 4, 3) := by decide +kernel
theorem dX4_isBought_41 : decode cX4_isBought 41 = .ok (.iconst 0, 1) := by decide +kernel
theorem dX4_isBought_42 : decode cX4_isBought 42 = .ok (.istore_n 3, 1) := by decide +kernel
theorem dX4_isBought_43 : decode cX4_isBought 43 = .ok (.aload_n 0, 1) := by decide +kernel
theorem dX4_isBought_44 : decode cX4_isBought 44 = .ok (.iconst (-1), 1) := by decide +kernel
theorem dX4_isBought_45 : decode cX4_isBought 45 = .ok (.putfield 39, 3) := by decide +kernel
theorem dX4_isBought_48 : decode cX4_isBought 48 = .ok (.iload_n 3, 1) := by decide +kernel
theorem dX4_isBought_49 : decode cX4_isBought 49 = .ok (.ireturn, 1) := by decide +kernel
set_option maxRecDepth 20000 in
theorem ggX4_dearOf_X4_isBought : GoodIn wsX4_dearOf wsX4_isBought := goodIn_r _ [5, 6, 7, 8, 9, 10, 11, 4, 12, 13, 14, 15, 16, 17, 18, 19, 20, 21, 22, 23, 24, 25, 26, 27, 28, 29, 30, 31, 32, 33, 34, 35, 36, 37, 38, 39, 40, 41, 42, 43, 44, 45, 46, 47, 48, 49, 50, 51, 52, 53, 54, 55, 56, 57, 58, 59, 60, 61, 62, 63, 64, 65, 66, 67, 68, 69, 70, 71] (by decide +kernel) (by decide +kernel)
set_option maxRecDepth 20000 in
theorem gX4_dearOf_X4_isBought : GoodIn wsX4_dearOf (wsV RX4 102 RX4 yX4_isBought wsX4_isBought) := goodIn_app (goodIn_of _ (by decide +kernel)) ggX4_dearOf_X4_isBought
theorem dX4_dearOf_0 : decode cX4_dearOf 0 = .ok (.iconst 0, 1) := by decide +kernel
theorem dX4_dearOf_1 : decode cX4_dearOf 1 = .ok (.istore_n 2, 1) := by decide +kernel
theorem dX4_dearOf_2 : decode cX4_dearOf 2 = .ok (.sipush 1000, 3) := by decide +kernel
theorem dX4_dearOf_5 : decode cX4_dearOf 5 = .ok (.istore_n 3, 1) := by decide +kernel
theorem dX4_dearOf_6 : decode cX4_dearOf 6 = .ok (.iload_n 2, 1) := by decide +kernel
theorem dX4_dearOf_7 : decode cX4_dearOf 7 = .ok (.iload_n 3, 1) := by decide +kernel
theorem dX4_dearOf_8 : decode cX4_dearOf 8 = .ok (.if_icmp .ge 34, 3) := by decide +kernel
theorem dX4_dearOf_11 : decode cX4_dearOf 11 = .ok (.iload_n 2, 1) := by decide +kernel
theorem dX4_dearOf_12 : decode cX4_dearOf 12 = .ok (.iload_n 3, 1) := by decide +kernel
theorem dX4_dearOf_13 : decode cX4_dearOf 13 = .ok (.iadd, 1) := by decide +kernel
theorem dX4_dearOf_14 : decode cX4_dearOf 14 = .ok (.iconst 2, 1) := by decide +kernel
theorem dX4_dearOf_15 : decode cX4_dearOf 15 = .ok (.idiv, 1) := by decide +kernel
theorem dX4_dearOf_16 : decode cX4_dearOf 16 = .ok (.istore 4, 2) := by decide +kernel
theorem dX4_dearOf_18 : decode cX4_dearOf 18 = .ok (.aload_n 0, 1) := by decide +kernel
theorem dX4_dearOf_19 : decode cX4_dearOf 19 = .ok (.iload_n 1, 1) := by decide +kernel
theorem dX4_dearOf_20 : decode cX4_dearOf 20 = .ok (.iload 4, 2) := by decide +kernel
theorem dX4_dearOf_22 : decode cX4_dearOf 22 = .ok (.invokevirtual 102, 3) := by decide +kernel
theorem dX4_dearOf_25 : decode cX4_dearOf 25 = .ok (.ifCond .eq 11, 3) := by decide +kernel
theorem dX4_dearOf_28 : decode cX4_dearOf 28 = .ok (.iload 4, 2) := by decide +kernel
theorem dX4_dearOf_30 : decode cX4_dearOf 30 = .ok (.iconst 1, 1) := by decide +kernel
theorem dX4_dearOf_31 : decode cX4_dearOf 31 = .ok (.iadd, 1) := by decide +kernel
theorem dX4_dearOf_32 : decode cX4_dearOf 32 = .ok (.istore_n 2, 1) := by decide +kernel
theorem dX4_dearOf_33 : decode cX4_dearOf 33 = .ok (.goto 6, 3) := by decide +kernel
theorem dX4_dearOf_36 : decode cX4_dearOf 36 = .ok (.iload 4, 2) := by decide +kernel
theorem dX4_dearOf_38 : decode cX4_dearOf 38 = .ok (.istore_n 3, 1) := by decide +kernel
theorem dX4_dearOf_39 : decode cX4_dearOf 39 = .ok (.goto (-33), 3) := by decide +kernel
theorem dX4_dearOf_42 : decode cX4_dearOf 42 = .ok (.iload_n 2, 1) := by decide +kernel
theorem dX4_dearOf_43 : decode cX4_dearOf 43 = .ok (.sipush 999, 3) := by decide +kernel
theorem dX4_dearOf_46 : decode cX4_dearOf 46 = .ok (.if_icmp .le 7, 3) := by decide +kernel
theorem dX4_dearOf_49 : decode cX4_dearOf 49 = .ok (.iconst (-1), 1) := by decide +kernel
theorem dX4_dearOf_50 : decode cX4_dearOf 50 = .ok (.goto 4, 3) := by decide +kernel
theorem dX4_dearOf_53 : decode cX4_dearOf 53 = .ok (.iload_n 2, 1) := by decide +kernel
theorem dX4_dearOf_54 : decode cX4_dearOf 54 = .ok (.ireturn, 1) := by decide +kernel
set_option maxRecDepth 20000 in
theorem ggX4_bendsOf_X4_lay : GoodIn wsX4_bendsOf wsX4_lay := goodIn_r _ [7, 1, 8, 9, 10, 11, 6, 12, 13, 2, 14, 15, 16, 17, 18, 19, 20, 21, 22, 23, 24, 25, 26, 27, 28, 29, 30, 31, 32, 33, 34, 35, 36, 37, 38, 39, 40, 41, 42, 43, 44, 45, 46, 47, 48, 49, 50, 51, 52, 53, 54] (by decide +kernel) (by decide +kernel)
set_option maxRecDepth 20000 in
theorem gX4_bendsOf_X4_lay : GoodIn wsX4_bendsOf (wsV RX4 75 RX4 yX4_lay wsX4_lay) := goodIn_app (goodIn_of _ (by decide +kernel)) ggX4_bendsOf_X4_lay
theorem dX4_bendsOf_0 : decode cX4_bendsOf 0 = .ok (.aload_n 0, 1) := by decide +kernel
theorem dX4_bendsOf_1 : decode cX4_bendsOf 1 = .ok (.invokevirtual 75, 3) := by decide +kernel
theorem dX4_bendsOf_4 : decode cX4_bendsOf 4 = .ok (.bipush 61, 2) := by decide +kernel
theorem dX4_bendsOf_6 : decode cX4_bendsOf 6 = .ok (.iload_n 1, 1) := by decide +kernel
theorem dX4_bendsOf_7 : decode cX4_bendsOf 7 = .ok (.imul, 1) := by decide +kernel
theorem dX4_bendsOf_8 : decode cX4_bendsOf 8 = .ok (.istore_n 2, 1) := by decide +kernel
theorem dX4_bendsOf_9 : decode cX4_bendsOf 9 = .ok (.iconst 0, 1) := by decide +kernel
theorem dX4_bendsOf_10 : decode cX4_bendsOf 10 = .ok (.istore_n 3, 1) := by decide +kernel
theorem dX4_bendsOf_11 : decode cX4_bendsOf 11 = .ok (.aload_n 0, 1) := by decide +kernel
theorem dX4_bendsOf_12 : decode cX4_bendsOf 12 = .ok (.getfield 29, 3) := by decide +kernel
theorem dX4_bendsOf_15 : decode cX4_bendsOf 15 = .ok (.iload_n 2, 1) := by decide +kernel
theorem dX4_bendsOf_16 : decode cX4_bendsOf 16 = .ok (.iaload, 1) := by decide +kernel
theorem dX4_bendsOf_17 : decode cX4_bendsOf 17 = .ok (.ldc 67, 2) := by decide +kernel
theorem dX4_bendsOf_19 : decode cX4_bendsOf 19 = .ok (.if_icmp .eq 7, 3) := by decide +kernel
theorem dX4_bendsOf_22 : decode cX4_bendsOf 22 = .ok (.iconst 1, 1) := by decide +kernel
theorem dX4_bendsOf_23 : decode cX4_bendsOf 23 = .ok (.goto 4, 3) := by decide +kernel
theorem dX4_bendsOf_26 : decode cX4_bendsOf 26 = .ok (.iconst 0, 1) := by decide +kernel
theorem dX4_bendsOf_27 : decode cX4_bendsOf 27 = .ok (.istore 4, 2) := by decide +kernel
theorem dX4_bendsOf_29 : decode cX4_bendsOf 29 = .ok (.iconst 1, 1) := by decide +kernel
theorem dX4_bendsOf_30 : decode cX4_bendsOf 30 = .ok (.istore 5, 2) := by decide +kernel
theorem dX4_bendsOf_32 : decode cX4_bendsOf 32 = .ok (.iload 5, 2) := by decide +kernel
theorem dX4_bendsOf_34 : decode cX4_bendsOf 34 = .ok (.bipush 61, 2) := by decide +kernel
theorem dX4_bendsOf_36 : decode cX4_bendsOf 36 = .ok (.if_icmp .ge 153, 3) := by decide +kernel
theorem dX4_bendsOf_39 : decode cX4_bendsOf 39 = .ok (.iload 4, 2) := by decide +kernel
theorem dX4_bendsOf_41 : decode cX4_bendsOf 41 = .ok (.ifCond .ne 17, 3) := by decide +kernel
theorem dX4_bendsOf_44 : decode cX4_bendsOf 44 = .ok (.aload_n 0, 1) := by decide +kernel
theorem dX4_bendsOf_45 : decode cX4_bendsOf 45 = .ok (.getfield 29, 3) := by decide +kernel
theorem dX4_bendsOf_48 : decode cX4_bendsOf 48 = .ok (.iload_n 2, 1) := by decide +kernel
theorem dX4_bendsOf_49 : decode cX4_bendsOf 49 = .ok (.iload 5, 2) := by decide +kernel
theorem dX4_bendsOf_51 : decode cX4_bendsOf 51 = .ok (.iadd, 1) := by decide +kernel
theorem dX4_bendsOf_52 : decode cX4_bendsOf 52 = .ok (.iaload, 1) := by decide +kernel
theorem dX4_bendsOf_53 : decode cX4_bendsOf 53 = .ok (.ldc 67, 2) := by decide +kernel
theorem dX4_bendsOf_55 : decode cX4_bendsOf 55 = .ok (.if_icmp .eq 7, 3) := by decide +kernel
theorem dX4_bendsOf_58 : decode cX4_bendsOf 58 = .ok (.iconst 1, 1) := by decide +kernel
theorem dX4_bendsOf_59 : decode cX4_bendsOf 59 = .ok (.goto 4, 3) := by decide +kernel
theorem dX4_bendsOf_62 : decode cX4_bendsOf 62 = .ok (.iconst 0, 1) := by decide +kernel
theorem dX4_bendsOf_63 : decode cX4_bendsOf 63 = .ok (.istore 4, 2) := by decide +kernel
theorem dX4_bendsOf_65 : decode cX4_bendsOf 65 = .ok (.iload 5, 2) := by decide +kernel
theorem dX4_bendsOf_67 : decode cX4_bendsOf 67 = .ok (.bipush 60, 2) := by decide +kernel
theorem dX4_bendsOf_69 : decode cX4_bendsOf 69 = .ok (.if_icmp .ge 53, 3) := by decide +kernel
theorem dX4_bendsOf_72 : decode cX4_bendsOf 72 = .ok (.aload_n 0, 1) := by decide +kernel
theorem dX4_bendsOf_73 : decode cX4_bendsOf 73 = .ok (.getfield 29, 3) := by decide +kernel
theorem dX4_bendsOf_76 : decode cX4_bendsOf 76 = .ok (.iload_n 2, 1) := by decide +kernel
theorem dX4_bendsOf_77 : decode cX4_bendsOf 77 = .ok (.iload 5, 2) := by decide +kernel
theorem dX4_bendsOf_79 : decode cX4_bendsOf 79 = .ok (.iadd, 1) := by decide +kernel
theorem dX4_bendsOf_80 : decode cX4_bendsOf 80 = .ok (.iconst 1, 1) := by decide +kernel
theorem dX4_bendsOf_81 : decode cX4_bendsOf 81 = .ok (.isub, 1) := by decide +kernel
theorem dX4_bendsOf_82 : decode cX4_bendsOf 82 = .ok (.iaload, 1) := by decide +kernel
theorem dX4_bendsOf_83 : decode cX4_bendsOf 83 = .ok (.ldc 67, 2) := by decide +kernel
theorem dX4_bendsOf_85 : decode cX4_bendsOf 85 = .ok (.if_icmp .eq 37, 3) := by decide +kernel
theorem dX4_bendsOf_88 : decode cX4_bendsOf 88 = .ok (.aload_n 0, 1) := by decide +kernel
theorem dX4_bendsOf_89 : decode cX4_bendsOf 89 = .ok (.getfield 29, 3) := by decide +kernel
theorem dX4_bendsOf_92 : decode cX4_bendsOf 92 = .ok (.iload_n 2, 1) := by decide +kernel
theorem dX4_bendsOf_93 : decode cX4_bendsOf 93 = .ok (.iload 5, 2) := by decide +kernel
theorem dX4_bendsOf_95 : decode cX4_bendsOf 95 = .ok (.iadd, 1) := by decide +kernel
theorem dX4_bendsOf_96 : decode cX4_bendsOf 96 = .ok (.iaload, 1) := by decide +kernel
theorem dX4_bendsOf_97 : decode cX4_bendsOf 97 = .ok (.ldc 67, 2) := by decide +kernel
theorem dX4_bendsOf_99 : decode cX4_bendsOf 99 = .ok (.if_icmp .eq 23, 3) := by decide +kernel
theorem dX4_bendsOf_102 : decode cX4_bendsOf 102 = .ok (.aload_n 0, 1) := by decide +kernel
theorem dX4_bendsOf_103 : decode cX4_bendsOf 103 = .ok (.getfield 29, 3) := by decide +kernel
theorem dX4_bendsOf_106 : decode cX4_bendsOf 106 = .ok (.iload_n 2, 1) := by decide +kernel
theorem dX4_bendsOf_107 : decode cX4_bendsOf 107 = .ok (.iload 5, 2) := by decide +kernel
theorem dX4_bendsOf_109 : decode cX4_bendsOf 109 = .ok (.iadd, 1) := by decide +kernel
theorem dX4_bendsOf_110 : decode cX4_bendsOf 110 = .ok (.iconst 1, 1) := by decide +kernel
theorem dX4_bendsOf_111 : decode cX4_bendsOf 111 = .ok (.iadd, 1) := by decide +kernel
theorem dX4_bendsOf_112 : decode cX4_bendsOf 112 = .ok (.iaload, 1) := by decide +kernel
theorem dX4_bendsOf_113 : decode cX4_bendsOf 113 = .ok (.ldc 67, 2) := by decide +kernel
theorem dX4_bendsOf_115 : decode cX4_bendsOf 115 = .ok (.if_icmp .eq 7, 3) := by decide +kernel
theorem dX4_bendsOf_118 : decode cX4_bendsOf 118 = .ok (.iconst 1, 1) := by decide +kernel
theorem dX4_bendsOf_119 : decode cX4_bendsOf 119 = .ok (.goto 4, 3) := by decide +kernel
theorem dX4_bendsOf_122 : decode cX4_bendsOf 122 = .ok (.iconst 0, 1) := by decide +kernel
theorem dX4_bendsOf_123 : decode cX4_bendsOf 123 = .ok (.istore 6, 2) := by decide +kernel
theorem dX4_bendsOf_125 : decode cX4_bendsOf 125 = .ok (.iload_n 3, 1) := by decide +kernel
theorem dX4_bendsOf_126 : decode cX4_bendsOf 126 = .ok (.iload 6, 2) := by decide +kernel
theorem dX4_bendsOf_128 : decode cX4_bendsOf 128 = .ok (.ifCond .eq 52, 3) := by decide +kernel
theorem dX4_bendsOf_131 : decode cX4_bendsOf 131 = .ok (.aload_n 0, 1) := by decide +kernel
theorem dX4_bendsOf_132 : decode cX4_bendsOf 132 = .ok (.getfield 29, 3) := by decide +kernel
theorem dX4_bendsOf_135 : decode cX4_bendsOf 135 = .ok (.iload_n 2, 1) := by decide +kernel
theorem dX4_bendsOf_136 : decode cX4_bendsOf 136 = .ok (.iload 5, 2) := by decide +kernel
theorem dX4_bendsOf_138 : decode cX4_bendsOf 138 = .ok (.iadd, 1) := by decide +kernel
theorem dX4_bendsOf_139 : decode cX4_bendsOf 139 = .ok (.iaload, 1) := by decide +kernel
theorem dX4_bendsOf_140 : decode cX4_bendsOf 140 = .ok (.aload_n 0, 1) := by decide +kernel
theorem dX4_bendsOf_141 : decode cX4_bendsOf 141 = .ok (.getfield 29, 3) := by decide +kernel
theorem dX4_bendsOf_144 : decode cX4_bendsOf 144 = .ok (.iload_n 2, 1) := by decide +kernel
theorem dX4_bendsOf_145 : decode cX4_bendsOf 145 = .ok (.iload 5, 2) := by decide +kernel
theorem dX4_bendsOf_147 : decode cX4_bendsOf 147 = .ok (.iadd, 1) := by decide +kernel
theorem dX4_bendsOf_148 : decode cX4_bendsOf 148 = .ok (.iconst 1, 1) := by decide +kernel
theorem dX4_bendsOf_149 : decode cX4_bendsOf 149 = .ok (.isub, 1) := by decide +kernel
theorem dX4_bendsOf_150 : decode cX4_bendsOf 150 = .ok (.iaload, 1) := by decide +kernel
theorem dX4_bendsOf_151 : decode cX4_bendsOf 151 = .ok (.isub, 1) := by decide +kernel
theorem dX4_bendsOf_152 : decode cX4_bendsOf 152 = .ok (.aload_n 0, 1) := by decide +kernel
theorem dX4_bendsOf_153 : decode cX4_bendsOf 153 = .ok (.getfield 29, 3) := by decide +kernel
theorem dX4_bendsOf_156 : decode cX4_bendsOf 156 = .ok (.iload_n 2, 1) := by decide +kernel
theorem dX4_bendsOf_157 : decode cX4_bendsOf 157 = .ok (.iload 5, 2) := by decide +kernel
theorem dX4_bendsOf_159 : decode cX4_bendsOf 159 = .ok (.iadd, 1) := by decide +kernel
theorem dX4_bendsOf_160 : decode cX4_bendsOf 160 = .ok (.iconst 1, 1) := by decide +kernel
theorem dX4_bendsOf_161 : decode cX4_bendsOf 161 = .ok (.iadd, 1) := by decide +kernel
theorem dX4_bendsOf_162 : decode cX4_bendsOf 162 = .ok (.iaload, 1) := by decide +kernel
theorem dX4_bendsOf_163 : decode cX4_bendsOf 163 = .ok (.aload_n 0, 1) := by decide +kernel
theorem dX4_bendsOf_164 : decode cX4_bendsOf 164 = .ok (.getfield 29, 3) := by decide +kernel
theorem dX4_bendsOf_167 : decode cX4_bendsOf 167 = .ok (.iload_n 2, 1) := by decide +kernel
theorem dX4_bendsOf_168 : decode cX4_bendsOf 168 = .ok (.iload 5, 2) := by decide +kernel
theorem dX4_bendsOf_170 : decode cX4_bendsOf 170 = .ok (.iadd, 1) := by decide +kernel
theorem dX4_bendsOf_171 : decode cX4_bendsOf 171 = .ok (.iaload, 1) := by decide +kernel
theorem dX4_bendsOf_172 : decode cX4_bendsOf 172 = .ok (.isub, 1) := by decide +kernel
theorem dX4_bendsOf_173 : decode cX4_bendsOf 173 = .ok (.if_icmp .eq 7, 3) := by decide +kernel
theorem dX4_bendsOf_176 : decode cX4_bendsOf 176 = .ok (.iconst 1, 1) := by decide +kernel
theorem dX4_bendsOf_177 : decode cX4_bendsOf 177 = .ok (.goto 4, 3) := by decide +kernel
theorem dX4_bendsOf_180 : decode cX4_bendsOf 180 = .ok (.iconst 0, 1) := by decide +kernel
theorem dX4_bendsOf_181 : decode cX4_bendsOf 181 = .ok (.iadd, 1) := by decide +kernel
theorem dX4_bendsOf_182 : decode cX4_bendsOf 182 = .ok (.istore_n 3, 1) := by decide +kernel
theorem dX4_bendsOf_183 : decode cX4_bendsOf 183 = .ok (.iinc 5 1, 3) := by decide +kernel
theorem dX4_bendsOf_186 : decode cX4_bendsOf 186 = .ok (.goto (-154), 3) := by decide +kernel
theorem dX4_bendsOf_189 : decode cX4_bendsOf 189 = .ok (.iload 4, 2) := by decide +kernel
theorem dX4_bendsOf_191 : decode cX4_bendsOf 191 = .ok (.ifCond .eq 7, 3) := by decide +kernel
theorem dX4_bendsOf_194 : decode cX4_bendsOf 194 = .ok (.iload_n 3, 1) := by decide +kernel
theorem dX4_bendsOf_195 : decode cX4_bendsOf 195 = .ok (.goto 4, 3) := by decide +kernel
theorem dX4_bendsOf_198 : decode cX4_bendsOf 198 = .ok (.iconst (-1), 1) := by decide +kernel
theorem dX4_bendsOf_199 : decode cX4_bendsOf 199 = .ok (.ireturn, 1) := by decide +kernel
