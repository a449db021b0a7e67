set_option maxRecDepth 20000 in
theorem ggX3_undo_X3_isOutside : GoodIn wsX3_undo wsX3_isOutside := goodIn_r _ [10] (by decide +kernel) (by decide +kernel)
set_option maxRecDepth 20000 in
theorem gX3_undo_X3_isOutside : GoodIn wsX3_undo (va_wsS RX3 137 yX3_isOutside wsX3_isOutside) := goodIn_app (goodIn_of _ (by decide +kernel)) ggX3_undo_X3_isOutside
set_option maxRecDepth 20000 in
theorem ggX3_undo_J9_floorMod_7cf53 : GoodIn wsX3_undo wsJ9_floorMod_7cf53 := goodIn_r _ [14] (by decide +kernel) (by decide +kernel)
set_option maxRecDepth 20000 in
theorem gX3_undo_J9_floorMod_7cf53 : GoodIn wsX3_undo (va_wsS RX3 173 yJ9_floorMod_7cf53 wsJ9_floorMod_7cf53) := goodIn_app (goodIn_of _ (by decide +kernel)) ggX3_undo_J9_floorMod_7cf53
set_option maxRecDepth 20000 in
theorem ggX3_undo_X0_take : GoodIn wsX3_undo wsX0_take := goodIn_r _ [19, 20, 21, 22, 23, 24, 25, 26, 27, 28, 29, 30, 31, 32, 33, 34, 35, 36, 37, 38, 39, 40, 41, 165, 166, 167, 168, 169, 170, 171, 172, 173, 174, 175, 176, 177] (by decide +kernel) (by decide +kernel)
set_option maxRecDepth 20000 in
theorem gX3_undo_X0_take : GoodIn wsX3_undo (wsV RX3 178 RX0 yX0_take wsX0_take) := goodIn_app (goodIn_of _ (by decide +kernel)) ggX3_undo_X0_take
set_option maxRecDepth 20000 in
theorem ggX3_undo_X3_settle : GoodIn wsX3_undo wsX3_settle := goodIn_r _ [45, 46, 6, 47, 48, 49, 50, 51, 52, 53, 54, 55, 56, 57, 58, 59, 60, 61, 62, 63, 64, 65, 66, 67, 68, 69, 70, 71, 25, 72, 35, 73, 74, 75, 76, 77, 78, 79, 80, 41, 81, 82, 83, 84, 85, 86, 87, 88, 89, 90, 91, 92, 93, 94, 95, 96, 97, 98, 99, 100, 101, 102, 103, 104, 105, 106, 107, 108, 109, 110, 111, 112, 113, 114, 115, 116, 117, 118, 119, 120, 121, 122, 123, 124, 125, 126, 127, 128, 129, 130, 131, 132, 133, 134, 135, 136, 137, 138, 139, 140, 141, 9, 142, 143, 144, 145, 146, 147, 148, 149, 150, 151, 152, 153, 154, 155, 156, 157, 158, 159, 160, 161, 162, 163, 164, 167, 168, 169, 170, 171, 172, 173, 174, 175, 176, 177, 178, 179, 180, 181, 182, 183, 184, 185, 186, 187, 188, 189] (by decide +kernel) (by decide +kernel)
set_option maxRecDepth 20000 in
theorem gX3_undo_X3_settle : GoodIn wsX3_undo (wsV RX3 49 RX3 yX3_settle wsX3_settle) := goodIn_app (goodIn_of _ (by decide +kernel)) ggX3_undo_X3_settle
theorem dX3_undo_0 : decode cX3_undo 0 = .ok (.iload_n 1, 1) := by decide +kernel
theorem dX3_undo_1 : decode cX3_undo 1 = .ok (.iconst 1, 1) := by decide +kernel
theorem dX3_undo_2 : decode cX3_undo 2 = .ok (.bipush 40, 2) := by decide +kernel
theorem dX3_undo_4 : decode cX3_undo 4 = .ok (.invokestatic 137, 3) := by decide +kernel
theorem dX3_undo_7 : decode cX3_undo 7 = .ok (.ifCond .eq 6, 3) := by decide +kernel
theorem dX3_undo_10 : decode cX3_undo 10 = .ok (.ldc 100, 2) := by decide +kernel
theorem dX3_undo_12 : decode cX3_undo 12 = .ok (.ireturn, 1) := by decide +kernel
theorem dX3_undo_13 : decode cX3_undo 13 = .ok (.iload_n 1, 1) := by decide +kernel
theorem dX3_undo_14 : decode cX3_undo 14 = .ok (.aload_n 0, 1) := by decide +kernel
theorem dX3_undo_15 : decode cX3_undo 15 = .ok (.getfield 97, 3) := by decide +kernel
theorem dX3_undo_18 : decode cX3_undo 18 = .ok (.if_icmp .le 6, 3) := by decide +kernel
theorem dX3_undo_21 : decode cX3_undo 21 = .ok (.ldc 162, 2) := by decide +kernel
theorem dX3_undo_23 : decode cX3_undo 23 = .ok (.ireturn, 1) := by decide +kernel
theorem dX3_undo_24 : decode cX3_undo 24 = .ok (.aload_n 0, 1) := by decide +kernel
theorem dX3_undo_25 : decode cX3_undo 25 = .ok (.getfield 170, 3) := by decide +kernel
theorem dX3_undo_28 : decode cX3_undo 28 = .ok (.iload_n 1, 1) := by decide +kernel
theorem dX3_undo_29 : decode cX3_undo 29 = .ok (.isub, 1) := by decide +kernel
theorem dX3_undo_30 : decode cX3_undo 30 = .ok (.iconst 1, 1) := by decide +kernel
theorem dX3_undo_31 : decode cX3_undo 31 = .ok (.iadd, 1) := by decide +kernel
theorem dX3_undo_32 : decode cX3_undo 32 = .ok (.bipush 40, 2) := by decide +kernel
theorem dX3_undo_34 : decode cX3_undo 34 = .ok (.invokestatic 173, 3) := by decide +kernel
theorem dX3_undo_37 : decode cX3_undo 37 = .ok (.istore_n 2, 1) := by decide +kernel
theorem dX3_undo_38 : decode cX3_undo 38 = .ok (.aload_n 0, 1) := by decide +kernel
theorem dX3_undo_39 : decode cX3_undo 39 = .ok (.getfield 35, 3) := by decide +kernel
theorem dX3_undo_42 : decode cX3_undo 42 = .ok (.iload_n 2, 1) := by decide +kernel
theorem dX3_undo_43 : decode cX3_undo 43 = .ok (.aload_n 0, 1) := by decide +kernel
theorem dX3_undo_44 : decode cX3_undo 44 = .ok (.getfield 12, 3) := by decide +kernel
theorem dX3_undo_47 : decode cX3_undo 47 = .ok (.invokevirtual 178, 3) := by decide +kernel
theorem dX3_undo_50 : decode cX3_undo 50 = .ok (.aload_n 0, 1) := by decide +kernel
theorem dX3_undo_51 : decode cX3_undo 51 = .ok (.aload_n 0, 1) := by decide +kernel
theorem dX3_undo_52 : decode cX3_undo 52 = .ok (.getfield 170, 3) := by decide +kernel
theorem dX3_undo_55 : decode cX3_undo 55 = .ok (.iload_n 1, 1) := by decide +kernel
theorem dX3_undo_56 : decode cX3_undo 56 = .ok (.isub, 1) := by decide +kernel
theorem dX3_undo_57 : decode cX3_undo 57 = .ok (.bipush 40, 2) := by decide +kernel
theorem dX3_undo_59 : decode cX3_undo 59 = .ok (.invokestatic 173, 3) := by decide +kernel
theorem dX3_undo_62 : decode cX3_undo 62 = .ok (.putfield 170, 3) := by decide +kernel
theorem dX3_undo_65 : decode cX3_undo 65 = .ok (.aload_n 0, 1) := by decide +kernel
theorem dX3_undo_66 : decode cX3_undo 66 = .ok (.dup, 1) := by decide +kernel
theorem dX3_undo_67 : decode cX3_undo 67 = .ok (.getfield 97, 3) := by decide +kernel
theorem dX3_undo_70 : decode cX3_undo 70 = .ok (.iload_n 1, 1) := by decide +kernel
theorem dX3_undo_71 : decode cX3_undo 71 = .ok (.isub, 1) := by decide +kernel
theorem dX3_undo_72 : decode cX3_undo 72 = .ok (.putfield 97, 3) := by decide +kernel
theorem dX3_undo_75 : decode cX3_undo 75 = .ok (.aload_n 0, 1) := by decide +kernel
theorem dX3_undo_76 : decode cX3_undo 76 = .ok (.invokevirtual 49, 3) := by decide +kernel
theorem dX3_undo_79 : decode cX3_undo 79 = .ok (.pop, 1) := by decide +kernel
theorem dX3_undo_80 : decode cX3_undo 80 = .ok (.aload_n 0, 1) := by decide +kernel
theorem dX3_undo_81 : decode cX3_undo 81 = .ok (.getfield 97, 3) := by decide +kernel
theorem dX3_undo_84 : decode cX3_undo 84 = .ok (.ireturn, 1) := by decide +kernel
set_option maxRecDepth 20000 in
theorem ggX3_gain_X3_isOutside : GoodIn wsX3_gain wsX3_isOutside := goodIn_r _ [22] (by decide +kernel) (by decide +kernel)
set_option maxRecDepth 20000 in
theorem gX3_gain_X3_isOutside : GoodIn wsX3_gain (va_wsS RX3 137 yX3_isOutside wsX3_isOutside) := goodIn_app (goodIn_of _ (by decide +kernel)) ggX3_gain_X3_isOutside
set_option maxRecDepth 20000 in
theorem ggX3_gain_X1_load : GoodIn wsX3_gain wsX1_load := goodIn_r _ [27, 28, 29, 30, 31, 32, 33, 34, 35, 36, 37, 38, 39, 40, 41, 42, 43, 44, 45, 46, 47, 48, 49, 50, 51, 52, 53, 54, 55, 56, 57, 58, 59, 60, 61, 62, 7, 63, 140, 141, 142, 143, 144, 145, 146, 147, 148, 149, 150, 151, 152, 153, 154, 155, 156, 157, 158, 159, 160, 161, 162] (by decide +kernel) (by decide +kernel)
set_option maxRecDepth 20000 in
theorem gX3_gain_X1_load : GoodIn wsX3_gain (wsV RX3 182 RX1 yX1_load wsX1_load) := goodIn_app (goodIn_of _ (by decide +kernel)) ggX3_gain_X1_load
set_option maxRecDepth 20000 in
theorem ggX3_gain_X1_widen : GoodIn wsX3_gain wsX1_widen := goodIn_r _ [67, 40, 68, 6, 7, 8, 151, 152, 153, 154, 155, 156, 157, 158, 159, 160, 161, 162] (by decide +kernel) (by decide +kernel)
set_option maxRecDepth 20000 in
theorem gX3_gain_X1_widen : GoodIn wsX3_gain (wsV RX3 186 RX1 yX1_widen wsX1_widen) := goodIn_app (goodIn_of _ (by decide +kernel)) ggX3_gain_X1_widen
set_option maxRecDepth 20000 in
theorem ggX3_gain_X1_solve : GoodIn wsX3_gain wsX1_solve := goodIn_r _ [72, 68, 6, 7, 8, 73, 14, 15, 74, 75, 76, 26, 77, 78, 79, 35, 80, 81, 82, 83, 40, 84, 39, 33, 85, 37, 86, 87, 88, 89, 90, 91, 92, 93, 94, 95, 96, 97, 98, 99, 100, 101, 38, 31, 102, 103, 104, 105, 106, 107, 108, 109, 29, 110, 111, 112, 113, 151, 152, 153, 154, 155, 156, 157, 158, 159, 160, 161, 162] (by decide +kernel) (by decide +kernel)
set_option maxRecDepth 20000 in
theorem gX3_gain_X1_solve : GoodIn wsX3_gain (wsV RX3 198 RX1 yX1_solve wsX1_solve) := goodIn_app (goodIn_of _ (by decide +kernel)) ggX3_gain_X1_solve
set_option maxRecDepth 20000 in
theorem ggX3_gain_X3_hasPlan : GoodIn wsX3_gain wsX3_hasPlan := goodIn_r _ [117, 3, 17, 118, 119, 120, 121, 26, 122, 78, 129, 130, 131, 132, 133, 134, 135, 136, 137, 138, 139, 140, 141, 142, 143, 144, 145, 146, 147, 148, 149, 150, 151, 152, 153, 154, 155, 156, 157, 158, 159, 160, 161, 162] (by decide +kernel) (by decide +kernel)
set_option maxRecDepth 20000 in
theorem gX3_gain_X3_hasPlan : GoodIn wsX3_gain (wsV RX3 86 RX3 yX3_hasPlan wsX3_hasPlan) := goodIn_app (goodIn_of _ (by decide +kernel)) ggX3_gain_X3_hasPlan
set_option maxRecDepth 20000 in
theorem ggX3_gain_X3_bestBy : GoodIn wsX3_gain wsX3_bestBy := goodIn_r _ [126, 3, 17, 118, 127, 114, 115, 116, 21, 117, 119, 120, 121, 26, 122, 78, 128, 95, 96, 97, 79, 129, 130, 131, 132, 133, 134, 135, 136, 137, 138, 139, 140, 141, 142, 143, 144, 145, 146, 147, 148, 149, 150, 151, 152, 153, 154, 155, 156, 157, 158, 159, 160, 161, 162] (by decide +kernel) (by decide +kernel)
set_option maxRecDepth 20000 in
theorem gX3_gain_X3_bestBy : GoodIn wsX3_gain (wsV RX3 78 RX3 yX3_bestBy wsX3_bestBy) := goodIn_app (goodIn_of _ (by decide +kernel)) ggX3_gain_X3_bestBy
theorem dX3_gain_0 : decode cX3_gain 0 = .ok (.iload_n 1, 1) := by decide +kernel
theorem dX3_gain_1 : decode cX3_gain 1 = .ok (.iconst 0, 1) := by decide +kernel
theorem dX3_gain_2 : decode cX3_gain 2 = .ok (.iconst 3, 1) := by decide +kernel
theorem dX3_gain_3 : decode cX3_gain 3 = .ok (.invokestatic 137, 3) := by decide +kernel
theorem dX3_gain_6 : decode cX3_gain 6 = .ok (.ifCond .eq 6, 3) := by decide +kernel
theorem dX3_gain_9 : decode cX3_gain 9 = .ok (.ldc 100, 2) := by decide +kernel
theorem dX3_gain_11 : decode cX3_gain 11 = .ok (.ireturn, 1) := by decide +kernel
theorem dX3_gain_12 : decode cX3_gain 12 = .ok (.aload_n 0, 1) := by decide +kernel
theorem dX3_gain_13 : decode cX3_gain 13 = .ok (.getfield 23, 3) := by decide +kernel
theorem dX3_gain_16 : decode cX3_gain 16 = .ok (.aload_n 0, 1) := by decide +kernel
theorem dX3_gain_17 : decode cX3_gain 17 = .ok (.getfield 12, 3) := by decide +kernel
theorem dX3_gain_20 : decode cX3_gain 20 = .ok (.invokevirtual 182, 3) := by decide +kernel
theorem dX3_gain_23 : decode cX3_gain 23 = .ok (.iload_n 1, 1) := by decide +kernel
theorem dX3_gain_24 : decode cX3_gain 24 = .ok (.tableswitch 86 0 2 #[28, 38, 62], 28) := by decide +kernel
theorem dX3_gain_52 : decode cX3_gain 52 = .ok (.aload_n 0, 1) := by decide +kernel
theorem dX3_gain_53 : decode cX3_gain 53 = .ok (.getfield 23, 3) := by decide +kernel
theorem dX3_gain_56 : decode cX3_gain 56 = .ok (.invokevirtual 186, 3) := by decide +kernel
theorem dX3_gain_59 : decode cX3_gain 59 = .ok (.goto 71, 3) := by decide +kernel
theorem dX3_gain_62 : decode cX3_gain 62 = .ok (.aload_n 0, 1) := by decide +kernel
theorem dX3_gain_63 : decode cX3_gain 63 = .ok (.getfield 23, 3) := by decide +kernel
theorem dX3_gain_66 : decode cX3_gain 66 = .ok (.bipush 9, 2) := by decide +kernel
theorem dX3_gain_68 : decode cX3_gain 68 = .ok (.aload_n 0, 1) := by decide +kernel
theorem dX3_gain_69 : decode cX3_gain 69 = .ok (.getfield 12, 3) := by decide +kernel
theorem dX3_gain_72 : decode cX3_gain 72 = .ok (.getfield 60, 3) := by decide +kernel
theorem dX3_gain_75 : decode cX3_gain 75 = .ok (.iconst 1, 1) := by decide +kernel
theorem dX3_gain_76 : decode cX3_gain 76 = .ok (.iadd, 1) := by decide +kernel
theorem dX3_gain_77 : decode cX3_gain 77 = .ok (.invokestatic 189, 3) := by decide +kernel
theorem dX3_gain_80 : decode cX3_gain 80 = .ok (.putfield 192, 3) := by decide +kernel
theorem dX3_gain_83 : decode cX3_gain 83 = .ok (.goto 47, 3) := by decide +kernel
theorem dX3_gain_86 : decode cX3_gain 86 = .ok (.aload_n 0, 1) := by decide +kernel
theorem dX3_gain_87 : decode cX3_gain 87 = .ok (.getfield 23, 3) := by decide +kernel
theorem dX3_gain_90 : decode cX3_gain 90 = .ok (.bipush 9, 2) := by decide +kernel
theorem dX3_gain_92 : decode cX3_gain 92 = .ok (.aload_n 0, 1) := by decide +kernel
theorem dX3_gain_93 : decode cX3_gain 93 = .ok (.getfield 12, 3) := by decide +kernel
theorem dX3_gain_96 : decode cX3_gain 96 = .ok (.getfield 63, 3) := by decide +kernel
theorem dX3_gain_99 : decode cX3_gain 99 = .ok (.iconst 1, 1) := by decide +kernel
theorem dX3_gain_100 : decode cX3_gain 100 = .ok (.iadd, 1) := by decide +kernel
theorem dX3_gain_101 : decode cX3_gain 101 = .ok (.invokestatic 189, 3) := by decide +kernel
theorem dX3_gain_104 : decode cX3_gain 104 = .ok (.putfield 193, 3) := by decide +kernel
theorem dX3_gain_107 : decode cX3_gain 107 = .ok (.goto 23, 3) := by decide +kernel
theorem dX3_gain_110 : decode cX3_gain 110 = .ok (.aload_n 0, 1) := by decide +kernel
theorem dX3_gain_111 : decode cX3_gain 111 = .ok (.getfield 23, 3) := by decide +kernel
theorem dX3_gain_114 : decode cX3_gain 114 = .ok (.iconst 0, 1) := by decide +kernel
theorem dX3_gain_115 : decode cX3_gain 115 = .ok (.aload_n 0, 1) := by decide +kernel
theorem dX3_gain_116 : decode cX3_gain 116 = .ok (.getfield 12, 3) := by decide +kernel
theorem dX3_gain_119 : decode cX3_gain 119 = .ok (.getfield 66, 3) := by decide +kernel
theorem dX3_gain_122 : decode cX3_gain 122 = .ok (.iconst 1, 1) := by decide +kernel
theorem dX3_gain_123 : decode cX3_gain 123 = .ok (.isub, 1) := by decide +kernel
theorem dX3_gain_124 : decode cX3_gain 124 = .ok (.invokestatic 194, 3) := by decide +kernel
theorem dX3_gain_127 : decode cX3_gain 127 = .ok (.putfield 197, 3) := by decide +kernel
theorem dX3_gain_130 : decode cX3_gain 130 = .ok (.aload_n 0, 1) := by decide +kernel
theorem dX3_gain_131 : decode cX3_gain 131 = .ok (.getfield 23, 3) := by decide +kernel
theorem dX3_gain_134 : decode cX3_gain 134 = .ok (.bipush 23, 2) := by decide +kernel
theorem dX3_gain_136 : decode cX3_gain 136 = .ok (.aload_n 0, 1) := by decide +kernel
theorem dX3_gain_137 : decode cX3_gain 137 = .ok (.getfield 12, 3) := by decide +kernel
theorem dX3_gain_140 : decode cX3_gain 140 = .ok (.getfield 53, 3) := by decide +kernel
theorem dX3_gain_143 : decode cX3_gain 143 = .ok (.invokevirtual 198, 3) := by decide +kernel
theorem dX3_gain_146 : decode cX3_gain 146 = .ok (.aload_n 0, 1) := by decide +kernel
theorem dX3_gain_147 : decode cX3_gain 147 = .ok (.aload_n 0, 1) := by decide +kernel
theorem dX3_gain_148 : decode cX3_gain 148 = .ok (.getfield 19, 3) := by decide +kernel
theorem dX3_gain_151 : decode cX3_gain 151 = .ok (.invokevirtual 86, 3) := by decide +kernel
theorem dX3_gain_154 : decode cX3_gain 154 = .ok (.ifCond .eq 14, 3) := by decide +kernel
theorem dX3_gain_157 : decode cX3_gain 157 = .ok (.aload_n 0, 1) := by decide +kernel
theorem dX3_gain_158 : decode cX3_gain 158 = .ok (.aload_n 0, 1) := by decide +kernel
theorem dX3_gain_159 : decode cX3_gain 159 = .ok (.getfield 23, 3) := by decide +kernel
theorem dX3_gain_162 : decode cX3_gain 162 = .ok (.invokevirtual 86, 3) := by decide +kernel
theorem dX3_gain_165 : decode cX3_gain 165 = .ok (.ifCond .ne 5, 3) := by decide +kernel
theorem dX3_gain_168 : decode cX3_gain 168 = .ok (.iconst (-1), 1) := by decide +kernel
theorem dX3_gain_169 : decode cX3_gain 169 = .ok (.ireturn, 1) := by decide +kernel
theorem dX3_gain_170 : decode cX3_gain 170 = .ok (.aload_n 0, 1) := by decide +kernel
theorem dX3_gain_171 : decode cX3_gain 171 = .ok (.aload_n 0, 1) := by decide +kernel
theorem dX3_gain_172 : decode cX3_gain 172 = .ok (.getfield 23, 3) := by decide +kernel
theorem dX3_gain_175 : decode cX3_gain 175 = .ok (.invokevirtual 78, 3) := by decide +kernel
theorem dX3_gain_178 : decode cX3_gain 178 = .ok (.aload_n 0, 1) := by decide +kernel
theorem dX3_gain_179 : decode cX3_gain 179 = .ok (.aload_n 0, 1) := by decide +kernel
theorem dX3_gain_180 : decode cX3_gain 180 = .ok (.getfield 19, 3) := by decide +kernel
theorem dX3_gain_183 : decode cX3_gain 183 = .ok (.invokevirtual 78, 3) := by decide +kernel
theorem dX3_gain_186 : decode cX3_gain 186 = .ok (.isub, 1) := by decide +kernel
theorem dX3_gain_187 : decode cX3_gain 187 = .ok (.ireturn, 1) := by decide +kernel
set_option maxRecDepth 20000 in
theorem ggX3_without_X3_isHour : GoodIn wsX3_without wsX3_isHour := goodIn_r _ [10] (by decide +kernel) (by decide +kernel)
set_option maxRecDepth 20000 in
theorem gX3_without_X3_isHour : GoodIn wsX3_without (va_wsS RX3 101 yX3_isHour wsX3_isHour) := goodIn_app (goodIn_of _ (by decide +kernel)) ggX3_without_X3_isHour
set_option maxRecDepth 20000 in
theorem ggX3_without_X3_bestBy : GoodIn wsX3_without wsX3_bestBy := goodIn_r _ [14, 2, 3, 15, 16, 17, 18, 19, 9, 20, 21, 22, 23, 24, 25, 26, 27, 28, 29, 30, 31, 118, 119, 120, 121, 122, 123, 124, 125, 126, 127, 128, 129, 130, 131, 132, 133, 134, 135, 136, 137, 138, 139, 140, 141, 142, 143, 144, 145, 146, 147, 148, 149, 150, 151] (by decide +kernel) (by decide +kernel)
set_option maxRecDepth 20000 in
theorem gX3_without_X3_bestBy : GoodIn wsX3_without (wsV RX3 78 RX3 yX3_bestBy wsX3_bestBy) := goodIn_app (goodIn_of _ (by decide +kernel)) ggX3_without_X3_bestBy
set_option maxRecDepth 20000 in
theorem ggX3_without_X1_load : GoodIn wsX3_without wsX1_load := goodIn_r _ [35, 36, 37, 38, 39, 40, 41, 42, 43, 44, 45, 46, 47, 48, 49, 50, 51, 52, 53, 54, 55, 56, 57, 58, 59, 60, 61, 62, 63, 64, 65, 66, 67, 68, 69, 70, 71, 72, 129, 130, 131, 132, 133, 134, 135, 136, 137, 138, 139, 140, 141, 142, 143, 144, 145, 146, 147, 148, 149, 150, 151] (by decide +kernel) (by decide +kernel)
set_option maxRecDepth 20000 in
theorem gX3_without_X1_load : GoodIn wsX3_without (wsV RX3 182 RX1 yX1_load wsX1_load) := goodIn_app (goodIn_of _ (by decide +kernel)) ggX3_without_X1_load
set_option maxRecDepth 20000 in
theorem ggX3_without_X1_solve : GoodIn wsX3_without wsX1_solve := goodIn_r _ [76, 77, 78, 71, 79, 80, 81, 82, 83, 84, 85, 24, 86, 26, 31, 43, 87, 88, 89, 90, 48, 91, 47, 41, 92, 45, 93, 94, 95, 96, 97, 98, 99, 100, 101, 28, 29, 30, 102, 103, 104, 105, 46, 39, 106, 107, 108, 109, 110, 111, 112, 113, 37, 114, 115, 116, 117, 140, 141, 142, 143, 144, 145, 146, 147, 148, 149, 150, 151] (by decide +kernel) (by decide +kernel)
set_option maxRecDepth 20000 in
theorem gX3_without_X1_solve : GoodIn wsX3_without (wsV RX3 198 RX1 yX1_solve wsX1_solve) := goodIn_app (goodIn_of _ (by decide +kernel)) ggX3_without_X1_solve
theorem dX3_without_0 : decode cX3_without 0 = .ok (.iload_n 1, 1) := by decide +kernel
theorem dX3_without_1 : decode cX3_without 1 = .ok (.invokestatic 101, 3) := by decide +kernel
theorem dX3_without_4 : decode cX3_without 4 = .ok (.ifCond .ne 6, 3) := by decide +kernel
theorem dX3_without_7 : decode cX3_without 7 = .ok (.ldc 105, 2) := by decide +kernel
theorem dX3_without_9 : decode cX3_without 9 = .ok (.ireturn, 1) := by decide +kernel
theorem dX3_without_10 : decode cX3_without 10 = .ok (.iload_n 1, 1) := by decide +kernel
theorem dX3_without_11 : decode cX3_without 11 = .ok (.aload_n 0, 1) := by decide +kernel
theorem dX3_without_12 : decode cX3_without 12 = .ok (.getfield 12, 3) := by decide +kernel
theorem dX3_without_15 : decode cX3_without 15 = .ok (.getfield 53, 3) := by decide +kernel
theorem dX3_without_18 : decode cX3_without 18 = .ok (.if_icmp .ge 12, 3) := by decide +kernel
theorem dX3_without_21 : decode cX3_without 21 = .ok (.aload_n 0, 1) := by decide +kernel
theorem dX3_without_22 : decode cX3_without 22 = .ok (.aload_n 0, 1) := by decide +kernel
theorem dX3_without_23 : decode cX3_without 23 = .ok (.getfield 19, 3) := by decide +kernel
theorem dX3_without_26 : decode cX3_without 26 = .ok (.invokevirtual 78, 3) := by decide +kernel
theorem dX3_without_29 : decode cX3_without 29 = .ok (.ireturn, 1) := by decide +kernel
theorem dX3_without_30 : decode cX3_without 30 = .ok (.aload_n 0, 1) := by decide +kernel
theorem dX3_without_31 : decode cX3_without 31 = .ok (.getfield 23, 3) := by decide +kernel
theorem dX3_without_34 : decode cX3_without 34 = .ok (.aload_n 0, 1) := by decide +kernel
theorem dX3_without_35 : decode cX3_without 35 = .ok (.getfield 12, 3) := by decide +kernel
theorem dX3_without_38 : decode cX3_without 38 = .ok (.invokevirtual 182, 3) := by decide +kernel
theorem dX3_without_41 : decode cX3_without 41 = .ok (.aload_n 0, 1) := by decide +kernel
theorem dX3_without_42 : decode cX3_without 42 = .ok (.getfield 23, 3) := by decide +kernel
theorem dX3_without_45 : decode cX3_without 45 = .ok (.iload_n 1, 1) := by decide +kernel
theorem dX3_without_46 : decode cX3_without 46 = .ok (.putfield 202, 3) := by decide +kernel
theorem dX3_without_49 : decode cX3_without 49 = .ok (.aload_n 0, 1) := by decide +kernel
theorem dX3_without_50 : decode cX3_without 50 = .ok (.getfield 23, 3) := by decide +kernel
theorem dX3_without_53 : decode cX3_without 53 = .ok (.bipush 23, 2) := by decide +kernel
theorem dX3_without_55 : decode cX3_without 55 = .ok (.aload_n 0, 1) := by decide +kernel
theorem dX3_without_56 : decode cX3_without 56 = .ok (.getfield 12, 3) := by decide +kernel
theorem dX3_without_59 : decode cX3_without 59 = .ok (.getfield 53, 3) := by decide +kernel
theorem dX3_without_62 : decode cX3_without 62 = .ok (.invokevirtual 198, 3) := by decide +kernel
theorem dX3_without_65 : decode cX3_without 65 = .ok (.aload_n 0, 1) := by decide +kernel
theorem dX3_without_66 : decode cX3_without 66 = .ok (.aload_n 0, 1) := by decide +kernel
theorem dX3_without_67 : decode cX3_without 67 = .ok (.getfield 23, 3) := by decide +kernel
theorem dX3_without_70 : decode cX3_without 70 = .ok (.invokevirtual 78, 3) := by decide +kernel
theorem dX3_without_73 : decode cX3_without 73 = .ok (.ireturn, 1) := by decide +kernel
set_option maxRecDepth 20000 in
theorem ggX3_with_X3_isHour : GoodIn wsX3_with wsX3_isHour := goodIn_r _ [11] (by decide +kernel) (by decide +kernel)
set_option maxRecDepth 20000 in
theorem gX3_with_X3_isHour : GoodIn wsX3_with (va_wsS RX3 101 yX3_isHour wsX3_isHour) := goodIn_app (goodIn_of _ (by decide +kernel)) ggX3_with_X3_isHour
set_option maxRecDepth 20000 in
theorem ggX3_with_X3_isOutside : GoodIn wsX3_with wsX3_isOutside := goodIn_r _ [14] (by decide +kernel) (by decide +kernel)
set_option maxRecDepth 20000 in
theorem gX3_with_X3_isOutside : GoodIn wsX3_with (va_wsS RX3 137 yX3_isOutside wsX3_isOutside) := goodIn_app (goodIn_of _ (by decide +kernel)) ggX3_with_X3_isOutside
set_option maxRecDepth 20000 in
theorem ggX3_with_X3_bestBy : GoodIn wsX3_with wsX3_bestBy := goodIn_r _ [18, 3, 4, 19, 20, 21, 22, 23, 10, 24, 25, 26, 27, 28, 29, 30, 31, 32, 33, 34, 35, 122, 123, 124, 125, 126, 127, 128, 129, 130, 131, 132, 133, 134, 135, 136, 137, 138, 139, 140, 141, 142, 143, 144, 145, 146, 147, 148, 149, 150, 151, 152, 153, 154, 155] (by decide +kernel) (by decide +kernel)
set_option maxRecDepth 20000 in
theorem gX3_with_X3_bestBy : GoodIn wsX3_with (wsV RX3 78 RX3 yX3_bestBy wsX3_bestBy) := goodIn_app (goodIn_of _ (by decide +kernel)) ggX3_with_X3_bestBy
set_option maxRecDepth 20000 in
theorem ggX3_with_X1_load : GoodIn wsX3_with wsX1_load := goodIn_r _ [39, 40, 41, 42, 43, 44, 45, 46, 47, 48, 49, 50, 51, 52, 53, 54, 55, 56, 57, 58, 59, 60, 61, 62, 63, 64, 65, 66, 67, 68, 69, 70, 71, 72, 73, 74, 75, 76, 133, 134, 135, 136, 137, 138, 139, 140, 141, 142, 143, 144, 145, 146, 147, 148, 149, 150, 151, 152, 153, 154, 155] (by decide +kernel) (by decide +kernel)
set_option maxRecDepth 20000 in
theorem gX3_with_X1_load : GoodIn wsX3_with (wsV RX3 182 RX1 yX1_load wsX1_load) := goodIn_app (goodIn_of _ (by decide +kernel)) ggX3_with_X1_load
set_option maxRecDepth 20000 in
theorem ggX3_with_X1_solve : GoodIn wsX3_with wsX1_solve := goodIn_r _ [80, 81, 82, 75, 83, 84, 85, 86, 87, 88, 89, 28, 90, 30, 35, 47, 91, 92, 93, 94, 52, 95, 51, 45, 96, 49, 97, 98, 99, 100, 101, 102, 103, 104, 105, 32, 33, 34, 106, 107, 108, 109, 50, 43, 110, 111, 112, 113, 114, 115, 116, 117, 41, 118, 119, 120, 121, 144, 145, 146, 147, 148, 149, 150, 151, 152, 153, 154, 155] (by decide +kernel) (by decide +kernel)
set_option maxRecDepth 20000 in
theorem gX3_with_X1_solve : GoodIn wsX3_with (wsV RX3 198 RX1 yX1_solve wsX1_solve) := goodIn_app (goodIn_of _ (by decide +kernel)) ggX3_with_X1_solve
theorem dX3_with_0 : decode cX3_with 0 = .ok (.iload_n 1, 1) := by decide +kernel
theorem dX3_with_1 : decode cX3_with 1 = .ok (.invokestatic 101, 3) := by decide +kernel
theorem dX3_with_4 : decode cX3_with 4 = .ok (.ifCond .ne 6, 3) := by decide +kernel
theorem dX3_with_7 : decode cX3_with 7 = .ok (.ldc 105, 2) := by decide +kernel
theorem dX3_with_9 : decode cX3_with 9 = .ok (.ireturn, 1) := by decide +kernel
theorem dX3_with_10 : decode cX3_with 10 = .ok (.iload_n 2, 1) := by decide +kernel
theorem dX3_with_11 : decode cX3_with 11 = .ok (.sipush (-999), 3) := by decide +kernel
theorem dX3_with_14 : decode cX3_with 14 = .ok (.sipush 999, 3) := by decide +kernel
theorem dX3_with_17 : decode cX3_with 17 = .ok (.invokestatic 137, 3) := by decide +kernel
theorem dX3_with_20 : decode cX3_with 20 = .ok (.ifCond .eq 6, 3) := by decide +kernel
theorem dX3_with_23 : decode cX3_with 23 = .ok (.ldc 100, 2) := by decide +kernel
theorem dX3_with_25 : decode cX3_with 25 = .ok (.ireturn, 1) := by decide +kernel
theorem dX3_with_26 : decode cX3_with 26 = .ok (.iload_n 1, 1) := by decide +kernel
theorem dX3_with_27 : decode cX3_with 27 = .ok (.aload_n 0, 1) := by decide +kernel
theorem dX3_with_28 : decode cX3_with 28 = .ok (.getfield 12, 3) := by decide +kernel
theorem dX3_with_31 : decode cX3_with 31 = .ok (.getfield 53, 3) := by decide +kernel
theorem dX3_with_34 : decode cX3_with 34 = .ok (.if_icmp .ge 12, 3) := by decide +kernel
theorem dX3_with_37 : decode cX3_with 37 = .ok (.aload_n 0, 1) := by decide +kernel
theorem dX3_with_38 : decode cX3_with 38 = .ok (.aload_n 0, 1) := by decide +kernel
theorem dX3_with_39 : decode cX3_with 39 = .ok (.getfield 19, 3) := by decide +kernel
theorem dX3_with_42 : decode cX3_with 42 = .ok (.invokevirtual 78, 3) := by decide +kernel
theorem dX3_with_45 : decode cX3_with 45 = .ok (.ireturn, 1) := by decide +kernel
theorem dX3_with_46 : decode cX3_with 46 = .ok (.aload_n 0, 1) := by decide +kernel
theorem dX3_with_47 : decode cX3_with 47 = .ok (.getfield 23, 3) := by decide +kernel
theorem dX3_with_50 : decode cX3_with 50 = .ok (.aload_n 0, 1) := by decide +kernel
theorem dX3_with_51 : decode cX3_with 51 = .ok (.getfield 12, 3) := by decide +kernel
theorem dX3_with_54 : decode cX3_with 54 = .ok (.invokevirtual 182, 3) := by decide +kernel
theorem dX3_with_57 : decode cX3_with 57 = .ok (.aload_n 0, 1) := by decide +kernel
theorem dX3_with_58 : decode cX3_with 58 = .ok (.getfield 23, 3) := by decide +kernel
theorem dX3_with_61 : decode cX3_with 61 = .ok (.getfield 106, 3) := by decide +kernel
theorem dX3_with_64 : decode cX3_with 64 = .ok (.iload_n 1, 1) := by decide +kernel
theorem dX3_with_65 : decode cX3_with 65 = .ok (.iload_n 2, 1) := by decide +kernel
theorem dX3_with_66 : decode cX3_with 66 = .ok (.iastore, 1) := by decide +kernel
theorem dX3_with_67 : decode cX3_with 67 = .ok (.aload_n 0, 1) := by decide +kernel
theorem dX3_with_68 : decode cX3_with 68 = .ok (.getfield 23, 3) := by decide +kernel
theorem dX3_with_71 : decode cX3_with 71 = .ok (.bipush 23, 2) := by decide +kernel
theorem dX3_with_73 : decode cX3_with 73 = .ok (.aload_n 0, 1) := by decide +kernel
theorem dX3_with_74 : decode cX3_with 74 = .ok (.getfield 12, 3) := by decide +kernel
theorem dX3_with_77 : decode cX3_with 77 = .ok (.getfield 53, 3) := by decide +kernel
theorem dX3_with_80 : decode cX3_with 80 = .ok (.invokevirtual 198, 3) := by decide +kernel
theorem dX3_with_83 : decode cX3_with 83 = .ok (.aload_n 0, 1) := by decide +kernel
theorem dX3_with_84 : decode cX3_with 84 = .ok (.aload_n 0, 1) := by decide +kernel
theorem dX3_with_85 : decode cX3_with 85 = .ok (.getfield 23, 3) := by decide +kernel
theorem dX3_with_88 : decode cX3_with 88 = .ok (.invokevirtual 78, 3) := by decide +kernel
theorem dX3_with_91 : decode cX3_with 91 = .ok (.ireturn, 1) := by decide +kernel
theorem dX3_seed_0 : decode cX3_seed 0 = .ok (.iload_n 1, 1) := by decide +kernel
theorem dX3_seed_1 : decode cX3_seed 1 = .ok (.ifCond .ge 6, 3) := by decide +kernel
theorem dX3_seed_4 : decode cX3_seed 4 = .ok (.ldc 100, 2) := by decide +kernel
theorem dX3_seed_6 : decode cX3_seed 6 = .ok (.ireturn, 1) := by decide +kernel
theorem dX3_seed_7 : decode cX3_seed 7 = .ok (.aload_n 0, 1) := by decide +kernel
theorem dX3_seed_8 : decode cX3_seed 8 = .ok (.getfield 205, 3) := by decide +kernel
theorem dX3_seed_11 : decode cX3_seed 11 = .ok (.istore_n 2, 1) := by decide +kernel
theorem dX3_seed_12 : decode cX3_seed 12 = .ok (.aload_n 0, 1) := by decide +kernel
theorem dX3_seed_13 : decode cX3_seed 13 = .ok (.iload_n 1, 1) := by decide +kernel
theorem dX3_seed_14 : decode cX3_seed 14 = .ok (.putfield 205, 3) := by decide +kernel
theorem dX3_seed_17 : decode cX3_seed 17 = .ok (.iload_n 2, 1) := by decide +kernel
theorem dX3_seed_18 : decode cX3_seed 18 = .ok (.ireturn, 1) := by decide +kernel
set_option maxRecDepth 20000 in
theorem ggX3_keep_X3_isImage : GoodIn wsX3_keep wsX3_isImage := goodIn_r _ [11] (by decide +kernel) (by decide +kernel)
set_option maxRecDepth 20000 in
theorem gX3_keep_X3_isImage : GoodIn wsX3_keep (va_wsS RX3 208 yX3_isImage wsX3_isImage) := goodIn_app (goodIn_of _ (by decide +kernel)) ggX3_keep_X3_isImage
set_option maxRecDepth 20000 in
theorem ggX3_keep_X0_put : GoodIn wsX3_keep wsX0_put := goodIn_r _ [16, 17, 18, 19, 20, 21, 22, 23, 24, 25, 26, 27, 28, 29, 30, 31, 32, 33, 34, 35, 36, 37, 38, 50, 51, 52, 53, 54, 55, 56, 57, 58, 59, 60, 61, 62] (by decide +kernel) (by decide +kernel)
set_option maxRecDepth 20000 in
theorem gX3_keep_X0_put : GoodIn wsX3_keep (wsV RX3 211 RX0 yX0_put wsX0_put) := goodIn_app (goodIn_of _ (by decide +kernel)) ggX3_keep_X0_put
theorem dX3_keep_0 : decode cX3_keep 0 = .ok (.iload_n 1, 1) := by decide +kernel
theorem dX3_keep_1 : decode cX3_keep 1 = .ok (.invokestatic 208, 3) := by decide +kernel
theorem dX3_keep_4 : decode cX3_keep 4 = .ok (.ifCond .ne 6, 3) := by decide +kernel
theorem dX3_keep_7 : decode cX3_keep 7 = .ok (.ldc 105, 2) := by decide +kernel
theorem dX3_keep_9 : decode cX3_keep 9 = .ok (.ireturn, 1) := by decide +kernel
theorem dX3_keep_10 : decode cX3_keep 10 = .ok (.aload_n 0, 1) := by decide +kernel
theorem dX3_keep_11 : decode cX3_keep 11 = .ok (.getfield 39, 3) := by decide +kernel
theorem dX3_keep_14 : decode cX3_keep 14 = .ok (.iload_n 1, 1) := by decide +kernel
theorem dX3_keep_15 : decode cX3_keep 15 = .ok (.aload_n 0, 1) := by decide +kernel
theorem dX3_keep_16 : decode cX3_keep 16 = .ok (.getfield 12, 3) := by decide +kernel
theorem dX3_keep_19 : decode cX3_keep 19 = .ok (.invokevirtual 211, 3) := by decide +kernel
theorem dX3_keep_22 : decode cX3_keep 22 = .ok (.aload_n 0, 1) := by decide +kernel
theorem dX3_keep_23 : decode cX3_keep 23 = .ok (.getfield 42, 3) := by decide +kernel
theorem dX3_keep_26 : decode cX3_keep 26 = .ok (.iload_n 1, 1) := by decide +kernel
theorem dX3_keep_27 : decode cX3_keep 27 = .ok (.aload_n 0, 1) := by decide +kernel
theorem dX3_keep_28 : decode cX3_keep 28 = .ok (.getfield 205, 3) := by decide +kernel
theorem dX3_keep_31 : decode cX3_keep 31 = .ok (.iastore, 1) := by decide +kernel
theorem dX3_keep_32 : decode cX3_keep 32 = .ok (.aload_n 0, 1) := by decide +kernel
theorem dX3_keep_33 : decode cX3_keep 33 = .ok (.getfield 45, 3) := by decide +kernel
theorem dX3_keep_36 : decode cX3_keep 36 = .ok (.iload_n 1, 1) := by decide +kernel
theorem dX3_keep_37 : decode cX3_keep 37 = .ok (.iconst 1, 1) := by decide +kernel
theorem dX3_keep_38 : decode cX3_keep 38 = .ok (.bastore, 1) := by decide +kernel
theorem dX3_keep_39 : decode cX3_keep 39 = .ok (.aload_n 0, 1) := by decide +kernel
theorem dX3_keep_40 : decode cX3_keep 40 = .ok (.iconst 0, 1) := by decide +kernel
theorem dX3_keep_41 : decode cX3_keep 41 = .ok (.putfield 97, 3) := by decide +kernel
theorem dX3_keep_44 : decode cX3_keep 44 = .ok (.iconst 1, 1) := by decide +kernel
theorem dX3_keep_45 : decode cX3_keep 45 = .ok (.ireturn, 1) := by decide +kernel
set_option maxRecDepth 20000 in
theorem ggX3_goBack_X3_isImage : GoodIn wsX3_goBack wsX3_isImage := goodIn_r _ [12] (by decide +kernel) (by decide +kernel)
set_option maxRecDepth 20000 in
theorem gX3_goBack_X3_isImage : GoodIn wsX3_goBack (va_wsS RX3 208 yX3_isImage wsX3_isImage) := goodIn_app (goodIn_of _ (by decide +kernel)) ggX3_goBack_X3_isImage
set_option maxRecDepth 20000 in
theorem ggX3_goBack_X0_take : GoodIn wsX3_goBack wsX0_take := goodIn_r _ [17, 18, 19, 20, 21, 22, 23, 24, 25, 26, 27, 28, 29, 30, 31, 32, 33, 34, 35, 36, 37, 38, 39, 163, 164, 165, 166, 167, 168, 169, 170, 171, 172, 173, 174, 175] (by decide +kernel) (by decide +kernel)
set_option maxRecDepth 20000 in
theorem gX3_goBack_X0_take : GoodIn wsX3_goBack (wsV RX3 178 RX0 yX0_take wsX0_take) := goodIn_app (goodIn_of _ (by decide +kernel)) ggX3_goBack_X0_take
set_option maxRecDepth 20000 in
theorem ggX3_goBack_X3_settle : GoodIn wsX3_goBack wsX3_settle := goodIn_r _ [43, 44, 5, 45, 46, 47, 48, 49, 50, 51, 52, 53, 54, 55, 56, 57, 58, 59, 60, 61, 62, 63, 64, 65, 66, 67, 68, 69, 23, 70, 33, 71, 72, 73, 74, 75, 76, 77, 78, 39, 79, 80, 81, 82, 83, 84, 85, 86, 87, 88, 89, 90, 91, 92, 93, 94, 95, 96, 97, 98, 99, 100, 101, 102, 103, 104, 105, 106, 107, 108, 109, 110, 111, 112, 113, 114, 115, 116, 117, 118, 119, 120, 121, 122, 123, 124, 125, 126, 127, 128, 129, 130, 131, 132, 133, 134, 135, 136, 137, 138, 139, 11, 140, 141, 142, 143, 144, 145, 146, 147, 148, 149, 150, 151, 152, 153, 154, 155, 156, 157, 158, 159, 160, 161, 162, 165, 166, 167, 168, 169, 170, 171, 172, 173, 174, 175, 176, 177, 178, 179, 180, 181, 182, 183, 184, 185, 186, 187] (by decide +kernel) (by decide +kernel)
set_option maxRecDepth 20000 in
theorem gX3_goBack_X3_settle : GoodIn wsX3_goBack (wsV RX3 49 RX3 yX3_settle wsX3_settle) := goodIn_app (goodIn_of _ (by decide +kernel)) ggX3_goBack_X3_settle
theorem dX3_goBack_0 : decode cX3_goBack 0 = .ok (.iload_n 1, 1) := by decide +kernel
theorem dX3_goBack_1 : decode cX3_goBack 1 = .ok (.invokestatic 208, 3) := by decide +kernel
theorem dX3_goBack_4 : decode cX3_goBack 4 = .ok (.ifCond .ne 6, 3) := by decide +kernel
theorem dX3_goBack_7 : decode cX3_goBack 7 = .ok (.ldc 105, 2) := by decide +kernel
theorem dX3_goBack_9 : decode cX3_goBack 9 = .ok (.ireturn, 1) := by decide +kernel
theorem dX3_goBack_10 : decode cX3_goBack 10 = .ok (.aload_n 0, 1) := by decide +kernel
theorem dX3_goBack_11 : decode cX3_goBack 11 = .ok (.getfield 45, 3) := by decide +kernel
theorem dX3_goBack_14 : decode cX3_goBack 14 = .ok (.iload_n 1, 1) := by decide +kernel
theorem dX3_goBack_15 : decode cX3_goBack 15 = .ok (.baload, 1) := by decide +kernel
theorem dX3_goBack_16 : decode cX3_goBack 16 = .ok (.ifCond .ne 6, 3) := by decide +kernel
theorem dX3_goBack_19 : decode cX3_goBack 19 = .ok (.ldc 162, 2) := by decide +kernel
theorem dX3_goBack_21 : decode cX3_goBack 21 = .ok (.ireturn, 1) := by decide +kernel
theorem dX3_goBack_22 : decode cX3_goBack 22 = .ok (.aload_n 0, 1) := by decide +kernel
theorem dX3_goBack_23 : decode cX3_goBack 23 = .ok (.getfield 39, 3) := by decide +kernel
theorem dX3_goBack_26 : decode cX3_goBack 26 = .ok (.iload_n 1, 1) := by decide +kernel
theorem dX3_goBack_27 : decode cX3_goBack 27 = .ok (.aload_n 0, 1) := by decide +kernel
theorem dX3_goBack_28 : decode cX3_goBack 28 = .ok (.getfield 12, 3) := by decide +kernel
theorem dX3_goBack_31 : decode cX3_goBack 31 = .ok (.invokevirtual 178, 3) := by decide +kernel
theorem dX3_goBack_34 : decode cX3_goBack 34 = .ok (.aload_n 0, 1) := by decide +kernel
theorem dX3_goBack_35 : decode cX3_goBack 35 = .ok (.aload_n 0, 1) := by decide +kernel
theorem dX3_goBack_36 : decode cX3_goBack 36 = .ok (.getfield 42, 3) := by decide +kernel
theorem dX3_goBack_39 : decode cX3_goBack 39 = .ok (.iload_n 1, 1) := by decide +kernel
theorem dX3_goBack_40 : decode cX3_goBack 40 = .ok (.iaload, 1) := by decide +kernel
theorem dX3_goBack_41 : decode cX3_goBack 41 = .ok (.putfield 205, 3) := by decide +kernel
theorem dX3_goBack_44 : decode cX3_goBack 44 = .ok (.aload_n 0, 1) := by decide +kernel
theorem dX3_goBack_45 : decode cX3_goBack 45 = .ok (.iconst 0, 1) := by decide +kernel
theorem dX3_goBack_46 : decode cX3_goBack 46 = .ok (.putfield 97, 3) := by decide +kernel
theorem dX3_goBack_49 : decode cX3_goBack 49 = .ok (.aload_n 0, 1) := by decide +kernel
theorem dX3_goBack_50 : decode cX3_goBack 50 = .ok (.invokevirtual 49, 3) := by decide +kernel
theorem dX3_goBack_53 : decode cX3_goBack 53 = .ok (.pop, 1) := by decide +kernel
theorem dX3_goBack_54 : decode cX3_goBack 54 = .ok (.iconst 1, 1) := by decide +kernel
theorem dX3_goBack_55 : decode cX3_goBack 55 = .ok (.ireturn, 1) := by decide +kernel
theorem dX3_isOutside_0 : decode cX3_isOutside 0 = .ok (.iload_n 0, 1) := by decide +kernel
theorem dX3_isOutside_1 : decode cX3_isOutside 1 = .ok (.iload_n 1, 1) := by decide +kernel
theorem dX3_isOutside_2 : decode cX3_isOutside 2 = .ok (.if_icmp .lt 8, 3) := by decide +kernel
theorem dX3_isOutside_5 : decode cX3_isOutside 5 = .ok (.iload_n 0, 1) := by decide +kernel
theorem dX3_isOutside_6 : decode cX3_isOutside 6 = .ok (.iload_n 2, 1) := by decide +kernel
theorem dX3_isOutside_7 : decode cX3_isOutside 7 = .ok (.if_icmp .le 7, 3) := by decide +kernel
theorem dX3_isOutside_10 : decode cX3_isOutside 10 = .ok (.iconst 1, 1) := by decide +kernel
theorem dX3_isOutside_11 : decode cX3_isOutside 11 = .ok (.goto 4, 3) := by decide +kernel
theorem dX3_isOutside_14 : decode cX3_isOutside 14 = .ok (.iconst 0, 1) := by decide +kernel
theorem dX3_isOutside_15 : decode cX3_isOutside 15 = .ok (.ireturn, 1) := by decide +kernel
theorem dX3_isHour_0 : decode cX3_isHour 0 = .ok (.iload_n 0, 1) := by decide +kernel
theorem dX3_isHour_1 : decode cX3_isHour 1 = .ok (.ifCond .lt 13, 3) := by decide +kernel
theorem dX3_isHour_4 : decode cX3_isHour 4 = .ok (.iload_n 0, 1) := by decide +kernel
theorem dX3_isHour_5 : decode cX3_isHour 5 = .ok (.bipush 24, 2) := by decide +kernel
theorem dX3_isHour_7 : decode cX3_isHour 7 = .ok (.if_icmp .ge 7, 3) := by decide +kernel
theorem dX3_isHour_10 : decode cX3_isHour 10 = .ok (.iconst 1, 1) := by decide +kernel
theorem dX3_isHour_11 : decode cX3_isHour 11 = .ok (.goto 4, 3) := by decide +kernel
theorem dX3_isHour_14 : decode cX3_isHour 14 = .ok (.iconst 0, 1) := by decide +kernel
theorem dX3_isHour_15 : decode cX3_isHour 15 = .ok (.ireturn, 1) := by decide +kernel
theorem dX3_isHourOrEnd_0 : decode cX3_isHourOrEnd 0 = .ok (.iload_n 0, 1) := by decide +kernel
theorem dX3_isHourOrEnd_1 : decode cX3_isHourOrEnd 1 = .ok (.ifCond .lt 13, 3) := by decide +kernel
theorem dX3_isHourOrEnd_4 : decode cX3_isHourOrEnd 4 = .ok (.iload_n 0, 1) := by decide +kernel
theorem dX3_isHourOrEnd_5 : decode cX3_isHourOrEnd 5 = .ok (.bipush 24, 2) := by decide +kernel
theorem dX3_isHourOrEnd_7 : decode cX3_isHourOrEnd 7 = .ok (.if_icmp .gt 7, 3) := by decide +kernel
theorem dX3_isHourOrEnd_10 : decode cX3_isHourOrEnd 10 = .ok (.iconst 1, 1) := by decide +kernel
theorem dX3_isHourOrEnd_11 : decode cX3_isHourOrEnd 11 = .ok (.goto 4, 3) := by decide +kernel
theorem dX3_isHourOrEnd_14 : decode cX3_isHourOrEnd 14 = .ok (.iconst 0, 1) := by decide +kernel
theorem dX3_isHourOrEnd_15 : decode cX3_isHourOrEnd 15 = .ok (.ireturn, 1) := by decide +kernel
theorem dX3_isImage_0 : decode cX3_isImage 0 = .ok (.iload_n 0, 1) := by decide +kernel
theorem dX3_isImage_1 : decode cX3_isImage 1 = .ok (.ifCond .lt 12, 3) := by decide +kernel
theorem dX3_isImage_4 : decode cX3_isImage 4 = .ok (.iload_n 0, 1) := by decide +kernel
theorem dX3_isImage_5 : decode cX3_isImage 5 = .ok (.iconst 2, 1) := by decide +kernel
theorem dX3_isImage_6 : decode cX3_isImage 6 = .ok (.if_icmp .ge 7, 3) := by decide +kernel
theorem dX3_isImage_9 : decode cX3_isImage 9 = .ok (.iconst 1, 1) := by decide +kernel
theorem dX3_isImage_10 : decode cX3_isImage 10 = .ok (.goto 4, 3) := by decide +kernel
theorem dX3_isImage_13 : decode cX3_isImage 13 = .ok (.iconst 0, 1) := by decide +kernel
theorem dX3_isImage_14 : decode cX3_isImage 14 = .ok (.ireturn, 1) := by decide +kernel
theorem dX3_isLaw_0 : decode cX3_isLaw 0 = .ok (.iload_n 1, 1) := by decide +kernel
theorem dX3_isLaw_1 : decode cX3_isLaw 1 = .ok (.ifCond .lt 18, 3) := by decide +kernel
theorem dX3_isLaw_4 : decode cX3_isLaw 4 = .ok (.iload_n 1, 1) := by decide +kernel
theorem dX3_isLaw_5 : decode cX3_isLaw 5 = .ok (.aload_n 0, 1) := by decide +kernel
theorem dX3_isLaw_6 : decode cX3_isLaw 6 = .ok (.getfield 12, 3) := by decide +kernel
theorem dX3_isLaw_9 : decode cX3_isLaw 9 = .ok (.getfield 75, 3) := by decide +kernel
theorem dX3_isLaw_12 : decode cX3_isLaw 12 = .ok (.if_icmp .ge 7, 3) := by decide +kernel
theorem dX3_isLaw_15 : decode cX3_isLaw 15 = .ok (.iconst 1, 1) := by decide +kernel
theorem dX3_isLaw_16 : decode cX3_isLaw 16 = .ok (.goto 4, 3) := by decide +kernel
theorem dX3_isLaw_19 : decode cX3_isLaw 19 = .ok (.iconst 0, 1) := by decide +kernel
theorem dX3_isLaw_20 : decode cX3_isLaw 20 = .ok (.ireturn, 1) := by decide +kernel
set_option maxRecDepth 20000 in
theorem ggX3_settle_X1_load : GoodIn wsX3_settle wsX1_load := goodIn_r _ [10, 11, 12, 13, 14, 15, 16, 17, 18, 19, 20, 21, 22, 23, 24, 25, 26, 27, 28, 29, 30, 31, 32, 33, 34, 35, 36, 37, 38, 39, 40, 41, 42, 43, 44, 45, 46, 47, 125, 126, 127, 128, 129, 130, 131, 132, 133, 134, 135, 136, 137, 138, 139, 140, 141, 142, 143, 144, 145, 146, 147] (by decide +kernel) (by decide +kernel)
set_option maxRecDepth 20000 in
theorem gX3_settle_X1_load : GoodIn wsX3_settle (wsV RX3 182 RX1 yX1_load wsX1_load) := goodIn_app (goodIn_of _ (by decide +kernel)) ggX3_settle_X1_load
set_option maxRecDepth 20000 in
theorem ggX3_settle_X1_solve : GoodIn wsX3_settle wsX1_solve := goodIn_r _ [51, 52, 53, 46, 54, 55, 56, 57, 58, 59, 60, 9, 61, 62, 63, 18, 64, 65, 66, 67, 23, 68, 22, 16, 69, 20, 70, 71, 72, 73, 74, 75, 76, 77, 78, 79, 80, 81, 82, 83, 84, 85, 21, 14, 86, 87, 88, 89, 90, 91, 92, 93, 12, 94, 95, 96, 97, 136, 137, 138, 139, 140, 141, 142, 143, 144, 145, 146, 147] (by decide +kernel) (by decide +kernel)
set_option maxRecDepth 20000 in
theorem gX3_settle_X1_solve : GoodIn wsX3_settle (wsV RX3 198 RX1 yX1_solve wsX1_solve) := goodIn_app (goodIn_of _ (by decide +kernel)) ggX3_settle_X1_solve
set_option maxRecDepth 20000 in
theorem ggX3_settle_X3_hasPlan : GoodIn wsX3_settle wsX3_hasPlan := goodIn_r _ [102, 2, 4, 3, 103, 104, 105, 9, 106, 62, 114, 115, 116, 117, 118, 119, 120, 121, 122, 123, 124, 125, 126, 127, 128, 129, 130, 131, 132, 133, 134, 135, 136, 137, 138, 139, 140, 141, 142, 143, 144, 145, 146, 147] (by decide +kernel) (by decide +kernel)
set_option maxRecDepth 20000 in
theorem gX3_settle_X3_hasPlan : GoodIn wsX3_settle (wsV RX3 86 RX3 yX3_hasPlan wsX3_hasPlan) := goodIn_app (goodIn_of _ (by decide +kernel)) ggX3_settle_X3_hasPlan
set_option maxRecDepth 20000 in
theorem ggX3_settle_X1_next : GoodIn wsX3_settle wsX1_next := goodIn_r _ [89, 68, 52, 53, 46, 54, 69, 55, 56, 57, 90, 91, 92, 9, 93, 21, 12, 82, 83, 84, 85, 14, 136, 137, 138, 139, 140, 141, 142, 143, 144, 145, 146, 147] (by decide +kernel) (by decide +kernel)
set_option maxRecDepth 20000 in
theorem gX3_settle_X1_next : GoodIn wsX3_settle (wsV RX3 214 RX1 yX1_next wsX1_next) := goodIn_app (goodIn_of _ (by decide +kernel)) ggX3_settle_X1_next
set_option maxRecDepth 20000 in
theorem ggX3_settle_X3_bestBy : GoodIn wsX3_settle wsX3_bestBy := goodIn_r _ [111, 2, 4, 3, 112, 98, 99, 100, 101, 102, 103, 104, 105, 9, 106, 62, 113, 79, 80, 81, 63, 114, 115, 116, 117, 118, 119, 120, 121, 122, 123, 124, 125, 126, 127, 128, 129, 130, 131, 132, 133, 134, 135, 136, 137, 138, 139, 140, 141, 142, 143, 144, 145, 146, 147] (by decide +kernel) (by decide +kernel)
set_option maxRecDepth 20000 in
theorem gX3_settle_X3_bestBy : GoodIn wsX3_settle (wsV RX3 78 RX3 yX3_bestBy wsX3_bestBy) := goodIn_app (goodIn_of _ (by decide +kernel)) ggX3_settle_X3_bestBy
theorem dX3_settle_0 : decode cX3_settle 0 = .ok (.aload_n 0, 1) := by decide +kernel
theorem dX3_settle_1 : decode cX3_settle 1 = .ok (.getfield 19, 3) := by decide +kernel
theorem dX3_settle_4 : decode cX3_settle 4 = .ok (.aload_n 0, 1) := by decide +kernel
theorem dX3_settle_5 : decode cX3_settle 5 = .ok (.getfield 12, 3) := by decide +kernel
theorem dX3_settle_8 : decode cX3_settle 8 = .ok (.invokevirtual 182, 3) := by decide +kernel
theorem dX3_settle_11 : decode cX3_settle 11 = .ok (.aload_n 0, 1) := by decide +kernel
theorem dX3_settle_12 : decode cX3_settle 12 = .ok (.getfield 19, 3) := by decide +kernel
theorem dX3_settle_15 : decode cX3_settle 15 = .ok (.bipush 23, 2) := by decide +kernel
theorem dX3_settle_17 : decode cX3_settle 17 = .ok (.iconst 0, 1) := by decide +kernel
theorem dX3_settle_18 : decode cX3_settle 18 = .ok (.invokevirtual 198, 3) := by decide +kernel
theorem dX3_settle_21 : decode cX3_settle 21 = .ok (.aload_n 0, 1) := by decide +kernel
theorem dX3_settle_22 : decode cX3_settle 22 = .ok (.aload_n 0, 1) := by decide +kernel
theorem dX3_settle_23 : decode cX3_settle 23 = .ok (.getfield 19, 3) := by decide +kernel
theorem dX3_settle_26 : decode cX3_settle 26 = .ok (.invokevirtual 86, 3) := by decide +kernel
theorem dX3_settle_29 : decode cX3_settle 29 = .ok (.ifCond .eq 48, 3) := by decide +kernel
theorem dX3_settle_32 : decode cX3_settle 32 = .ok (.aload_n 0, 1) := by decide +kernel
theorem dX3_settle_33 : decode cX3_settle 33 = .ok (.getfield 12, 3) := by decide +kernel
theorem dX3_settle_36 : decode cX3_settle 36 = .ok (.getfield 57, 3) := by decide +kernel
theorem dX3_settle_39 : decode cX3_settle 39 = .ok (.istore_n 1, 1) := by decide +kernel
theorem dX3_settle_40 : decode cX3_settle 40 = .ok (.aload_n 0, 1) := by decide +kernel
theorem dX3_settle_41 : decode cX3_settle 41 = .ok (.getfield 12, 3) := by decide +kernel
theorem dX3_settle_44 : decode cX3_settle 44 = .ok (.getfield 53, 3) := by decide +kernel
theorem dX3_settle_47 : decode cX3_settle 47 = .ok (.istore_n 2, 1) := by decide +kernel
theorem dX3_settle_48 : decode cX3_settle 48 = .ok (.iload_n 2, 1) := by decide +kernel
theorem dX3_settle_49 : decode cX3_settle 49 = .ok (.bipush 24, 2) := by decide +kernel
theorem dX3_settle_51 : decode cX3_settle 51 = .ok (.if_icmp .ge 26, 3) := by decide +kernel
theorem dX3_settle_54 : decode cX3_settle 54 = .ok (.aload_n 0, 1) := by decide +kernel
theorem dX3_settle_55 : decode cX3_settle 55 = .ok (.getfield 19, 3) := by decide +kernel
theorem dX3_settle_58 : decode cX3_settle 58 = .ok (.iload_n 2, 1) := by decide +kernel
theorem dX3_settle_59 : decode cX3_settle 59 = .ok (.iload_n 1, 1) := by decide +kernel
theorem dX3_settle_60 : decode cX3_settle 60 = .ok (.invokevirtual 214, 3) := by decide +kernel
theorem dX3_settle_63 : decode cX3_settle 63 = .ok (.istore_n 1, 1) := by decide +kernel
theorem dX3_settle_64 : decode cX3_settle 64 = .ok (.aload_n 0, 1) := by decide +kernel
theorem dX3_settle_65 : decode cX3_settle 65 = .ok (.getfield 26, 3) := by decide +kernel
theorem dX3_settle_68 : decode cX3_settle 68 = .ok (.iload_n 2, 1) := by decide +kernel
theorem dX3_settle_69 : decode cX3_settle 69 = .ok (.iload_n 1, 1) := by decide +kernel
theorem dX3_settle_70 : decode cX3_settle 70 = .ok (.iastore, 1) := by decide +kernel
theorem dX3_settle_71 : decode cX3_settle 71 = .ok (.iinc 2 1, 3) := by decide +kernel
theorem dX3_settle_74 : decode cX3_settle 74 = .ok (.goto (-26), 3) := by decide +kernel
theorem dX3_settle_77 : decode cX3_settle 77 = .ok (.aload_n 0, 1) := by decide +kernel
theorem dX3_settle_78 : decode cX3_settle 78 = .ok (.aload_n 0, 1) := by decide +kernel
theorem dX3_settle_79 : decode cX3_settle 79 = .ok (.getfield 19, 3) := by decide +kernel
theorem dX3_settle_82 : decode cX3_settle 82 = .ok (.invokevirtual 78, 3) := by decide +kernel
theorem dX3_settle_85 : decode cX3_settle 85 = .ok (.ireturn, 1) := by decide +kernel
set_option maxRecDepth 20000 in
theorem ggX3_hasPlan_X1_canLeave : GoodIn wsX3_hasPlan wsX1_canLeave := goodIn_r _ [8, 9, 32, 33, 34, 35, 36, 37, 38, 39, 40, 41, 42, 43] (by decide +kernel) (by decide +kernel)
set_option maxRecDepth 20000 in
theorem gX3_hasPlan_X1_canLeave : GoodIn wsX3_hasPlan (wsV RX3 141 RX1 yX1_canLeave wsX1_canLeave) := goodIn_app (goodIn_of _ (by decide +kernel)) ggX3_hasPlan_X1_canLeave
theorem dX3_hasPlan_0 : decode cX3_hasPlan 0 = .ok (.aload_n 1, 1) := by decide +kernel
theorem dX3_hasPlan_1 : decode cX3_hasPlan 1 = .ok (.aload_n 0, 1) := by decide +kernel
theorem dX3_hasPlan_2 : decode cX3_hasPlan 2 = .ok (.getfield 12, 3) := by decide +kernel
theorem dX3_hasPlan_5 : decode cX3_hasPlan 5 = .ok (.getfield 53, 3) := by decide +kernel
theorem dX3_hasPlan_8 : decode cX3_hasPlan 8 = .ok (.aload_n 0, 1) := by decide +kernel
theorem dX3_hasPlan_9 : decode cX3_hasPlan 9 = .ok (.getfield 12, 3) := by decide +kernel
theorem dX3_hasPlan_12 : decode cX3_hasPlan 12 = .ok (.getfield 57, 3) := by decide +kernel
theorem dX3_hasPlan_15 : decode cX3_hasPlan 15 = .ok (.invokevirtual 141, 3) := by decide +kernel
theorem dX3_hasPlan_18 : decode cX3_hasPlan 18 = .ok (.ireturn, 1) := by decide +kernel
set_option maxRecDepth 20000 in
theorem ggX3_bestBy_X3_hasPlan : GoodIn wsX3_bestBy wsX3_hasPlan := goodIn_r _ [9, 1, 2, 3, 10, 11, 12, 13, 14, 15, 21, 22, 23, 24, 25, 26, 27, 28, 29, 30, 31, 32, 33, 34, 35, 36, 37, 38, 39, 40, 41, 42, 43, 44, 45, 46, 47, 48, 49, 50, 51, 52, 53, 54] (by decide +kernel) (by decide +kernel)
set_option maxRecDepth 20000 in
theorem gX3_bestBy_X3_hasPlan : GoodIn wsX3_bestBy (wsV RX3 86 RX3 yX3_hasPlan wsX3_hasPlan) := goodIn_app (goodIn_of _ (by decide +kernel)) ggX3_bestBy_X3_hasPlan
set_option maxRecDepth 20000 in
theorem ggX3_bestBy_X1_most : GoodIn wsX3_bestBy wsX1_most := goodIn_r _ [19, 20, 43, 44, 45, 46, 47, 48, 49, 50, 51, 52, 53, 54] (by decide +kernel) (by decide +kernel)
set_option maxRecDepth 20000 in
theorem gX3_bestBy_X1_most : GoodIn wsX3_bestBy (wsV RX3 145 RX1 yX1_most wsX1_most) := goodIn_app (goodIn_of _ (by decide +kernel)) ggX3_bestBy_X1_most
theorem dX3_bestBy_0 : decode cX3_bestBy 0 = .ok (.aload_n 0, 1) := by decide +kernel
theorem dX3_bestBy_1 : decode cX3_bestBy 1 = .ok (.aload_n 1, 1) := by decide +kernel
theorem dX3_bestBy_2 : decode cX3_bestBy 2 = .ok (.invokevirtual 86, 3) := by decide +kernel
theorem dX3_bestBy_5 : decode cX3_bestBy 5 = .ok (.ifCond .eq 27, 3) := by decide +kernel
theorem dX3_bestBy_8 : decode cX3_bestBy 8 = .ok (.aload_n 1, 1) := by decide +kernel
theorem dX3_bestBy_9 : decode cX3_bestBy 9 = .ok (.aload_n 0, 1) := by decide +kernel
theorem dX3_bestBy_10 : decode cX3_bestBy 10 = .ok (.getfield 12, 3) := by decide +kernel
theorem dX3_bestBy_13 : decode cX3_bestBy 13 = .ok (.getfield 53, 3) := by decide +kernel
theorem dX3_bestBy_16 : decode cX3_bestBy 16 = .ok (.aload_n 0, 1) := by decide +kernel
theorem dX3_bestBy_17 : decode cX3_bestBy 17 = .ok (.getfield 12, 3) := by decide +kernel
theorem dX3_bestBy_20 : decode cX3_bestBy 20 = .ok (.getfield 57, 3) := by decide +kernel
theorem dX3_bestBy_23 : decode cX3_bestBy 23 = .ok (.invokevirtual 145, 3) := by decide +kernel
theorem dX3_bestBy_26 : decode cX3_bestBy 26 = .ok (.ldc 85, 2) := by decide +kernel
theorem dX3_bestBy_28 : decode cX3_bestBy 28 = .ok (.iadd, 1) := by decide +kernel
theorem dX3_bestBy_29 : decode cX3_bestBy 29 = .ok (.goto 4, 3) := by decide +kernel
theorem dX3_bestBy_32 : decode cX3_bestBy 32 = .ok (.iconst (-1), 1) := by decide +kernel
theorem dX3_bestBy_33 : decode cX3_bestBy 33 = .ok (.ireturn, 1) := by decide +kernel
set_option maxRecDepth 20000 in
theorem ggX3_isPlanned_X3_hasPlan : GoodIn wsX3_isPlanned wsX3_hasPlan := goodIn_r _ [8, 1, 2, 9, 10, 11, 12, 13, 14, 15, 16, 17, 18, 19, 20, 21, 22, 23, 24, 25, 26, 27, 28, 29, 30, 31, 32, 33, 34, 35, 36, 37, 38, 39, 40, 41, 42, 43, 44, 45, 46, 47, 48, 49] (by decide +kernel) (by decide +kernel)
set_option maxRecDepth 20000 in
theorem gX3_isPlanned_X3_hasPlan : GoodIn wsX3_isPlanned (wsV RX3 86 RX3 yX3_hasPlan wsX3_hasPlan) := goodIn_app (goodIn_of _ (by decide +kernel)) ggX3_isPlanned_X3_hasPlan
theorem dX3_isPlanned_0 : decode cX3_isPlanned 0 = .ok (.iload_n 1, 1) := by decide +kernel
theorem dX3_isPlanned_1 : decode cX3_isPlanned 1 = .ok (.aload_n 0, 1) := by decide +kernel
theorem dX3_isPlanned_2 : decode cX3_isPlanned 2 = .ok (.getfield 12, 3) := by decide +kernel
theorem dX3_isPlanned_5 : decode cX3_isPlanned 5 = .ok (.getfield 53, 3) := by decide +kernel
theorem dX3_isPlanned_8 : decode cX3_isPlanned 8 = .ok (.if_icmp .lt 18, 3) := by decide +kernel
theorem dX3_isPlanned_11 : decode cX3_isPlanned 11 = .ok (.aload_n 0, 1) := by decide +kernel
theorem dX3_isPlanned_12 : decode cX3_isPlanned 12 = .ok (.aload_n 0, 1) := by decide +kernel
theorem dX3_isPlanned_13 : decode cX3_isPlanned 13 = .ok (.getfield 19, 3) := by decide +kernel
theorem dX3_isPlanned_16 : decode cX3_isPlanned 16 = .ok (.invokevirtual 86, 3) := by decide +kernel
theorem dX3_isPlanned_19 : decode cX3_isPlanned 19 = .ok (.ifCond .eq 7, 3) := by decide +kernel
theorem dX3_isPlanned_22 : decode cX3_isPlanned 22 = .ok (.iconst 1, 1) := by decide +kernel
theorem dX3_isPlanned_23 : decode cX3_isPlanned 23 = .ok (.goto 4, 3) := by decide +kernel
theorem dX3_isPlanned_26 : decode cX3_isPlanned 26 = .ok (.iconst 0, 1) := by decide +kernel
theorem dX3_isPlanned_27 : decode cX3_isPlanned 27 = .ok (.ireturn, 1) := by decide +kernel
theorem dX3_plannedBefore_0 : decode cX3_plannedBefore 0 = .ok (.iload_n 1, 1) := by decide +kernel
theorem dX3_plannedBefore_1 : decode cX3_plannedBefore 1 = .ok (.aload_n 0, 1) := by decide +kernel
theorem dX3_plannedBefore_2 : decode cX3_plannedBefore 2 = .ok (.getfield 12, 3) := by decide +kernel
theorem dX3_plannedBefore_5 : decode cX3_plannedBefore 5 = .ok (.getfield 53, 3) := by decide +kernel
theorem dX3_plannedBefore_8 : decode cX3_plannedBefore 8 = .ok (.if_icmp .le 14, 3) := by decide +kernel
theorem dX3_plannedBefore_11 : decode cX3_plannedBefore 11 = .ok (.aload_n 0, 1) := by decide +kernel
theorem dX3_plannedBefore_12 : decode cX3_plannedBefore 12 = .ok (.getfield 26, 3) := by decide +kernel
theorem dX3_plannedBefore_15 : decode cX3_plannedBefore 15 = .ok (.iload_n 1, 1) := by decide +kernel
theorem dX3_plannedBefore_16 : decode cX3_plannedBefore 16 = .ok (.iconst 1, 1) := by decide +kernel
theorem dX3_plannedBefore_17 : decode cX3_plannedBefore 17 = .ok (.isub, 1) := by decide +kernel
theorem dX3_plannedBefore_18 : decode cX3_plannedBefore 18 = .ok (.iaload, 1) := by decide +kernel
theorem dX3_plannedBefore_19 : decode cX3_plannedBefore 19 = .ok (.goto 10, 3) := by decide +kernel
theorem dX3_plannedBefore_22 : decode cX3_plannedBefore 22 = .ok (.aload_n 0, 1) := by decide +kernel
theorem dX3_plannedBefore_23 : decode cX3_plannedBefore 23 = .ok (.getfield 12, 3) := by decide +kernel
theorem dX3_plannedBefore_26 : decode cX3_plannedBefore 26 = .ok (.getfield 57, 3) := by decide +kernel
theorem dX3_plannedBefore_29 : decode cX3_plannedBefore 29 = .ok (.ireturn, 1) := by decide +kernel
set_option maxRecDepth 20000 in
theorem ggX3_plannedTrade_X3_plannedBefore : GoodIn wsX3_plannedTrade wsX3_plannedBefore := goodIn_r _ [12, 1, 2, 3, 13, 14, 15, 16, 17, 18, 19, 20, 21, 22, 23, 24, 25, 26, 27, 28, 29, 30, 31, 32, 33, 34, 35] (by decide +kernel) (by decide +kernel)
set_option maxRecDepth 20000 in
theorem gX3_plannedTrade_X3_plannedBefore : GoodIn wsX3_plannedTrade (wsV RX3 94 RX3 yX3_plannedBefore wsX3_plannedBefore) := goodIn_app (goodIn_of _ (by decide +kernel)) ggX3_plannedTrade_X3_plannedBefore
theorem dX3_plannedTrade_0 : decode cX3_plannedTrade 0 = .ok (.iconst 0, 1) := by decide +kernel
theorem dX3_plannedTrade_1 : decode cX3_plannedTrade 1 = .ok (.istore_n 2, 1) := by decide +kernel
theorem dX3_plannedTrade_2 : decode cX3_plannedTrade 2 = .ok (.aload_n 0, 1) := by decide +kernel
theorem dX3_plannedTrade_3 : decode cX3_plannedTrade 3 = .ok (.getfield 12, 3) := by decide +kernel
theorem dX3_plannedTrade_6 : decode cX3_plannedTrade 6 = .ok (.getfield 53, 3) := by decide +kernel
theorem dX3_plannedTrade_9 : decode cX3_plannedTrade 9 = .ok (.istore_n 3, 1) := by decide +kernel
theorem dX3_plannedTrade_10 : decode cX3_plannedTrade 10 = .ok (.iload_n 3, 1) := by decide +kernel
theorem dX3_plannedTrade_11 : decode cX3_plannedTrade 11 = .ok (.bipush 24, 2) := by decide +kernel
theorem dX3_plannedTrade_13 : decode cX3_plannedTrade 13 = .ok (.if_icmp .ge 30, 3) := by decide +kernel
theorem dX3_plannedTrade_16 : decode cX3_plannedTrade 16 = .ok (.iload_n 2, 1) := by decide +kernel
theorem dX3_plannedTrade_17 : decode cX3_plannedTrade 17 = .ok (.iconst 0, 1) := by decide +kernel
theorem dX3_plannedTrade_18 : decode cX3_plannedTrade 18 = .ok (.iload_n 1, 1) := by decide +kernel
theorem dX3_plannedTrade_19 : decode cX3_plannedTrade 19 = .ok (.aload_n 0, 1) := by decide +kernel
theorem dX3_plannedTrade_20 : decode cX3_plannedTrade 20 = .ok (.getfield 26, 3) := by decide +kernel
theorem dX3_plannedTrade_23 : decode cX3_plannedTrade 23 = .ok (.iload_n 3, 1) := by decide +kernel
theorem dX3_plannedTrade_24 : decode cX3_plannedTrade 24 = .ok (.iaload, 1) := by decide +kernel
theorem dX3_plannedTrade_25 : decode cX3_plannedTrade 25 = .ok (.aload_n 0, 1) := by decide +kernel
theorem dX3_plannedTrade_26 : decode cX3_plannedTrade 26 = .ok (.iload_n 3, 1) := by decide +kernel
theorem dX3_plannedTrade_27 : decode cX3_plannedTrade 27 = .ok (.invokevirtual 94, 3) := by decide +kernel
theorem dX3_plannedTrade_30 : decode cX3_plannedTrade 30 = .ok (.isub, 1) := by decide +kernel
theorem dX3_plannedTrade_31 : decode cX3_plannedTrade 31 = .ok (.imul, 1) := by decide +kernel
theorem dX3_plannedTrade_32 : decode cX3_plannedTrade 32 = .ok (.invokestatic 194, 3) := by decide +kernel
theorem dX3_plannedTrade_35 : decode cX3_plannedTrade 35 = .ok (.iadd, 1) := by decide +kernel
theorem dX3_plannedTrade_36 : decode cX3_plannedTrade 36 = .ok (.istore_n 2, 1) := by decide +kernel
theorem dX3_plannedTrade_37 : decode cX3_plannedTrade 37 = .ok (.iinc 3 1, 3) := by decide +kernel
theorem dX3_plannedTrade_40 : decode cX3_plannedTrade 40 = .ok (.goto (-30), 3) := by decide +kernel
theorem dX3_plannedTrade_43 : decode cX3_plannedTrade 43 = .ok (.iload_n 2, 1) := by decide +kernel
theorem dX3_plannedTrade_44 : decode cX3_plannedTrade 44 = .ok (.ireturn, 1) := by decide +kernel
set_option maxRecDepth 20000 in
theorem ggX3_dearness_X3_plannedBefore : GoodIn wsX3_dearness wsX3_plannedBefore := goodIn_r _ [11, 3, 6, 1, 12, 110, 111, 112, 113, 114, 115, 116, 117, 118, 119, 120, 133, 134, 135, 136, 137, 138, 139, 140, 141, 142, 143] (by decide +kernel) (by decide +kernel)
set_option maxRecDepth 20000 in
theorem gX3_dearness_X3_plannedBefore : GoodIn wsX3_dearness (wsV RX3 94 RX3 yX3_plannedBefore wsX3_plannedBefore) := goodIn_app (goodIn_of _ (by decide +kernel)) ggX3_dearness_X3_plannedBefore
set_option maxRecDepth 20000 in
theorem ggX3_dearness_X1_load : GoodIn wsX3_dearness wsX1_load := goodIn_r _ [17, 18, 19, 20, 21, 22, 23, 24, 25, 26, 27, 28, 29, 30, 31, 32, 33, 34, 35, 36, 37, 38, 39, 40, 41, 42, 43, 44, 45, 46, 47, 48, 49, 50, 51, 52, 53, 54, 133, 134, 135, 136, 137, 138, 139, 140, 141, 142, 143, 121, 122, 123, 124, 125, 126, 127, 128, 129, 130, 131, 132] (by decide +kernel) (by decide +kernel)
set_option maxRecDepth 20000 in
theorem gX3_dearness_X1_load : GoodIn wsX3_dearness (wsV RX3 182 RX1 yX1_load wsX1_load) := goodIn_app (goodIn_of _ (by decide +kernel)) ggX3_dearness_X1_load
set_option maxRecDepth 20000 in
theorem ggX3_dearness_X1_solve : GoodIn wsX3_dearness wsX1_solve := goodIn_r _ [58, 59, 60, 53, 61, 62, 63, 64, 65, 66, 67, 16, 68, 69, 70, 25, 71, 72, 73, 74, 30, 75, 29, 23, 76, 27, 77, 78, 79, 80, 81, 82, 83, 84, 85, 86, 87, 88, 89, 90, 91, 92, 28, 21, 93, 94, 95, 96, 97, 98, 99, 100, 19, 101, 102, 103, 104, 121, 122, 123, 124, 125, 126, 127, 128, 129, 130, 131, 132] (by decide +kernel) (by decide +kernel)
set_option maxRecDepth 20000 in
theorem gX3_dearness_X1_solve : GoodIn wsX3_dearness (wsV RX3 198 RX1 yX1_solve wsX1_solve) := goodIn_app (goodIn_of _ (by decide +kernel)) ggX3_dearness_X1_solve
set_option maxRecDepth 20000 in
theorem ggX3_dearness_X3_trialBuysIn : GoodIn wsX3_dearness wsX3_trialBuysIn := goodIn_r _ [108, 3, 12, 6, 2, 109, 94, 95, 16, 96, 75, 59, 60, 53, 61, 76, 62, 63, 64, 97, 98, 99, 100, 28, 19, 89, 90, 91, 92, 21, 110, 111, 112, 113, 114, 115, 116, 117, 118, 119, 120, 133, 134, 135, 136, 137, 138, 139, 140, 141, 142, 143, 121, 122, 123, 124, 125, 126, 127, 128, 129, 130, 131, 132] (by decide +kernel) (by decide +kernel)
set_option maxRecDepth 20000 in
theorem gX3_dearness_X3_trialBuysIn : GoodIn wsX3_dearness (wsV RX3 217 RX3 yX3_trialBuysIn wsX3_trialBuysIn) := goodIn_app (goodIn_of _ (by decide +kernel)) ggX3_dearness_X3_trialBuysIn
theorem dX3_dearness_0 : decode cX3_dearness 0 = .ok (.aload_n 0, 1) := by decide +kernel
theorem dX3_dearness_1 : decode cX3_dearness 1 = .ok (.getfield 26, 3) := by decide +kernel
theorem dX3_dearness_4 : decode cX3_dearness 4 = .ok (.iload_n 1, 1) := by decide +kernel
theorem dX3_dearness_5 : decode cX3_dearness 5 = .ok (.iaload, 1) := by decide +kernel
theorem dX3_dearness_6 : decode cX3_dearness 6 = .ok (.aload_n 0, 1) := by decide +kernel
theorem dX3_dearness_7 : decode cX3_dearness 7 = .ok (.iload_n 1, 1) := by decide +kernel
theorem dX3_dearness_8 : decode cX3_dearness 8 = .ok (.invokevirtual 94, 3) := by decide +kernel
theorem dX3_dearness_11 : decode cX3_dearness 11 = .ok (.if_icmp .gt 5, 3) := by decide +kernel
theorem dX3_dearness_14 : decode cX3_dearness 14 = .ok (.iconst 0, 1) := by decide +kernel
theorem dX3_dearness_15 : decode cX3_dearness 15 = .ok (.ireturn, 1) := by decide +kernel
theorem dX3_dearness_16 : decode cX3_dearness 16 = .ok (.aload_n 0, 1) := by decide +kernel
theorem dX3_dearness_17 : decode cX3_dearness 17 = .ok (.getfield 23, 3) := by decide +kernel
theorem dX3_dearness_20 : decode cX3_dearness 20 = .ok (.aload_n 0, 1) := by decide +kernel
theorem dX3_dearness_21 : decode cX3_dearness 21 = .ok (.getfield 12, 3) := by decide +kernel
theorem dX3_dearness_24 : decode cX3_dearness 24 = .ok (.invokevirtual 182, 3) := by decide +kernel
theorem dX3_dearness_27 : decode cX3_dearness 27 = .ok (.aload_n 0, 1) := by decide +kernel
theorem dX3_dearness_28 : decode cX3_dearness 28 = .ok (.getfield 23, 3) := by decide +kernel
theorem dX3_dearness_31 : decode cX3_dearness 31 = .ok (.bipush 23, 2) := by decide +kernel
theorem dX3_dearness_33 : decode cX3_dearness 33 = .ok (.iload_n 1, 1) := by decide +kernel
theorem dX3_dearness_34 : decode cX3_dearness 34 = .ok (.iconst 1, 1) := by decide +kernel
theorem dX3_dearness_35 : decode cX3_dearness 35 = .ok (.iadd, 1) := by decide +kernel
theorem dX3_dearness_36 : decode cX3_dearness 36 = .ok (.invokevirtual 198, 3) := by decide +kernel
theorem dX3_dearness_39 : decode cX3_dearness 39 = .ok (.iconst 1, 1) := by decide +kernel
theorem dX3_dearness_40 : decode cX3_dearness 40 = .ok (.istore_n 2, 1) := by decide +kernel
theorem dX3_dearness_41 : decode cX3_dearness 41 = .ok (.sipush 1000, 3) := by decide +kernel
theorem dX3_dearness_44 : decode cX3_dearness 44 = .ok (.istore_n 3, 1) := by decide +kernel
theorem dX3_dearness_45 : decode cX3_dearness 45 = .ok (.iconst 0, 1) := by decide +kernel
theorem dX3_dearness_46 : decode cX3_dearness 46 = .ok (.istore 4, 2) := by decide +kernel
theorem dX3_dearness_48 : decode cX3_dearness 48 = .ok (.iload 4, 2) := by decide +kernel
theorem dX3_dearness_50 : decode cX3_dearness 50 = .ok (.sipush 999, 3) := by decide +kernel
theorem dX3_dearness_53 : decode cX3_dearness 53 = .ok (.if_icmp .ge 76, 3) := by decide +kernel
theorem dX3_dearness_56 : decode cX3_dearness 56 = .ok (.iload_n 2, 1) := by decide +kernel
theorem dX3_dearness_57 : decode cX3_dearness 57 = .ok (.iload_n 3, 1) := by decide +kernel
theorem dX3_dearness_58 : decode cX3_dearness 58 = .ok (.if_icmp .ge 71, 3) := by decide +kernel
theorem dX3_dearness_61 : decode cX3_dearness 61 = .ok (.iload_n 2, 1) := by decide +kernel
theorem dX3_dearness_62 : decode cX3_dearness 62 = .ok (.iload_n 3, 1) := by decide +kernel
theorem dX3_dearness_63 : decode cX3_dearness 63 = .ok (.iadd, 1) := by decide +kernel
theorem dX3_dearness_64 : decode cX3_dearness 64 = .ok (.iconst 2, 1) := by decide +kernel
theorem dX3_dearness_65 : decode cX3_dearness 65 = .ok (.idiv, 1) := by decide +kernel
theorem dX3_dearness_66 : decode cX3_dearness 66 = .ok (.istore 5, 2) := by decide +kernel
theorem dX3_dearness_68 : decode cX3_dearness 68 = .ok (.aload_n 0, 1) := by decide +kernel
theorem dX3_dearness_69 : decode cX3_dearness 69 = .ok (.getfield 23, 3) := by decide +kernel
theorem dX3_dearness_72 : decode cX3_dearness 72 = .ok (.getfield 106, 3) := by decide +kernel
theorem dX3_dearness_75 : decode cX3_dearness 75 = .ok (.iload_n 1, 1) := by decide +kernel
theorem dX3_dearness_76 : decode cX3_dearness 76 = .ok (.aload_n 0, 1) := by decide +kernel
theorem dX3_dearness_77 : decode cX3_dearness 77 = .ok (.getfield 19, 3) := by decide +kernel
theorem dX3_dearness_80 : decode cX3_dearness 80 = .ok (.getfield 106, 3) := by decide +kernel
theorem dX3_dearness_83 : decode cX3_dearness 83 = .ok (.iload_n 1, 1) := by decide +kernel
theorem dX3_dearness_84 : decode cX3_dearness 84 = .ok (.iaload, 1) := by decide +kernel
theorem dX3_dearness_85 : decode cX3_dearness 85 = .ok (.iload 5, 2) := by decide +kernel
theorem dX3_dearness_87 : decode cX3_dearness 87 = .ok (.iadd, 1) := by decide +kernel
theorem dX3_dearness_88 : decode cX3_dearness 88 = .ok (.iastore, 1) := by decide +kernel
theorem dX3_dearness_89 : decode cX3_dearness 89 = .ok (.aload_n 0, 1) := by decide +kernel
theorem dX3_dearness_90 : decode cX3_dearness 90 = .ok (.getfield 23, 3) := by decide +kernel
theorem dX3_dearness_93 : decode cX3_dearness 93 = .ok (.iload_n 1, 1) := by decide +kernel
theorem dX3_dearness_94 : decode cX3_dearness 94 = .ok (.aload_n 0, 1) := by decide +kernel
theorem dX3_dearness_95 : decode cX3_dearness 95 = .ok (.getfield 12, 3) := by decide +kernel
theorem dX3_dearness_98 : decode cX3_dearness 98 = .ok (.getfield 53, 3) := by decide +kernel
theorem dX3_dearness_101 : decode cX3_dearness 101 = .ok (.invokevirtual 198, 3) := by decide +kernel
theorem dX3_dearness_104 : decode cX3_dearness 104 = .ok (.aload_n 0, 1) := by decide +kernel
theorem dX3_dearness_105 : decode cX3_dearness 105 = .ok (.iload_n 1, 1) := by decide +kernel
theorem dX3_dearness_106 : decode cX3_dearness 106 = .ok (.invokevirtual 217, 3) := by decide +kernel
theorem dX3_dearness_109 : decode cX3_dearness 109 = .ok (.ifCond .eq 11, 3) := by decide +kernel
theorem dX3_dearness_112 : decode cX3_dearness 112 = .ok (.iload 5, 2) := by decide +kernel
theorem dX3_dearness_114 : decode cX3_dearness 114 = .ok (.iconst 1, 1) := by decide +kernel
theorem dX3_dearness_115 : decode cX3_dearness 115 = .ok (.iadd, 1) := by decide +kernel
theorem dX3_dearness_116 : decode cX3_dearness 116 = .ok (.istore_n 2, 1) := by decide +kernel
theorem dX3_dearness_117 : decode cX3_dearness 117 = .ok (.goto 6, 3) := by decide +kernel
theorem dX3_dearness_120 : decode cX3_dearness 120 = .ok (.iload 5, 2) := by decide +kernel
theorem dX3_dearness_122 : decode cX3_dearness 122 = .ok (.istore_n 3, 1) := by decide +kernel
theorem dX3_dearness_123 : decode cX3_dearness 123 = .ok (.iinc 4 1, 3) := by decide +kernel
theorem dX3_dearness_126 : decode cX3_dearness 126 = .ok (.goto (-78), 3) := by decide +kernel
theorem dX3_dearness_129 : decode cX3_dearness 129 = .ok (.iload_n 2, 1) := by decide +kernel
theorem dX3_dearness_130 : decode cX3_dearness 130 = .ok (.sipush 999, 3) := by decide +kernel
theorem dX3_dearness_133 : decode cX3_dearness 133 = .ok (.if_icmp .le 7, 3) := by decide +kernel
theorem dX3_dearness_136 : decode cX3_dearness 136 = .ok (.iconst (-1), 1) := by decide +kernel
theorem dX3_dearness_137 : decode cX3_dearness 137 = .ok (.goto 4, 3) := by decide +kernel
theorem dX3_dearness_140 : decode cX3_dearness 140 = .ok (.iload_n 2, 1) := by decide +kernel
theorem dX3_dearness_141 : decode cX3_dearness 141 = .ok (.ireturn, 1) := by decide +kernel
set_option maxRecDepth 20000 in
theorem ggX3_trialBuysIn_X1_next : GoodIn wsX3_trialBuysIn wsX1_next := goodIn_r _ [9, 10, 11, 12, 13, 14, 15, 16, 17, 18, 19, 20, 21, 8, 22, 23, 24, 25, 26, 27, 28, 29, 52, 53, 54, 55, 56, 57, 58, 59, 60, 61, 62, 63] (by decide +kernel) (by decide +kernel)
set_option maxRecDepth 20000 in
theorem gX3_trialBuysIn_X1_next : GoodIn wsX3_trialBuysIn (wsV RX3 214 RX1 yX1_next wsX1_next) := goodIn_app (goodIn_of _ (by decide +kernel)) ggX3_trialBuysIn_X1_next
theorem dX3_trialBuysIn_0 : decode cX3_trialBuysIn 0 = .ok (.aload_n 0, 1) := by decide +kernel
theorem dX3_trialBuysIn_1 : decode cX3_trialBuysIn 1 = .ok (.getfield 12, 3) := by decide +kernel
theorem dX3_trialBuysIn_4 : decode cX3_trialBuysIn 4 = .ok (.getfield 57, 3) := by decide +kernel
theorem dX3_trialBuysIn_7 : decode cX3_trialBuysIn 7 = .ok (.istore_n 2, 1) := by decide +kernel
theorem dX3_trialBuysIn_8 : decode cX3_trialBuysIn 8 = .ok (.aload_n 0, 1) := by decide +kernel
theorem dX3_trialBuysIn_9 : decode cX3_trialBuysIn 9 = .ok (.getfield 12, 3) := by decide +kernel
theorem dX3_trialBuysIn_12 : decode cX3_trialBuysIn 12 = .ok (.getfield 53, 3) := by decide +kernel
theorem dX3_trialBuysIn_15 : decode cX3_trialBuysIn 15 = .ok (.istore_n 3, 1) := by decide +kernel
theorem dX3_trialBuysIn_16 : decode cX3_trialBuysIn 16 = .ok (.iload_n 3, 1) := by decide +kernel
theorem dX3_trialBuysIn_17 : decode cX3_trialBuysIn 17 = .ok (.iload_n 1, 1) := by decide +kernel
theorem dX3_trialBuysIn_18 : decode cX3_trialBuysIn 18 = .ok (.if_icmp .ge 19, 3) := by decide +kernel
theorem dX3_trialBuysIn_21 : decode cX3_trialBuysIn 21 = .ok (.aload_n 0, 1) := by decide +kernel
theorem dX3_trialBuysIn_22 : decode cX3_trialBuysIn 22 = .ok (.getfield 23, 3) := by decide +kernel
theorem dX3_trialBuysIn_25 : decode cX3_trialBuysIn 25 = .ok (.iload_n 3, 1) := by decide +kernel
theorem dX3_trialBuysIn_26 : decode cX3_trialBuysIn 26 = .ok (.iload_n 2, 1) := by decide +kernel
theorem dX3_trialBuysIn_27 : decode cX3_trialBuysIn 27 = .ok (.invokevirtual 214, 3) := by decide +kernel
theorem dX3_trialBuysIn_30 : decode cX3_trialBuysIn 30 = .ok (.istore_n 2, 1) := by decide +kernel
theorem dX3_trialBuysIn_31 : decode cX3_trialBuysIn 31 = .ok (.iinc 3 1, 3) := by decide +kernel
theorem dX3_trialBuysIn_34 : decode cX3_trialBuysIn 34 = .ok (.goto (-18), 3) := by decide +kernel
theorem dX3_trialBuysIn_37 : decode cX3_trialBuysIn 37 = .ok (.aload_n 0, 1) := by decide +kernel
theorem dX3_trialBuysIn_38 : decode cX3_trialBuysIn 38 = .ok (.getfield 23, 3) := by decide +kernel
theorem dX3_trialBuysIn_41 : decode cX3_trialBuysIn 41 = .ok (.iload_n 1, 1) := by decide +kernel
theorem dX3_trialBuysIn_42 : decode cX3_trialBuysIn 42 = .ok (.iload_n 2, 1) := by decide +kernel
theorem dX3_trialBuysIn_43 : decode cX3_trialBuysIn 43 = .ok (.invokevirtual 214, 3) := by decide +kernel
theorem dX3_trialBuysIn_46 : decode cX3_trialBuysIn 46 = .ok (.iload_n 2, 1) := by decide +kernel
theorem dX3_trialBuysIn_47 : decode cX3_trialBuysIn 47 = .ok (.if_icmp .le 7, 3) := by decide +kernel
theorem dX3_trialBuysIn_50 : decode cX3_trialBuysIn 50 = .ok (.iconst 1, 1) := by decide +kernel
theorem dX3_trialBuysIn_51 : decode cX3_trialBuysIn 51 = .ok (.goto 4, 3) := by decide +kernel
theorem dX3_trialBuysIn_54 : decode cX3_trialBuysIn 54 = .ok (.iconst 0, 1) := by decide +kernel
theorem dX3_trialBuysIn_55 : decode cX3_trialBuysIn 55 = .ok (.ireturn, 1) := by decide +kernel
set_option maxRecDepth 20000 in
theorem ggX3_remember_J9_floorMod_7cf53 : GoodIn wsX3_remember wsJ9_floorMod_7cf53 := goodIn_r _ [12] (by decide +kernel) (by decide +kernel)
set_option maxRecDepth 20000 in
theorem gX3_remember_J9_floorMod_7cf53 : GoodIn wsX3_remember (va_wsS RX3 173 yJ9_floorMod_7cf53 wsJ9_floorMod_7cf53) := goodIn_app (goodIn_of _ (by decide +kernel)) ggX3_remember_J9_floorMod_7cf53
set_option maxRecDepth 20000 in
theorem ggX3_remember_X0_put : GoodIn wsX3_remember wsX0_put := goodIn_r _ [17, 18, 19, 20, 21, 22, 23, 24, 25, 26, 27, 28, 29, 30, 31, 32, 33, 34, 35, 36, 37, 38, 39, 51, 52, 53, 54, 55, 56, 57, 58, 59, 60, 61, 62, 63] (by decide +kernel) (by decide +kernel)
set_option maxRecDepth 20000 in
theorem gX3_remember_X0_put : GoodIn wsX3_remember (wsV RX3 211 RX0 yX0_put wsX0_put) := goodIn_app (goodIn_of _ (by decide +kernel)) ggX3_remember_X0_put
theorem dX3_remember_0 : decode cX3_remember 0 = .ok (.aload_n 0, 1) := by decide +kernel
theorem dX3_remember_1 : decode cX3_remember 1 = .ok (.aload_n 0, 1) := by decide +kernel
theorem dX3_remember_2 : decode cX3_remember 2 = .ok (.getfield 170, 3) := by decide +kernel
theorem dX3_remember_5 : decode cX3_remember 5 = .ok (.iconst 1, 1) := by decide +kernel
theorem dX3_remember_6 : decode cX3_remember 6 = .ok (.iadd, 1) := by decide +kernel
theorem dX3_remember_7 : decode cX3_remember 7 = .ok (.bipush 40, 2) := by decide +kernel
theorem dX3_remember_9 : decode cX3_remember 9 = .ok (.invokestatic 173, 3) := by decide +kernel
theorem dX3_remember_12 : decode cX3_remember 12 = .ok (.putfield 170, 3) := by decide +kernel
theorem dX3_remember_15 : decode cX3_remember 15 = .ok (.aload_n 0, 1) := by decide +kernel
theorem dX3_remember_16 : decode cX3_remember 16 = .ok (.getfield 35, 3) := by decide +kernel
theorem dX3_remember_19 : decode cX3_remember 19 = .ok (.aload_n 0, 1) := by decide +kernel
theorem dX3_remember_20 : decode cX3_remember 20 = .ok (.getfield 170, 3) := by decide +kernel
theorem dX3_remember_23 : decode cX3_remember 23 = .ok (.aload_n 0, 1) := by decide +kernel
theorem dX3_remember_24 : decode cX3_remember 24 = .ok (.getfield 12, 3) := by decide +kernel
theorem dX3_remember_27 : decode cX3_remember 27 = .ok (.invokevirtual 211, 3) := by decide +kernel
theorem dX3_remember_30 : decode cX3_remember 30 = .ok (.aload_n 0, 1) := by decide +kernel
theorem dX3_remember_31 : decode cX3_remember 31 = .ok (.bipush 40, 2) := by decide +kernel
theorem dX3_remember_33 : decode cX3_remember 33 = .ok (.aload_n 0, 1) := by decide +kernel
theorem dX3_remember_34 : decode cX3_remember 34 = .ok (.getfield 97, 3) := by decide +kernel
theorem dX3_remember_37 : decode cX3_remember 37 = .ok (.iconst 1, 1) := by decide +kernel
theorem dX3_remember_38 : decode cX3_remember 38 = .ok (.iadd, 1) := by decide +kernel
theorem dX3_remember_39 : decode cX3_remember 39 = .ok (.invokestatic 189, 3) := by decide +kernel
theorem dX3_remember_42 : decode cX3_remember 42 = .ok (.putfield 97, 3) := by decide +kernel
theorem dX3_remember_45 : decode cX3_remember 45 = .ok (.return_, 1) := by decide +kernel
set_option maxRecDepth 20000 in
theorem ggX3_drawLaw_X3_draw : GoodIn wsX3_drawLaw wsX3_draw := goodIn_r _ [6, 7, 8, 9, 10, 18, 19, 20, 21, 22, 23, 24, 25, 26, 27, 28] (by decide +kernel) (by decide +kernel)
set_option maxRecDepth 20000 in
theorem gX3_drawLaw_X3_draw : GoodIn wsX3_drawLaw (wsV RX3 220 RX3 yX3_draw wsX3_draw) := goodIn_app (goodIn_of _ (by decide +kernel)) ggX3_drawLaw_X3_draw
set_option maxRecDepth 20000 in
theorem ggX3_drawLaw_X2_addLaw : GoodIn wsX3_drawLaw wsX2_addLaw := goodIn_r _ [15, 16, 17, 29, 30, 31, 32, 33, 34, 35, 36, 37, 38, 39] (by decide +kernel) (by decide +kernel)
set_option maxRecDepth 20000 in
theorem gX3_drawLaw_X2_addLaw : GoodIn wsX3_drawLaw (wsV RX3 155 RX2 yX2_addLaw wsX2_addLaw) := goodIn_app (goodIn_of _ (by decide +kernel)) ggX3_drawLaw_X2_addLaw
theorem dX3_drawLaw_0 : decode cX3_drawLaw 0 = .ok (.aload_n 0, 1) := by decide +kernel
theorem dX3_drawLaw_1 : decode cX3_drawLaw 1 = .ok (.bipush 24, 2) := by decide +kernel
theorem dX3_drawLaw_3 : decode cX3_drawLaw 3 = .ok (.invokevirtual 220, 3) := by decide +kernel
theorem dX3_drawLaw_6 : decode cX3_drawLaw 6 = .ok (.istore_n 1, 1) := by decide +kernel
theorem dX3_drawLaw_7 : decode cX3_drawLaw 7 = .ok (.iload_n 1, 1) := by decide +kernel
theorem dX3_drawLaw_8 : decode cX3_drawLaw 8 = .ok (.aload_n 0, 1) := by decide +kernel
theorem dX3_drawLaw_9 : decode cX3_drawLaw 9 = .ok (.bipush 24, 2) := by decide +kernel
theorem dX3_drawLaw_11 : decode cX3_drawLaw 11 = .ok (.iload_n 1, 1) := by decide +kernel
theorem dX3_drawLaw_12 : decode cX3_drawLaw 12 = .ok (.isub, 1) := by decide +kernel
theorem dX3_drawLaw_13 : decode cX3_drawLaw 13 = .ok (.invokevirtual 220, 3) := by decide +kernel
theorem dX3_drawLaw_16 : decode cX3_drawLaw 16 = .ok (.iadd, 1) := by decide +kernel
theorem dX3_drawLaw_17 : decode cX3_drawLaw 17 = .ok (.istore_n 2, 1) := by decide +kernel
theorem dX3_drawLaw_18 : decode cX3_drawLaw 18 = .ok (.aload_n 0, 1) := by decide +kernel
theorem dX3_drawLaw_19 : decode cX3_drawLaw 19 = .ok (.iconst 5, 1) := by decide +kernel
theorem dX3_drawLaw_20 : decode cX3_drawLaw 20 = .ok (.invokevirtual 220, 3) := by decide +kernel
theorem dX3_drawLaw_23 : decode cX3_drawLaw 23 = .ok (.istore_n 3, 1) := by decide +kernel
theorem dX3_drawLaw_24 : decode cX3_drawLaw 24 = .ok (.aload_n 0, 1) := by decide +kernel
theorem dX3_drawLaw_25 : decode cX3_drawLaw 25 = .ok (.bipush 100, 2) := by decide +kernel
theorem dX3_drawLaw_27 : decode cX3_drawLaw 27 = .ok (.invokevirtual 220, 3) := by decide +kernel
theorem dX3_drawLaw_30 : decode cX3_drawLaw 30 = .ok (.istore 4, 2) := by decide +kernel
theorem dX3_drawLaw_32 : decode cX3_drawLaw 32 = .ok (.aload_n 0, 1) := by decide +kernel
theorem dX3_drawLaw_33 : decode cX3_drawLaw 33 = .ok (.bipush 19, 2) := by decide +kernel
theorem dX3_drawLaw_35 : decode cX3_drawLaw 35 = .ok (.invokevirtual 220, 3) := by decide +kernel
theorem dX3_drawLaw_38 : decode cX3_drawLaw 38 = .ok (.bipush 9, 2) := by decide +kernel
theorem dX3_drawLaw_40 : decode cX3_drawLaw 40 = .ok (.isub, 1) := by decide +kernel
theorem dX3_drawLaw_41 : decode cX3_drawLaw 41 = .ok (.istore 5, 2) := by decide +kernel
theorem dX3_drawLaw_43 : decode cX3_drawLaw 43 = .ok (.aload_n 0, 1) := by decide +kernel
theorem dX3_drawLaw_44 : decode cX3_drawLaw 44 = .ok (.getfield 12, 3) := by decide +kernel
theorem dX3_drawLaw_47 : decode cX3_drawLaw 47 = .ok (.iload_n 1, 1) := by decide +kernel
theorem dX3_drawLaw_48 : decode cX3_drawLaw 48 = .ok (.iload_n 2, 1) := by decide +kernel
theorem dX3_drawLaw_49 : decode cX3_drawLaw 49 = .ok (.iload_n 3, 1) := by decide +kernel
theorem dX3_drawLaw_50 : decode cX3_drawLaw 50 = .ok (.iload 4, 2) := by decide +kernel
theorem dX3_drawLaw_52 : decode cX3_drawLaw 52 = .ok (.iload 5, 2) := by decide +kernel
theorem dX3_drawLaw_54 : decode cX3_drawLaw 54 = .ok (.invokevirtual 155, 3) := by decide +kernel
theorem dX3_drawLaw_57 : decode cX3_drawLaw 57 = .ok (.return_, 1) := by decide +kernel
theorem dX3_draw_0 : decode cX3_draw 0 = .ok (.aload_n 0, 1) := by decide +kernel
theorem dX3_draw_1 : decode cX3_draw 1 = .ok (.aload_n 0, 1) := by decide +kernel
theorem dX3_draw_2 : decode cX3_draw 2 = .ok (.getfield 205, 3) := by decide +kernel
theorem dX3_draw_5 : decode cX3_draw 5 = .ok (.ldc 223, 2) := by decide +kernel
theorem dX3_draw_7 : decode cX3_draw 7 = .ok (.imul, 1) := by decide +kernel
theorem dX3_draw_8 : decode cX3_draw 8 = .ok (.sipush 12345, 3) := by decide +kernel
theorem dX3_draw_11 : decode cX3_draw 11 = .ok (.iadd, 1) := by decide +kernel
theorem dX3_draw_12 : decode cX3_draw 12 = .ok (.ldc 224, 2) := by decide +kernel
theorem dX3_draw_14 : decode cX3_draw 14 = .ok (.iand, 1) := by decide +kernel
theorem dX3_draw_15 : decode cX3_draw 15 = .ok (.putfield 205, 3) := by decide +kernel
theorem dX3_draw_18 : decode cX3_draw 18 = .ok (.iload_n 1, 1) := by decide +kernel
theorem dX3_draw_19 : decode cX3_draw 19 = .ok (.ifCond .le 15, 3) := by decide +kernel
theorem dX3_draw_22 : decode cX3_draw 22 = .ok (.aload_n 0, 1) := by decide +kernel
theorem dX3_draw_23 : decode cX3_draw 23 = .ok (.getfield 205, 3) := by decide +kernel
theorem dX3_draw_26 : decode cX3_draw 26 = .ok (.ldc 225, 2) := by decide +kernel
theorem dX3_draw_28 : decode cX3_draw 28 = .ok (.idiv, 1) := by decide +kernel
theorem dX3_draw_29 : decode cX3_draw 29 = .ok (.iload_n 1, 1) := by decide +kernel
theorem dX3_draw_30 : decode cX3_draw 30 = .ok (.irem, 1) := by decide +kernel
theorem dX3_draw_31 : decode cX3_draw 31 = .ok (.goto 4, 3) := by decide +kernel
theorem dX3_draw_34 : decode cX3_draw 34 = .ok (.iconst 0, 1) := by decide +kernel
theorem dX3_draw_35 : decode cX3_draw 35 = .ok (.ireturn, 1) := by decide +kernel
