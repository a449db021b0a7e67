set_option maxRecDepth 20000 in
theorem ggX3_init_X2_init : GoodIn wsX3_init wsX2_init := goodIn_r _ [25, 26, 2, 3, 27, 28, 13, 29, 30, 152, 153, 154, 155, 156, 157, 158, 159, 160, 161, 162] (by decide +kernel) (by decide +kernel)
set_option maxRecDepth 20000 in
theorem gX3_init_X2_init : GoodIn wsX3_init (wsX2_init) := ggX3_init_X2_init
set_option maxRecDepth 20000 in
theorem ggX3_init_X1_init : GoodIn wsX3_init wsX1_init := goodIn_r _ [32, 33, 2, 3, 13, 34, 35, 36, 37, 38, 39, 174, 175, 176, 177, 178, 179, 180, 181, 182, 183, 184, 185] (by decide +kernel) (by decide +kernel)
set_option maxRecDepth 20000 in
theorem gX3_init_X1_init_n18 : GoodIn wsX3_init (wsX1_init) := ggX3_init_X1_init
set_option maxRecDepth 20000 in
theorem ggX3_init_X0_init : GoodIn wsX3_init wsX0_init := goodIn_r _ [42, 43, 2, 3, 44, 45, 46, 47, 48, 13, 49, 186, 187] (by decide +kernel) (by decide +kernel)
set_option maxRecDepth 20000 in
theorem gX3_init_X0_init : GoodIn wsX3_init (wsX0_init) := ggX3_init_X0_init
set_option maxRecDepth 20000 in
theorem ggX3_init_X3_settle : GoodIn wsX3_init wsX3_settle := goodIn_r _ [54, 11, 7, 55, 56, 14, 57, 58, 59, 10, 60, 61, 62, 63, 64, 65, 66, 67, 68, 69, 70, 71, 34, 35, 72, 73, 74, 75, 6, 76, 77, 78, 79, 80, 81, 82, 83, 84, 85, 30, 86, 87, 88, 89, 90, 91, 46, 92, 93, 94, 95, 96, 97, 98, 99, 100, 45, 47, 101, 102, 103, 104, 37, 36, 105, 106, 107, 108, 38, 39, 109, 110, 111, 112, 113, 114, 115, 116, 117, 118, 119, 120, 121, 122, 123, 124, 125, 126, 127, 128, 129, 130, 131, 132, 133, 134, 135, 136, 137, 138, 139, 53, 140, 141, 142, 143, 144, 145, 146, 147, 148, 149, 150, 151, 163, 164, 165, 166, 167, 168, 169, 170, 171, 172, 173, 152, 153, 154, 155, 156, 157, 158, 159, 160, 161, 162, 174, 175, 176, 177, 178, 179, 180, 181, 182, 183, 184, 185] (by decide +kernel) (by decide +kernel)
set_option maxRecDepth 20000 in
theorem gX3_init_X3_settle : GoodIn wsX3_init (wsV RX3 49 RX3 yX3_settle wsX3_settle) := goodIn_app (goodIn_of _ (by decide +kernel)) ggX3_init_X3_settle
theorem dX3_init_0 : decode cX3_init 0 = .ok (.aload_n 0, 1) := by decide +kernel
theorem dX3_init_1 : decode cX3_init 1 = .ok (.invokespecial 3, 3) := by decide +kernel
theorem dX3_init_4 : decode cX3_init 4 = .ok (.aload_n 0, 1) := by decide +kernel
theorem dX3_init_5 : decode cX3_init 5 = .ok (.new 9, 3) := by decide +kernel
theorem dX3_init_8 : decode cX3_init 8 = .ok (.dup, 1) := by decide +kernel
theorem dX3_init_9 : decode cX3_init 9 = .ok (.invokespecial 11, 3) := by decide +kernel
theorem dX3_init_12 : decode cX3_init 12 = .ok (.putfield 12, 3) := by decide +kernel
theorem dX3_init_15 : decode cX3_init 15 = .ok (.aload_n 0, 1) := by decide +kernel
theorem dX3_init_16 : decode cX3_init 16 = .ok (.new 16, 3) := by decide +kernel
theorem dX3_init_19 : decode cX3_init 19 = .ok (.dup, 1) := by decide +kernel
theorem dX3_init_20 : decode cX3_init 20 = .ok (.invokespecial 18, 3) := by decide +kernel
theorem dX3_init_23 : decode cX3_init 23 = .ok (.putfield 19, 3) := by decide +kernel
theorem dX3_init_26 : decode cX3_init 26 = .ok (.aload_n 0, 1) := by decide +kernel
theorem dX3_init_27 : decode cX3_init 27 = .ok (.new 16, 3) := by decide +kernel
theorem dX3_init_30 : decode cX3_init 30 = .ok (.dup, 1) := by decide +kernel
theorem dX3_init_31 : decode cX3_init 31 = .ok (.invokespecial 18, 3) := by decide +kernel
theorem dX3_init_34 : decode cX3_init 34 = .ok (.putfield 23, 3) := by decide +kernel
theorem dX3_init_37 : decode cX3_init 37 = .ok (.aload_n 0, 1) := by decide +kernel
theorem dX3_init_38 : decode cX3_init 38 = .ok (.bipush 24, 2) := by decide +kernel
theorem dX3_init_40 : decode cX3_init 40 = .ok (.newarray .int, 2) := by decide +kernel
theorem dX3_init_42 : decode cX3_init 42 = .ok (.putfield 26, 3) := by decide +kernel
theorem dX3_init_45 : decode cX3_init 45 = .ok (.aload_n 0, 1) := by decide +kernel
theorem dX3_init_46 : decode cX3_init 46 = .ok (.new 30, 3) := by decide +kernel
theorem dX3_init_49 : decode cX3_init 49 = .ok (.dup, 1) := by decide +kernel
theorem dX3_init_50 : decode cX3_init 50 = .ok (.bipush 40, 2) := by decide +kernel
theorem dX3_init_52 : decode cX3_init 52 = .ok (.invokespecial 32, 3) := by decide +kernel
theorem dX3_init_55 : decode cX3_init 55 = .ok (.putfield 35, 3) := by decide +kernel
theorem dX3_init_58 : decode cX3_init 58 = .ok (.aload_n 0, 1) := by decide +kernel
theorem dX3_init_59 : decode cX3_init 59 = .ok (.new 30, 3) := by decide +kernel
theorem dX3_init_62 : decode cX3_init 62 = .ok (.dup, 1) := by decide +kernel
theorem dX3_init_63 : decode cX3_init 63 = .ok (.iconst 2, 1) := by decide +kernel
theorem dX3_init_64 : decode cX3_init 64 = .ok (.invokespecial 32, 3) := by decide +kernel
theorem dX3_init_67 : decode cX3_init 67 = .ok (.putfield 39, 3) := by decide +kernel
theorem dX3_init_70 : decode cX3_init 70 = .ok (.aload_n 0, 1) := by decide +kernel
theorem dX3_init_71 : decode cX3_init 71 = .ok (.iconst 2, 1) := by decide +kernel
theorem dX3_init_72 : decode cX3_init 72 = .ok (.newarray .int, 2) := by decide +kernel
theorem dX3_init_74 : decode cX3_init 74 = .ok (.putfield 42, 3) := by decide +kernel
theorem dX3_init_77 : decode cX3_init 77 = .ok (.aload_n 0, 1) := by decide +kernel
theorem dX3_init_78 : decode cX3_init 78 = .ok (.iconst 2, 1) := by decide +kernel
theorem dX3_init_79 : decode cX3_init 79 = .ok (.newarray .boolean, 2) := by decide +kernel
theorem dX3_init_81 : decode cX3_init 81 = .ok (.putfield 45, 3) := by decide +kernel
theorem dX3_init_84 : decode cX3_init 84 = .ok (.aload_n 0, 1) := by decide +kernel
theorem dX3_init_85 : decode cX3_init 85 = .ok (.invokevirtual 49, 3) := by decide +kernel
theorem dX3_init_88 : decode cX3_init 88 = .ok (.pop, 1) := by decide +kernel
theorem dX3_init_89 : decode cX3_init 89 = .ok (.return_, 1) := by decide +kernel
set_option maxRecDepth 20000 in
theorem ggX3_told_X3_bestBy : GoodIn wsX3_told wsX3_bestBy := goodIn_r _ [19, 1, 2, 3, 12, 20, 21, 22, 18, 23, 24, 25, 26, 27, 28, 29, 30, 31, 32, 33, 34, 48, 49, 50, 51, 52, 53, 54, 55, 56, 57, 58, 59, 60, 61, 62, 63, 64, 65, 66, 67, 68, 69, 70, 71, 72, 73, 74, 75, 76, 77, 78, 79, 80, 81] (by decide +kernel) (by decide +kernel)
set_option maxRecDepth 20000 in
theorem gX3_told_X3_bestBy : GoodIn wsX3_told (wsV RX3 78 RX3 yX3_bestBy wsX3_bestBy) := goodIn_app (goodIn_of _ (by decide +kernel)) ggX3_told_X3_bestBy
set_option maxRecDepth 20000 in
theorem ggX3_told_X3_hasPlan : GoodIn wsX3_told wsX3_hasPlan := goodIn_r _ [23, 1, 2, 3, 24, 25, 26, 27, 28, 29, 48, 49, 50, 51, 52, 53, 54, 55, 56, 57, 58, 59, 60, 61, 62, 63, 64, 65, 66, 67, 68, 69, 70, 71, 72, 73, 74, 75, 76, 77, 78, 79, 80, 81] (by decide +kernel) (by decide +kernel)
set_option maxRecDepth 20000 in
theorem gX3_told_X3_hasPlan : GoodIn wsX3_told (wsV RX3 86 RX3 yX3_hasPlan wsX3_hasPlan) := goodIn_app (goodIn_of _ (by decide +kernel)) ggX3_told_X3_hasPlan
set_option maxRecDepth 20000 in
theorem ggX3_told_X3_plannedTrade : GoodIn wsX3_told wsX3_plannedTrade := goodIn_r _ [38, 1, 2, 39, 40, 41, 42, 43, 44, 45, 46, 18, 47, 3, 48, 49, 50, 51, 52, 53, 54, 55, 56, 57, 58, 59, 60, 61, 62, 63, 64, 65, 66, 67, 68, 69] (by decide +kernel) (by decide +kernel)
set_option maxRecDepth 20000 in
theorem gX3_told_X3_plannedTrade : GoodIn wsX3_told (wsV RX3 90 RX3 yX3_plannedTrade wsX3_plannedTrade) := goodIn_app (goodIn_of _ (by decide +kernel)) ggX3_told_X3_plannedTrade
set_option maxRecDepth 20000 in
theorem ggX3_told_X3_plannedBefore : GoodIn wsX3_told wsX3_plannedBefore := goodIn_r _ [47, 1, 2, 39, 3, 48, 49, 50, 51, 52, 53, 54, 55, 56, 57, 58, 59, 60, 61, 62, 63, 64, 65, 66, 67, 68, 69] (by decide +kernel) (by decide +kernel)
set_option maxRecDepth 20000 in
theorem gX3_told_X3_plannedBefore : GoodIn wsX3_told (wsV RX3 94 RX3 yX3_plannedBefore wsX3_plannedBefore) := goodIn_app (goodIn_of _ (by decide +kernel)) ggX3_told_X3_plannedBefore
theorem dX3_told_0 : decode cX3_told 0 = .ok (.iload_n 1, 1) := by decide +kernel
theorem dX3_told_1 : decode cX3_told 1 = .ok (.tableswitch 227 0 13 #[71, 79, 87, 95, 103, 111, 122, 130, 138, 147, 158, 179, 200, 222], 71) := by decide +kernel
theorem dX3_told_72 : decode cX3_told 72 = .ok (.aload_n 0, 1) := by decide +kernel
theorem dX3_told_73 : decode cX3_told 73 = .ok (.getfield 12, 3) := by decide +kernel
theorem dX3_told_76 : decode cX3_told 76 = .ok (.getfield 53, 3) := by decide +kernel
theorem dX3_told_79 : decode cX3_told 79 = .ok (.ireturn, 1) := by decide +kernel
theorem dX3_told_80 : decode cX3_told 80 = .ok (.aload_n 0, 1) := by decide +kernel
theorem dX3_told_81 : decode cX3_told 81 = .ok (.getfield 12, 3) := by decide +kernel
theorem dX3_told_84 : decode cX3_told 84 = .ok (.getfield 57, 3) := by decide +kernel
theorem dX3_told_87 : decode cX3_told 87 = .ok (.ireturn, 1) := by decide +kernel
theorem dX3_told_88 : decode cX3_told 88 = .ok (.aload_n 0, 1) := by decide +kernel
theorem dX3_told_89 : decode cX3_told 89 = .ok (.getfield 12, 3) := by decide +kernel
theorem dX3_told_92 : decode cX3_told 92 = .ok (.getfield 60, 3) := by decide +kernel
theorem dX3_told_95 : decode cX3_told 95 = .ok (.ireturn, 1) := by decide +kernel
theorem dX3_told_96 : decode cX3_told 96 = .ok (.aload_n 0, 1) := by decide +kernel
theorem dX3_told_97 : decode cX3_told 97 = .ok (.getfield 12, 3) := by decide +kernel
theorem dX3_told_100 : decode cX3_told 100 = .ok (.getfield 63, 3) := by decide +kernel
theorem dX3_told_103 : decode cX3_told 103 = .ok (.ireturn, 1) := by decide +kernel
theorem dX3_told_104 : decode cX3_told 104 = .ok (.aload_n 0, 1) := by decide +kernel
theorem dX3_told_105 : decode cX3_told 105 = .ok (.getfield 12, 3) := by decide +kernel
theorem dX3_told_108 : decode cX3_told 108 = .ok (.getfield 66, 3) := by decide +kernel
theorem dX3_told_111 : decode cX3_told 111 = .ok (.ireturn, 1) := by decide +kernel
theorem dX3_told_112 : decode cX3_told 112 = .ok (.aload_n 0, 1) := by decide +kernel
theorem dX3_told_113 : decode cX3_told 113 = .ok (.getfield 12, 3) := by decide +kernel
theorem dX3_told_116 : decode cX3_told 116 = .ok (.getfield 69, 3) := by decide +kernel
theorem dX3_told_119 : decode cX3_told 119 = .ok (.bipush 100, 2) := by decide +kernel
theorem dX3_told_121 : decode cX3_told 121 = .ok (.iadd, 1) := by decide +kernel
theorem dX3_told_122 : decode cX3_told 122 = .ok (.ireturn, 1) := by decide +kernel
theorem dX3_told_123 : decode cX3_told 123 = .ok (.aload_n 0, 1) := by decide +kernel
theorem dX3_told_124 : decode cX3_told 124 = .ok (.getfield 12, 3) := by decide +kernel
theorem dX3_told_127 : decode cX3_told 127 = .ok (.getfield 72, 3) := by decide +kernel
theorem dX3_told_130 : decode cX3_told 130 = .ok (.ireturn, 1) := by decide +kernel
theorem dX3_told_131 : decode cX3_told 131 = .ok (.aload_n 0, 1) := by decide +kernel
theorem dX3_told_132 : decode cX3_told 132 = .ok (.getfield 12, 3) := by decide +kernel
theorem dX3_told_135 : decode cX3_told 135 = .ok (.getfield 75, 3) := by decide +kernel
theorem dX3_told_138 : decode cX3_told 138 = .ok (.ireturn, 1) := by decide +kernel
theorem dX3_told_139 : decode cX3_told 139 = .ok (.aload_n 0, 1) := by decide +kernel
theorem dX3_told_140 : decode cX3_told 140 = .ok (.aload_n 0, 1) := by decide +kernel
theorem dX3_told_141 : decode cX3_told 141 = .ok (.getfield 19, 3) := by decide +kernel
theorem dX3_told_144 : decode cX3_told 144 = .ok (.invokevirtual 78, 3) := by decide +kernel
theorem dX3_told_147 : decode cX3_told 147 = .ok (.ireturn, 1) := by decide +kernel
theorem dX3_told_148 : decode cX3_told 148 = .ok (.aload_n 0, 1) := by decide +kernel
theorem dX3_told_149 : decode cX3_told 149 = .ok (.getfield 12, 3) := by decide +kernel
theorem dX3_told_152 : decode cX3_told 152 = .ok (.getfield 82, 3) := by decide +kernel
theorem dX3_told_155 : decode cX3_told 155 = .ok (.ldc 85, 2) := by decide +kernel
theorem dX3_told_157 : decode cX3_told 157 = .ok (.iadd, 1) := by decide +kernel
theorem dX3_told_158 : decode cX3_told 158 = .ok (.ireturn, 1) := by decide +kernel
theorem dX3_told_159 : decode cX3_told 159 = .ok (.aload_n 0, 1) := by decide +kernel
theorem dX3_told_160 : decode cX3_told 160 = .ok (.aload_n 0, 1) := by decide +kernel
theorem dX3_told_161 : decode cX3_told 161 = .ok (.getfield 19, 3) := by decide +kernel
theorem dX3_told_164 : decode cX3_told 164 = .ok (.invokevirtual 86, 3) := by decide +kernel
theorem dX3_told_167 : decode cX3_told 167 = .ok (.ifCond .eq 11, 3) := by decide +kernel
theorem dX3_told_170 : decode cX3_told 170 = .ok (.aload_n 0, 1) := by decide +kernel
theorem dX3_told_171 : decode cX3_told 171 = .ok (.iconst 1, 1) := by decide +kernel
theorem dX3_told_172 : decode cX3_told 172 = .ok (.invokevirtual 90, 3) := by decide +kernel
theorem dX3_told_175 : decode cX3_told 175 = .ok (.goto 4, 3) := by decide +kernel
theorem dX3_told_178 : decode cX3_told 178 = .ok (.iconst (-1), 1) := by decide +kernel
theorem dX3_told_179 : decode cX3_told 179 = .ok (.ireturn, 1) := by decide +kernel
theorem dX3_told_180 : decode cX3_told 180 = .ok (.aload_n 0, 1) := by decide +kernel
theorem dX3_told_181 : decode cX3_told 181 = .ok (.aload_n 0, 1) := by decide +kernel
theorem dX3_told_182 : decode cX3_told 182 = .ok (.getfield 19, 3) := by decide +kernel
theorem dX3_told_185 : decode cX3_told 185 = .ok (.invokevirtual 86, 3) := by decide +kernel
theorem dX3_told_188 : decode cX3_told 188 = .ok (.ifCond .eq 11, 3) := by decide +kernel
theorem dX3_told_191 : decode cX3_told 191 = .ok (.aload_n 0, 1) := by decide +kernel
theorem dX3_told_192 : decode cX3_told 192 = .ok (.iconst (-1), 1) := by decide +kernel
theorem dX3_told_193 : decode cX3_told 193 = .ok (.invokevirtual 90, 3) := by decide +kernel
theorem dX3_told_196 : decode cX3_told 196 = .ok (.goto 4, 3) := by decide +kernel
theorem dX3_told_199 : decode cX3_told 199 = .ok (.iconst (-1), 1) := by decide +kernel
theorem dX3_told_200 : decode cX3_told 200 = .ok (.ireturn, 1) := by decide +kernel
theorem dX3_told_201 : decode cX3_told 201 = .ok (.aload_n 0, 1) := by decide +kernel
theorem dX3_told_202 : decode cX3_told 202 = .ok (.aload_n 0, 1) := by decide +kernel
theorem dX3_told_203 : decode cX3_told 203 = .ok (.getfield 19, 3) := by decide +kernel
theorem dX3_told_206 : decode cX3_told 206 = .ok (.invokevirtual 86, 3) := by decide +kernel
theorem dX3_told_209 : decode cX3_told 209 = .ok (.ifCond .eq 12, 3) := by decide +kernel
theorem dX3_told_212 : decode cX3_told 212 = .ok (.aload_n 0, 1) := by decide +kernel
theorem dX3_told_213 : decode cX3_told 213 = .ok (.bipush 24, 2) := by decide +kernel
theorem dX3_told_215 : decode cX3_told 215 = .ok (.invokevirtual 94, 3) := by decide +kernel
theorem dX3_told_218 : decode cX3_told 218 = .ok (.goto 4, 3) := by decide +kernel
theorem dX3_told_221 : decode cX3_told 221 = .ok (.iconst (-1), 1) := by decide +kernel
theorem dX3_told_222 : decode cX3_told 222 = .ok (.ireturn, 1) := by decide +kernel
theorem dX3_told_223 : decode cX3_told 223 = .ok (.aload_n 0, 1) := by decide +kernel
theorem dX3_told_224 : decode cX3_told 224 = .ok (.getfield 97, 3) := by decide +kernel
theorem dX3_told_227 : decode cX3_told 227 = .ok (.ireturn, 1) := by decide +kernel
theorem dX3_told_228 : decode cX3_told 228 = .ok (.ldc 100, 2) := by decide +kernel
theorem dX3_told_230 : decode cX3_told 230 = .ok (.ireturn, 1) := by decide +kernel
set_option maxRecDepth 20000 in
theorem ggX3_hour_X3_isHour : GoodIn wsX3_hour wsX3_isHour := goodIn_r _ [11] (by decide +kernel) (by decide +kernel)
set_option maxRecDepth 20000 in
theorem gX3_hour_X3_isHour : GoodIn wsX3_hour (va_wsS RX3 101 yX3_isHour wsX3_isHour) := goodIn_app (goodIn_of _ (by decide +kernel)) ggX3_hour_X3_isHour
set_option maxRecDepth 20000 in
theorem ggX3_hour_X2_latestLawOf : GoodIn wsX3_hour wsX2_latestLawOf := goodIn_r _ [16, 17, 18, 19, 20, 15, 21, 22, 23, 24, 25, 26, 163, 164, 165, 166, 167, 168, 169, 170, 171, 172, 173] (by decide +kernel) (by decide +kernel)
set_option maxRecDepth 20000 in
theorem gX3_hour_X2_latestLawOf : GoodIn wsX3_hour (wsV RX3 112 RX2 yX2_latestLawOf wsX2_latestLawOf) := goodIn_app (goodIn_of _ (by decide +kernel)) ggX3_hour_X2_latestLawOf
set_option maxRecDepth 20000 in
theorem ggX3_hour_X3_isPlanned : GoodIn wsX3_hour wsX3_isPlanned := goodIn_r _ [30, 4, 31, 2, 32, 33, 34, 10, 35, 36, 37, 38, 39, 40, 41, 42, 140, 141, 142, 143, 144, 145, 146, 147, 148, 149, 150, 163, 164, 165, 166, 167, 168, 169, 170, 171, 172, 173, 151, 152, 153, 154, 155, 156, 157, 158, 159, 160, 161, 162] (by decide +kernel) (by decide +kernel)
set_option maxRecDepth 20000 in
theorem gX3_hour_X3_isPlanned : GoodIn wsX3_hour (wsV RX3 115 RX3 yX3_isPlanned wsX3_isPlanned) := goodIn_app (goodIn_of _ (by decide +kernel)) ggX3_hour_X3_isPlanned
set_option maxRecDepth 20000 in
theorem ggX3_hour_X3_plannedBefore : GoodIn wsX3_hour wsX3_plannedBefore := goodIn_r _ [46, 4, 31, 6, 36, 140, 141, 142, 143, 144, 145, 146, 147, 148, 149, 150, 163, 164, 165, 166, 167, 168, 169, 170, 171, 172, 173] (by decide +kernel) (by decide +kernel)
set_option maxRecDepth 20000 in
theorem gX3_hour_X3_plannedBefore : GoodIn wsX3_hour (wsV RX3 94 RX3 yX3_plannedBefore wsX3_plannedBefore) := goodIn_app (goodIn_of _ (by decide +kernel)) ggX3_hour_X3_plannedBefore
set_option maxRecDepth 20000 in
theorem ggX3_hour_X3_dearness : GoodIn wsX3_hour wsX3_dearness := goodIn_r _ [50, 6, 51, 4, 3, 2, 31, 43, 44, 45, 10, 46, 36, 52, 53, 54, 40, 55, 56, 57, 58, 59, 60, 61, 62, 63, 64, 65, 66, 67, 68, 69, 70, 71, 72, 15, 73, 17, 18, 19, 20, 21, 22, 23, 24, 25, 26, 74, 75, 76, 77, 78, 79, 80, 81, 82, 83, 84, 85, 86, 87, 88, 89, 90, 91, 92, 93, 94, 95, 42, 96, 97, 98, 99, 100, 101, 102, 103, 104, 105, 106, 107, 108, 109, 110, 111, 112, 113, 114, 115, 116, 117, 118, 119, 120, 121, 122, 123, 124, 125, 126, 127, 128, 129, 130, 131, 132, 133, 134, 135, 140, 141, 142, 143, 144, 145, 146, 147, 148, 149, 150, 151, 152, 153, 154, 155, 156, 157, 158, 159, 160, 161, 162, 163, 164, 165, 166, 167, 168, 169, 170, 171, 172, 173] (by decide +kernel) (by decide +kernel)
set_option maxRecDepth 20000 in
theorem gX3_hour_X3_dearness : GoodIn wsX3_hour (wsV RX3 118 RX3 yX3_dearness wsX3_dearness) := goodIn_app (goodIn_of _ (by decide +kernel)) ggX3_hour_X3_dearness
set_option maxRecDepth 20000 in
theorem ggX3_hour_X1_bends : GoodIn wsX3_hour wsX1_bends := goodIn_r _ [139, 42, 107, 108, 109, 40, 110, 111, 112, 113, 114, 96, 151, 152, 153, 154, 155, 156, 157, 158, 159, 160, 161, 162] (by decide +kernel) (by decide +kernel)
set_option maxRecDepth 20000 in
theorem gX3_hour_X1_bends : GoodIn wsX3_hour (wsV RX3 121 RX1 yX1_bends wsX1_bends) := goodIn_app (goodIn_of _ (by decide +kernel)) ggX3_hour_X1_bends
theorem dX3_hour_0 : decode cX3_hour 0 = .ok (.iload_n 1, 1) := by decide +kernel
theorem dX3_hour_1 : decode cX3_hour 1 = .ok (.invokestatic 101, 3) := by decide +kernel
theorem dX3_hour_4 : decode cX3_hour 4 = .ok (.ifCond .ne 6, 3) := by decide +kernel
theorem dX3_hour_7 : decode cX3_hour 7 = .ok (.ldc 105, 2) := by decide +kernel
theorem dX3_hour_9 : decode cX3_hour 9 = .ok (.ireturn, 1) := by decide +kernel
theorem dX3_hour_10 : decode cX3_hour 10 = .ok (.iload_n 2, 1) := by decide +kernel
theorem dX3_hour_11 : decode cX3_hour 11 = .ok (.tableswitch 148 0 6 #[41, 55, 65, 74, 93, 121, 139], 41) := by decide +kernel
theorem dX3_hour_52 : decode cX3_hour 52 = .ok (.aload_n 0, 1) := by decide +kernel
theorem dX3_hour_53 : decode cX3_hour 53 = .ok (.getfield 19, 3) := by decide +kernel
theorem dX3_hour_56 : decode cX3_hour 56 = .ok (.getfield 106, 3) := by decide +kernel
theorem dX3_hour_59 : decode cX3_hour 59 = .ok (.iload_n 1, 1) := by decide +kernel
theorem dX3_hour_60 : decode cX3_hour 60 = .ok (.iaload, 1) := by decide +kernel
theorem dX3_hour_61 : decode cX3_hour 61 = .ok (.sipush 10000, 3) := by decide +kernel
theorem dX3_hour_64 : decode cX3_hour 64 = .ok (.iadd, 1) := by decide +kernel
theorem dX3_hour_65 : decode cX3_hour 65 = .ok (.ireturn, 1) := by decide +kernel
theorem dX3_hour_66 : decode cX3_hour 66 = .ok (.aload_n 0, 1) := by decide +kernel
theorem dX3_hour_67 : decode cX3_hour 67 = .ok (.getfield 12, 3) := by decide +kernel
theorem dX3_hour_70 : decode cX3_hour 70 = .ok (.getfield 109, 3) := by decide +kernel
theorem dX3_hour_73 : decode cX3_hour 73 = .ok (.iload_n 1, 1) := by decide +kernel
theorem dX3_hour_74 : decode cX3_hour 74 = .ok (.iaload, 1) := by decide +kernel
theorem dX3_hour_75 : decode cX3_hour 75 = .ok (.ireturn, 1) := by decide +kernel
theorem dX3_hour_76 : decode cX3_hour 76 = .ok (.aload_n 0, 1) := by decide +kernel
theorem dX3_hour_77 : decode cX3_hour 77 = .ok (.getfield 12, 3) := by decide +kernel
theorem dX3_hour_80 : decode cX3_hour 80 = .ok (.iload_n 1, 1) := by decide +kernel
theorem dX3_hour_81 : decode cX3_hour 81 = .ok (.invokevirtual 112, 3) := by decide +kernel
theorem dX3_hour_84 : decode cX3_hour 84 = .ok (.ireturn, 1) := by decide +kernel
theorem dX3_hour_85 : decode cX3_hour 85 = .ok (.aload_n 0, 1) := by decide +kernel
theorem dX3_hour_86 : decode cX3_hour 86 = .ok (.iload_n 1, 1) := by decide +kernel
theorem dX3_hour_87 : decode cX3_hour 87 = .ok (.invokevirtual 115, 3) := by decide +kernel
theorem dX3_hour_90 : decode cX3_hour 90 = .ok (.ifCond .eq 12, 3) := by decide +kernel
theorem dX3_hour_93 : decode cX3_hour 93 = .ok (.aload_n 0, 1) := by decide +kernel
theorem dX3_hour_94 : decode cX3_hour 94 = .ok (.getfield 26, 3) := by decide +kernel
theorem dX3_hour_97 : decode cX3_hour 97 = .ok (.iload_n 1, 1) := by decide +kernel
theorem dX3_hour_98 : decode cX3_hour 98 = .ok (.iaload, 1) := by decide +kernel
theorem dX3_hour_99 : decode cX3_hour 99 = .ok (.goto 4, 3) := by decide +kernel
theorem dX3_hour_102 : decode cX3_hour 102 = .ok (.iconst (-1), 1) := by decide +kernel
theorem dX3_hour_103 : decode cX3_hour 103 = .ok (.ireturn, 1) := by decide +kernel
theorem dX3_hour_104 : decode cX3_hour 104 = .ok (.aload_n 0, 1) := by decide +kernel
theorem dX3_hour_105 : decode cX3_hour 105 = .ok (.iload_n 1, 1) := by decide +kernel
theorem dX3_hour_106 : decode cX3_hour 106 = .ok (.invokevirtual 115, 3) := by decide +kernel
theorem dX3_hour_109 : decode cX3_hour 109 = .ok (.ifCond .eq 21, 3) := by decide +kernel
theorem dX3_hour_112 : decode cX3_hour 112 = .ok (.aload_n 0, 1) := by decide +kernel
theorem dX3_hour_113 : decode cX3_hour 113 = .ok (.getfield 26, 3) := by decide +kernel
theorem dX3_hour_116 : decode cX3_hour 116 = .ok (.iload_n 1, 1) := by decide +kernel
theorem dX3_hour_117 : decode cX3_hour 117 = .ok (.iaload, 1) := by decide +kernel
theorem dX3_hour_118 : decode cX3_hour 118 = .ok (.aload_n 0, 1) := by decide +kernel
theorem dX3_hour_119 : decode cX3_hour 119 = .ok (.iload_n 1, 1) := by decide +kernel
theorem dX3_hour_120 : decode cX3_hour 120 = .ok (.invokevirtual 94, 3) := by decide +kernel
theorem dX3_hour_123 : decode cX3_hour 123 = .ok (.isub, 1) := by decide +kernel
theorem dX3_hour_124 : decode cX3_hour 124 = .ok (.bipush 100, 2) := by decide +kernel
theorem dX3_hour_126 : decode cX3_hour 126 = .ok (.iadd, 1) := by decide +kernel
theorem dX3_hour_127 : decode cX3_hour 127 = .ok (.goto 4, 3) := by decide +kernel
theorem dX3_hour_130 : decode cX3_hour 130 = .ok (.iconst (-1), 1) := by decide +kernel
theorem dX3_hour_131 : decode cX3_hour 131 = .ok (.ireturn, 1) := by decide +kernel
theorem dX3_hour_132 : decode cX3_hour 132 = .ok (.aload_n 0, 1) := by decide +kernel
theorem dX3_hour_133 : decode cX3_hour 133 = .ok (.iload_n 1, 1) := by decide +kernel
theorem dX3_hour_134 : decode cX3_hour 134 = .ok (.invokevirtual 115, 3) := by decide +kernel
theorem dX3_hour_137 : decode cX3_hour 137 = .ok (.ifCond .eq 11, 3) := by decide +kernel
theorem dX3_hour_140 : decode cX3_hour 140 = .ok (.aload_n 0, 1) := by decide +kernel
theorem dX3_hour_141 : decode cX3_hour 141 = .ok (.iload_n 1, 1) := by decide +kernel
theorem dX3_hour_142 : decode cX3_hour 142 = .ok (.invokevirtual 118, 3) := by decide +kernel
theorem dX3_hour_145 : decode cX3_hour 145 = .ok (.goto 4, 3) := by decide +kernel
theorem dX3_hour_148 : decode cX3_hour 148 = .ok (.iconst (-1), 1) := by decide +kernel
theorem dX3_hour_149 : decode cX3_hour 149 = .ok (.ireturn, 1) := by decide +kernel
theorem dX3_hour_150 : decode cX3_hour 150 = .ok (.aload_n 0, 1) := by decide +kernel
theorem dX3_hour_151 : decode cX3_hour 151 = .ok (.getfield 19, 3) := by decide +kernel
theorem dX3_hour_154 : decode cX3_hour 154 = .ok (.iload_n 1, 1) := by decide +kernel
theorem dX3_hour_155 : decode cX3_hour 155 = .ok (.invokevirtual 121, 3) := by decide +kernel
theorem dX3_hour_158 : decode cX3_hour 158 = .ok (.ireturn, 1) := by decide +kernel
theorem dX3_hour_159 : decode cX3_hour 159 = .ok (.ldc 100, 2) := by decide +kernel
theorem dX3_hour_161 : decode cX3_hour 161 = .ok (.ireturn, 1) := by decide +kernel
set_option maxRecDepth 20000 in
theorem ggX3_lawAt_X3_isLaw : GoodIn wsX3_lawAt wsX3_isLaw := goodIn_r _ [8, 2, 9, 30, 31, 32, 33, 34, 35, 36, 37, 38, 39, 40, 41, 42, 43, 44, 45, 46, 47, 48, 49, 50, 51] (by decide +kernel) (by decide +kernel)
set_option maxRecDepth 20000 in
theorem gX3_lawAt_X3_isLaw : GoodIn wsX3_lawAt (wsV RX3 124 RX3 yX3_isLaw wsX3_isLaw) := goodIn_app (goodIn_of _ (by decide +kernel)) ggX3_lawAt_X3_isLaw
set_option maxRecDepth 20000 in
theorem ggX3_lawAt_X2_lawPart : GoodIn wsX3_lawAt wsX2_lawPart := goodIn_r _ [14, 15, 41, 42, 43, 44, 45, 46, 47, 48, 49, 50, 51] (by decide +kernel) (by decide +kernel)
set_option maxRecDepth 20000 in
theorem gX3_lawAt_X2_lawPart : GoodIn wsX3_lawAt (wsV RX3 127 RX2 yX2_lawPart wsX2_lawPart) := goodIn_app (goodIn_of _ (by decide +kernel)) ggX3_lawAt_X2_lawPart
set_option maxRecDepth 20000 in
theorem ggX3_lawAt_X2_hoursRuledBy : GoodIn wsX3_lawAt wsX2_hoursRuledBy := goodIn_r _ [19, 20, 21, 22, 13, 23, 24, 25, 26, 27, 28, 29, 11, 12, 14, 15, 41, 42, 43, 44, 45, 46, 47, 48, 49, 50, 51] (by decide +kernel) (by decide +kernel)
set_option maxRecDepth 20000 in
theorem gX3_lawAt_X2_hoursRuledBy : GoodIn wsX3_lawAt (wsV RX3 131 RX2 yX2_hoursRuledBy wsX2_hoursRuledBy) := goodIn_app (goodIn_of _ (by decide +kernel)) ggX3_lawAt_X2_hoursRuledBy
theorem dX3_lawAt_0 : decode cX3_lawAt 0 = .ok (.aload_n 0, 1) := by decide +kernel
theorem dX3_lawAt_1 : decode cX3_lawAt 1 = .ok (.iload_n 1, 1) := by decide +kernel
theorem dX3_lawAt_2 : decode cX3_lawAt 2 = .ok (.invokevirtual 124, 3) := by decide +kernel
theorem dX3_lawAt_5 : decode cX3_lawAt 5 = .ok (.ifCond .ne 6, 3) := by decide +kernel
theorem dX3_lawAt_8 : decode cX3_lawAt 8 = .ok (.ldc 105, 2) := by decide +kernel
theorem dX3_lawAt_10 : decode cX3_lawAt 10 = .ok (.ireturn, 1) := by decide +kernel
theorem dX3_lawAt_11 : decode cX3_lawAt 11 = .ok (.iload_n 2, 1) := by decide +kernel
theorem dX3_lawAt_12 : decode cX3_lawAt 12 = .ok (.tableswitch 105 0 5 #[40, 50, 60, 70, 83, 96], 40) := by decide +kernel
theorem dX3_lawAt_52 : decode cX3_lawAt 52 = .ok (.aload_n 0, 1) := by decide +kernel
theorem dX3_lawAt_53 : decode cX3_lawAt 53 = .ok (.getfield 12, 3) := by decide +kernel
theorem dX3_lawAt_56 : decode cX3_lawAt 56 = .ok (.iload_n 1, 1) := by decide +kernel
theorem dX3_lawAt_57 : decode cX3_lawAt 57 = .ok (.iconst 0, 1) := by decide +kernel
theorem dX3_lawAt_58 : decode cX3_lawAt 58 = .ok (.invokevirtual 127, 3) := by decide +kernel
theorem dX3_lawAt_61 : decode cX3_lawAt 61 = .ok (.ireturn, 1) := by decide +kernel
theorem dX3_lawAt_62 : decode cX3_lawAt 62 = .ok (.aload_n 0, 1) := by decide +kernel
theorem dX3_lawAt_63 : decode cX3_lawAt 63 = .ok (.getfield 12, 3) := by decide +kernel
theorem dX3_lawAt_66 : decode cX3_lawAt 66 = .ok (.iload_n 1, 1) := by decide +kernel
theorem dX3_lawAt_67 : decode cX3_lawAt 67 = .ok (.iconst 1, 1) := by decide +kernel
theorem dX3_lawAt_68 : decode cX3_lawAt 68 = .ok (.invokevirtual 127, 3) := by decide +kernel
theorem dX3_lawAt_71 : decode cX3_lawAt 71 = .ok (.ireturn, 1) := by decide +kernel
theorem dX3_lawAt_72 : decode cX3_lawAt 72 = .ok (.aload_n 0, 1) := by decide +kernel
theorem dX3_lawAt_73 : decode cX3_lawAt 73 = .ok (.getfield 12, 3) := by decide +kernel
theorem dX3_lawAt_76 : decode cX3_lawAt 76 = .ok (.iload_n 1, 1) := by decide +kernel
theorem dX3_lawAt_77 : decode cX3_lawAt 77 = .ok (.iconst 2, 1) := by decide +kernel
theorem dX3_lawAt_78 : decode cX3_lawAt 78 = .ok (.invokevirtual 127, 3) := by decide +kernel
theorem dX3_lawAt_81 : decode cX3_lawAt 81 = .ok (.ireturn, 1) := by decide +kernel
theorem dX3_lawAt_82 : decode cX3_lawAt 82 = .ok (.aload_n 0, 1) := by decide +kernel
theorem dX3_lawAt_83 : decode cX3_lawAt 83 = .ok (.getfield 12, 3) := by decide +kernel
theorem dX3_lawAt_86 : decode cX3_lawAt 86 = .ok (.iload_n 1, 1) := by decide +kernel
theorem dX3_lawAt_87 : decode cX3_lawAt 87 = .ok (.iconst 3, 1) := by decide +kernel
theorem dX3_lawAt_88 : decode cX3_lawAt 88 = .ok (.invokevirtual 127, 3) := by decide +kernel
theorem dX3_lawAt_91 : decode cX3_lawAt 91 = .ok (.bipush 100, 2) := by decide +kernel
theorem dX3_lawAt_93 : decode cX3_lawAt 93 = .ok (.iadd, 1) := by decide +kernel
theorem dX3_lawAt_94 : decode cX3_lawAt 94 = .ok (.ireturn, 1) := by decide +kernel
theorem dX3_lawAt_95 : decode cX3_lawAt 95 = .ok (.aload_n 0, 1) := by decide +kernel
theorem dX3_lawAt_96 : decode cX3_lawAt 96 = .ok (.getfield 12, 3) := by decide +kernel
theorem dX3_lawAt_99 : decode cX3_lawAt 99 = .ok (.iload_n 1, 1) := by decide +kernel
theorem dX3_lawAt_100 : decode cX3_lawAt 100 = .ok (.iconst 4, 1) := by decide +kernel
theorem dX3_lawAt_101 : decode cX3_lawAt 101 = .ok (.invokevirtual 127, 3) := by decide +kernel
theorem dX3_lawAt_104 : decode cX3_lawAt 104 = .ok (.bipush 10, 2) := by decide +kernel
theorem dX3_lawAt_106 : decode cX3_lawAt 106 = .ok (.iadd, 1) := by decide +kernel
theorem dX3_lawAt_107 : decode cX3_lawAt 107 = .ok (.ireturn, 1) := by decide +kernel
theorem dX3_lawAt_108 : decode cX3_lawAt 108 = .ok (.aload_n 0, 1) := by decide +kernel
theorem dX3_lawAt_109 : decode cX3_lawAt 109 = .ok (.getfield 12, 3) := by decide +kernel
theorem dX3_lawAt_112 : decode cX3_lawAt 112 = .ok (.iload_n 1, 1) := by decide +kernel
theorem dX3_lawAt_113 : decode cX3_lawAt 113 = .ok (.invokevirtual 131, 3) := by decide +kernel
theorem dX3_lawAt_116 : decode cX3_lawAt 116 = .ok (.ireturn, 1) := by decide +kernel
theorem dX3_lawAt_117 : decode cX3_lawAt 117 = .ok (.ldc 100, 2) := by decide +kernel
theorem dX3_lawAt_119 : decode cX3_lawAt 119 = .ok (.ireturn, 1) := by decide +kernel
set_option maxRecDepth 20000 in
theorem ggX3_value_X3_isHourOrEnd : GoodIn wsX3_value wsX3_isHourOrEnd := goodIn_r _ [8] (by decide +kernel) (by decide +kernel)
set_option maxRecDepth 20000 in
theorem gX3_value_X3_isHourOrEnd : GoodIn wsX3_value (va_wsS RX3 134 yX3_isHourOrEnd wsX3_isHourOrEnd) := goodIn_app (goodIn_of _ (by decide +kernel)) ggX3_value_X3_isHourOrEnd
set_option maxRecDepth 20000 in
theorem ggX3_value_X3_isOutside : GoodIn wsX3_value wsX3_isOutside := goodIn_r _ [11] (by decide +kernel) (by decide +kernel)
set_option maxRecDepth 20000 in
theorem gX3_value_X3_isOutside : GoodIn wsX3_value (va_wsS RX3 137 yX3_isOutside wsX3_isOutside) := goodIn_app (goodIn_of _ (by decide +kernel)) ggX3_value_X3_isOutside
set_option maxRecDepth 20000 in
theorem ggX3_value_X1_canLeave : GoodIn wsX3_value wsX1_canLeave := goodIn_r _ [16, 17, 34, 35, 36, 37, 38, 39, 40, 41, 42, 43, 44, 45] (by decide +kernel) (by decide +kernel)
set_option maxRecDepth 20000 in
theorem gX3_value_X1_canLeave : GoodIn wsX3_value (wsV RX3 141 RX1 yX1_canLeave wsX1_canLeave) := goodIn_app (goodIn_of _ (by decide +kernel)) ggX3_value_X1_canLeave
set_option maxRecDepth 20000 in
theorem ggX3_value_X1_most : GoodIn wsX3_value wsX1_most := goodIn_r _ [21, 22, 34, 35, 36, 37, 38, 39, 40, 41, 42, 43, 44, 45] (by decide +kernel) (by decide +kernel)
set_option maxRecDepth 20000 in
theorem gX3_value_X1_most : GoodIn wsX3_value (wsV RX3 145 RX1 yX1_most wsX1_most) := goodIn_app (goodIn_of _ (by decide +kernel)) ggX3_value_X1_most
theorem dX3_value_0 : decode cX3_value 0 = .ok (.iload_n 1, 1) := by decide +kernel
theorem dX3_value_1 : decode cX3_value 1 = .ok (.invokestatic 134, 3) := by decide +kernel
theorem dX3_value_4 : decode cX3_value 4 = .ok (.ifCond .ne 6, 3) := by decide +kernel
theorem dX3_value_7 : decode cX3_value 7 = .ok (.ldc 105, 2) := by decide +kernel
theorem dX3_value_9 : decode cX3_value 9 = .ok (.ireturn, 1) := by decide +kernel
theorem dX3_value_10 : decode cX3_value 10 = .ok (.iload_n 2, 1) := by decide +kernel
theorem dX3_value_11 : decode cX3_value 11 = .ok (.iconst 0, 1) := by decide +kernel
theorem dX3_value_12 : decode cX3_value 12 = .ok (.bipush 60, 2) := by decide +kernel
theorem dX3_value_14 : decode cX3_value 14 = .ok (.invokestatic 137, 3) := by decide +kernel
theorem dX3_value_17 : decode cX3_value 17 = .ok (.ifCond .eq 6, 3) := by decide +kernel
theorem dX3_value_20 : decode cX3_value 20 = .ok (.ldc 100, 2) := by decide +kernel
theorem dX3_value_22 : decode cX3_value 22 = .ok (.ireturn, 1) := by decide +kernel
theorem dX3_value_23 : decode cX3_value 23 = .ok (.aload_n 0, 1) := by decide +kernel
theorem dX3_value_24 : decode cX3_value 24 = .ok (.getfield 19, 3) := by decide +kernel
theorem dX3_value_27 : decode cX3_value 27 = .ok (.iload_n 1, 1) := by decide +kernel
theorem dX3_value_28 : decode cX3_value 28 = .ok (.iload_n 2, 1) := by decide +kernel
theorem dX3_value_29 : decode cX3_value 29 = .ok (.invokevirtual 141, 3) := by decide +kernel
theorem dX3_value_32 : decode cX3_value 32 = .ok (.ifCond .eq 18, 3) := by decide +kernel
theorem dX3_value_35 : decode cX3_value 35 = .ok (.aload_n 0, 1) := by decide +kernel
theorem dX3_value_36 : decode cX3_value 36 = .ok (.getfield 19, 3) := by decide +kernel
theorem dX3_value_39 : decode cX3_value 39 = .ok (.iload_n 1, 1) := by decide +kernel
theorem dX3_value_40 : decode cX3_value 40 = .ok (.iload_n 2, 1) := by decide +kernel
theorem dX3_value_41 : decode cX3_value 41 = .ok (.invokevirtual 145, 3) := by decide +kernel
theorem dX3_value_44 : decode cX3_value 44 = .ok (.ldc 85, 2) := by decide +kernel
theorem dX3_value_46 : decode cX3_value 46 = .ok (.iadd, 1) := by decide +kernel
theorem dX3_value_47 : decode cX3_value 47 = .ok (.goto 4, 3) := by decide +kernel
theorem dX3_value_50 : decode cX3_value 50 = .ok (.iconst (-1), 1) := by decide +kernel
theorem dX3_value_51 : decode cX3_value 51 = .ok (.ireturn, 1) := by decide +kernel
set_option maxRecDepth 20000 in
theorem ggX3_margin_X3_isHourOrEnd : GoodIn wsX3_margin wsX3_isHourOrEnd := goodIn_r _ [8] (by decide +kernel) (by decide +kernel)
set_option maxRecDepth 20000 in
theorem gX3_margin_X3_isHourOrEnd : GoodIn wsX3_margin (va_wsS RX3 134 yX3_isHourOrEnd wsX3_isHourOrEnd) := goodIn_app (goodIn_of _ (by decide +kernel)) ggX3_margin_X3_isHourOrEnd
set_option maxRecDepth 20000 in
theorem ggX3_margin_X3_isOutside : GoodIn wsX3_margin wsX3_isOutside := goodIn_r _ [11] (by decide +kernel) (by decide +kernel)
set_option maxRecDepth 20000 in
theorem gX3_margin_X3_isOutside : GoodIn wsX3_margin (va_wsS RX3 137 yX3_isOutside wsX3_isOutside) := goodIn_app (goodIn_of _ (by decide +kernel)) ggX3_margin_X3_isOutside
set_option maxRecDepth 20000 in
theorem ggX3_margin_X1_canLeave : GoodIn wsX3_margin wsX1_canLeave := goodIn_r _ [16, 17, 38, 39, 40, 41, 42, 43, 44, 45, 46, 47, 48, 49] (by decide +kernel) (by decide +kernel)
set_option maxRecDepth 20000 in
theorem gX3_margin_X1_canLeave : GoodIn wsX3_margin (wsV RX3 141 RX1 yX1_canLeave wsX1_canLeave) := goodIn_app (goodIn_of _ (by decide +kernel)) ggX3_margin_X1_canLeave
set_option maxRecDepth 20000 in
theorem ggX3_margin_X1_slope : GoodIn wsX3_margin wsX1_slope := goodIn_r _ [21, 22, 23, 24, 15, 25, 26, 38, 39, 40, 41, 42, 43, 44, 45, 46, 47, 48, 49] (by decide +kernel) (by decide +kernel)
set_option maxRecDepth 20000 in
theorem gX3_margin_X1_slope : GoodIn wsX3_margin (wsV RX3 148 RX1 yX1_slope wsX1_slope) := goodIn_app (goodIn_of _ (by decide +kernel)) ggX3_margin_X1_slope
theorem dX3_margin_0 : decode cX3_margin 0 = .ok (.iload_n 1, 1) := by decide +kernel
theorem dX3_margin_1 : decode cX3_margin 1 = .ok (.invokestatic 134, 3) := by decide +kernel
theorem dX3_margin_4 : decode cX3_margin 4 = .ok (.ifCond .ne 6, 3) := by decide +kernel
theorem dX3_margin_7 : decode cX3_margin 7 = .ok (.ldc 105, 2) := by decide +kernel
theorem dX3_margin_9 : decode cX3_margin 9 = .ok (.ireturn, 1) := by decide +kernel
theorem dX3_margin_10 : decode cX3_margin 10 = .ok (.iload_n 2, 1) := by decide +kernel
theorem dX3_margin_11 : decode cX3_margin 11 = .ok (.iconst 0, 1) := by decide +kernel
theorem dX3_margin_12 : decode cX3_margin 12 = .ok (.bipush 59, 2) := by decide +kernel
theorem dX3_margin_14 : decode cX3_margin 14 = .ok (.invokestatic 137, 3) := by decide +kernel
theorem dX3_margin_17 : decode cX3_margin 17 = .ok (.ifCond .eq 6, 3) := by decide +kernel
theorem dX3_margin_20 : decode cX3_margin 20 = .ok (.ldc 100, 2) := by decide +kernel
theorem dX3_margin_22 : decode cX3_margin 22 = .ok (.ireturn, 1) := by decide +kernel
theorem dX3_margin_23 : decode cX3_margin 23 = .ok (.aload_n 0, 1) := by decide +kernel
theorem dX3_margin_24 : decode cX3_margin 24 = .ok (.getfield 19, 3) := by decide +kernel
theorem dX3_margin_27 : decode cX3_margin 27 = .ok (.iload_n 1, 1) := by decide +kernel
theorem dX3_margin_28 : decode cX3_margin 28 = .ok (.iload_n 2, 1) := by decide +kernel
theorem dX3_margin_29 : decode cX3_margin 29 = .ok (.iconst 1, 1) := by decide +kernel
theorem dX3_margin_30 : decode cX3_margin 30 = .ok (.iadd, 1) := by decide +kernel
theorem dX3_margin_31 : decode cX3_margin 31 = .ok (.invokevirtual 141, 3) := by decide +kernel
theorem dX3_margin_34 : decode cX3_margin 34 = .ok (.ifCond .eq 18, 3) := by decide +kernel
theorem dX3_margin_37 : decode cX3_margin 37 = .ok (.aload_n 0, 1) := by decide +kernel
theorem dX3_margin_38 : decode cX3_margin 38 = .ok (.getfield 19, 3) := by decide +kernel
theorem dX3_margin_41 : decode cX3_margin 41 = .ok (.iload_n 1, 1) := by decide +kernel
theorem dX3_margin_42 : decode cX3_margin 42 = .ok (.iload_n 2, 1) := by decide +kernel
theorem dX3_margin_43 : decode cX3_margin 43 = .ok (.invokevirtual 148, 3) := by decide +kernel
theorem dX3_margin_46 : decode cX3_margin 46 = .ok (.ldc 85, 2) := by decide +kernel
theorem dX3_margin_48 : decode cX3_margin 48 = .ok (.iadd, 1) := by decide +kernel
theorem dX3_margin_49 : decode cX3_margin 49 = .ok (.goto 4, 3) := by decide +kernel
theorem dX3_margin_52 : decode cX3_margin 52 = .ok (.iconst (-1), 1) := by decide +kernel
theorem dX3_margin_53 : decode cX3_margin 53 = .ok (.ireturn, 1) := by decide +kernel
set_option maxRecDepth 20000 in
theorem ggX3_store_X3_isOutside : GoodIn wsX3_store wsX3_isOutside := goodIn_r _ [8] (by decide +kernel) (by decide +kernel)
set_option maxRecDepth 20000 in
theorem gX3_store_X3_isOutside : GoodIn wsX3_store (va_wsS RX3 137 yX3_isOutside wsX3_isOutside) := goodIn_app (goodIn_of _ (by decide +kernel)) ggX3_store_X3_isOutside
set_option maxRecDepth 20000 in
theorem ggX3_store_X3_remember : GoodIn wsX3_store wsX3_remember := goodIn_r _ [12, 13, 14, 2, 15, 16, 17, 18, 19, 20, 21, 22, 23, 24, 25, 26, 27, 28, 29, 30, 31, 32, 33, 34, 35, 36, 37, 38, 39, 40, 41, 42, 43, 44, 45, 46, 47, 48, 49, 50, 160, 161, 162, 163, 164, 165, 166, 167, 168, 169, 170, 182, 183, 171, 172, 173, 174, 175, 176, 177, 178, 179, 180, 181] (by decide +kernel) (by decide +kernel)
set_option maxRecDepth 20000 in
theorem gX3_store_X3_remember : GoodIn wsX3_store (wsV RX3 151 RX3 yX3_remember wsX3_remember) := goodIn_app (goodIn_of _ (by decide +kernel)) ggX3_store_X3_remember
set_option maxRecDepth 20000 in
theorem ggX3_store_X3_settle : GoodIn wsX3_store wsX3_settle := goodIn_r _ [54, 55, 2, 56, 57, 58, 59, 60, 61, 62, 63, 64, 65, 66, 67, 68, 69, 70, 71, 72, 73, 74, 75, 76, 77, 78, 79, 80, 34, 81, 44, 82, 83, 84, 85, 86, 87, 88, 89, 50, 90, 91, 92, 93, 94, 95, 18, 96, 97, 98, 99, 100, 101, 17, 19, 102, 103, 104, 105, 106, 107, 108, 109, 110, 111, 112, 113, 114, 115, 116, 117, 118, 119, 120, 121, 122, 123, 124, 125, 126, 127, 128, 129, 130, 131, 132, 133, 134, 135, 136, 137, 138, 139, 140, 141, 142, 143, 144, 145, 146, 147, 7, 148, 149, 150, 151, 152, 153, 154, 155, 156, 157, 158, 159, 160, 161, 162, 163, 164, 165, 166, 167, 168, 169, 170, 171, 172, 173, 174, 175, 176, 177, 178, 179, 180, 181, 184, 185, 186, 187, 188, 189, 190, 191, 192, 193, 194, 195] (by decide +kernel) (by decide +kernel)
set_option maxRecDepth 20000 in
theorem gX3_store_X3_settle : GoodIn wsX3_store (wsV RX3 49 RX3 yX3_settle wsX3_settle) := goodIn_app (goodIn_of _ (by decide +kernel)) ggX3_store_X3_settle
theorem dX3_store_0 : decode cX3_store 0 = .ok (.iload_n 1, 1) := by decide +kernel
theorem dX3_store_1 : decode cX3_store 1 = .ok (.iconst 0, 1) := by decide +kernel
theorem dX3_store_2 : decode cX3_store 2 = .ok (.bipush 9, 2) := by decide +kernel
theorem dX3_store_4 : decode cX3_store 4 = .ok (.invokestatic 137, 3) := by decide +kernel
theorem dX3_store_7 : decode cX3_store 7 = .ok (.ifCond .ne 13, 3) := by decide +kernel
theorem dX3_store_10 : decode cX3_store 10 = .ok (.iload_n 2, 1) := by decide +kernel
theorem dX3_store_11 : decode cX3_store 11 = .ok (.iconst 0, 1) := by decide +kernel
theorem dX3_store_12 : decode cX3_store 12 = .ok (.bipush 9, 2) := by decide +kernel
theorem dX3_store_14 : decode cX3_store 14 = .ok (.invokestatic 137, 3) := by decide +kernel
theorem dX3_store_17 : decode cX3_store 17 = .ok (.ifCond .eq 6, 3) := by decide +kernel
theorem dX3_store_20 : decode cX3_store 20 = .ok (.ldc 100, 2) := by decide +kernel
theorem dX3_store_22 : decode cX3_store 22 = .ok (.ireturn, 1) := by decide +kernel
theorem dX3_store_23 : decode cX3_store 23 = .ok (.aload_n 0, 1) := by decide +kernel
theorem dX3_store_24 : decode cX3_store 24 = .ok (.invokevirtual 151, 3) := by decide +kernel
theorem dX3_store_27 : decode cX3_store 27 = .ok (.aload_n 0, 1) := by decide +kernel
theorem dX3_store_28 : decode cX3_store 28 = .ok (.getfield 12, 3) := by decide +kernel
theorem dX3_store_31 : decode cX3_store 31 = .ok (.iload_n 1, 1) := by decide +kernel
theorem dX3_store_32 : decode cX3_store 32 = .ok (.putfield 60, 3) := by decide +kernel
theorem dX3_store_35 : decode cX3_store 35 = .ok (.aload_n 0, 1) := by decide +kernel
theorem dX3_store_36 : decode cX3_store 36 = .ok (.getfield 12, 3) := by decide +kernel
theorem dX3_store_39 : decode cX3_store 39 = .ok (.iload_n 2, 1) := by decide +kernel
theorem dX3_store_40 : decode cX3_store 40 = .ok (.putfield 63, 3) := by decide +kernel
theorem dX3_store_43 : decode cX3_store 43 = .ok (.aload_n 0, 1) := by decide +kernel
theorem dX3_store_44 : decode cX3_store 44 = .ok (.invokevirtual 49, 3) := by decide +kernel
theorem dX3_store_47 : decode cX3_store 47 = .ok (.ireturn, 1) := by decide +kernel
set_option maxRecDepth 20000 in
theorem ggX3_room_X3_isHour : GoodIn wsX3_room wsX3_isHour := goodIn_r _ [8] (by decide +kernel) (by decide +kernel)
set_option maxRecDepth 20000 in
theorem gX3_room_X3_isHour : GoodIn wsX3_room (va_wsS RX3 101 yX3_isHour wsX3_isHour) := goodIn_app (goodIn_of _ (by decide +kernel)) ggX3_room_X3_isHour
set_option maxRecDepth 20000 in
theorem ggX3_room_X3_isOutside : GoodIn wsX3_room wsX3_isOutside := goodIn_r _ [11] (by decide +kernel) (by decide +kernel)
set_option maxRecDepth 20000 in
theorem gX3_room_X3_isOutside : GoodIn wsX3_room (va_wsS RX3 137 yX3_isOutside wsX3_isOutside) := goodIn_app (goodIn_of _ (by decide +kernel)) ggX3_room_X3_isOutside
set_option maxRecDepth 20000 in
theorem ggX3_room_X3_remember : GoodIn wsX3_room wsX3_remember := goodIn_r _ [15, 16, 17, 3, 18, 19, 20, 21, 22, 23, 24, 25, 26, 27, 28, 29, 30, 31, 32, 33, 34, 35, 36, 37, 38, 39, 40, 41, 42, 43, 44, 45, 46, 47, 48, 49, 50, 51, 52, 53, 163, 164, 165, 166, 167, 168, 169, 170, 171, 172, 173, 185, 186, 174, 175, 176, 177, 178, 179, 180, 181, 182, 183, 184] (by decide +kernel) (by decide +kernel)
set_option maxRecDepth 20000 in
theorem gX3_room_X3_remember : GoodIn wsX3_room (wsV RX3 151 RX3 yX3_remember wsX3_remember) := goodIn_app (goodIn_of _ (by decide +kernel)) ggX3_room_X3_remember
set_option maxRecDepth 20000 in
theorem ggX3_room_X3_settle : GoodIn wsX3_room wsX3_settle := goodIn_r _ [57, 58, 3, 59, 60, 61, 62, 63, 64, 65, 66, 67, 68, 69, 70, 71, 72, 73, 74, 75, 76, 77, 78, 79, 80, 81, 82, 83, 37, 84, 47, 85, 86, 87, 88, 89, 90, 91, 92, 53, 93, 94, 95, 96, 97, 98, 21, 99, 100, 101, 102, 103, 104, 20, 22, 105, 106, 107, 108, 109, 110, 111, 112, 113, 114, 115, 116, 117, 118, 119, 120, 121, 122, 123, 124, 125, 126, 127, 128, 129, 130, 131, 132, 133, 134, 135, 136, 137, 138, 139, 140, 141, 142, 143, 144, 145, 146, 147, 148, 149, 150, 7, 151, 152, 153, 154, 155, 156, 157, 158, 159, 160, 161, 162, 163, 164, 165, 166, 167, 168, 169, 170, 171, 172, 173, 174, 175, 176, 177, 178, 179, 180, 181, 182, 183, 184, 187, 188, 189, 190, 191, 192, 193, 194, 195, 196, 197, 198] (by decide +kernel) (by decide +kernel)
set_option maxRecDepth 20000 in
theorem gX3_room_X3_settle : GoodIn wsX3_room (wsV RX3 49 RX3 yX3_settle wsX3_settle) := goodIn_app (goodIn_of _ (by decide +kernel)) ggX3_room_X3_settle
theorem dX3_room_0 : decode cX3_room 0 = .ok (.iload_n 1, 1) := by decide +kernel
theorem dX3_room_1 : decode cX3_room 1 = .ok (.invokestatic 101, 3) := by decide +kernel
theorem dX3_room_4 : decode cX3_room 4 = .ok (.ifCond .eq 10, 3) := by decide +kernel
theorem dX3_room_7 : decode cX3_room 7 = .ok (.iload_n 2, 1) := by decide +kernel
theorem dX3_room_8 : decode cX3_room 8 = .ok (.invokestatic 101, 3) := by decide +kernel
theorem dX3_room_11 : decode cX3_room 11 = .ok (.ifCond .ne 6, 3) := by decide +kernel
theorem dX3_room_14 : decode cX3_room 14 = .ok (.ldc 105, 2) := by decide +kernel
theorem dX3_room_16 : decode cX3_room 16 = .ok (.ireturn, 1) := by decide +kernel
theorem dX3_room_17 : decode cX3_room 17 = .ok (.iload_n 3, 1) := by decide +kernel
theorem dX3_room_18 : decode cX3_room 18 = .ok (.iconst 0, 1) := by decide +kernel
theorem dX3_room_19 : decode cX3_room 19 = .ok (.bipush 60, 2) := by decide +kernel
theorem dX3_room_21 : decode cX3_room 21 = .ok (.invokestatic 137, 3) := by decide +kernel
theorem dX3_room_24 : decode cX3_room 24 = .ok (.ifCond .eq 6, 3) := by decide +kernel
theorem dX3_room_27 : decode cX3_room 27 = .ok (.ldc 100, 2) := by decide +kernel
theorem dX3_room_29 : decode cX3_room 29 = .ok (.ireturn, 1) := by decide +kernel
theorem dX3_room_30 : decode cX3_room 30 = .ok (.aload_n 0, 1) := by decide +kernel
theorem dX3_room_31 : decode cX3_room 31 = .ok (.invokevirtual 151, 3) := by decide +kernel
theorem dX3_room_34 : decode cX3_room 34 = .ok (.iload_n 1, 1) := by decide +kernel
theorem dX3_room_35 : decode cX3_room 35 = .ok (.istore 4, 2) := by decide +kernel
theorem dX3_room_37 : decode cX3_room 37 = .ok (.iload 4, 2) := by decide +kernel
theorem dX3_room_39 : decode cX3_room 39 = .ok (.iload_n 2, 1) := by decide +kernel
theorem dX3_room_40 : decode cX3_room 40 = .ok (.if_icmp .gt 20, 3) := by decide +kernel
theorem dX3_room_43 : decode cX3_room 43 = .ok (.aload_n 0, 1) := by decide +kernel
theorem dX3_room_44 : decode cX3_room 44 = .ok (.getfield 12, 3) := by decide +kernel
theorem dX3_room_47 : decode cX3_room 47 = .ok (.getfield 109, 3) := by decide +kernel
theorem dX3_room_50 : decode cX3_room 50 = .ok (.iload 4, 2) := by decide +kernel
theorem dX3_room_52 : decode cX3_room 52 = .ok (.iload_n 3, 1) := by decide +kernel
theorem dX3_room_53 : decode cX3_room 53 = .ok (.iastore, 1) := by decide +kernel
theorem dX3_room_54 : decode cX3_room 54 = .ok (.iinc 4 1, 3) := by decide +kernel
theorem dX3_room_57 : decode cX3_room 57 = .ok (.goto (-20), 3) := by decide +kernel
theorem dX3_room_60 : decode cX3_room 60 = .ok (.aload_n 0, 1) := by decide +kernel
theorem dX3_room_61 : decode cX3_room 61 = .ok (.invokevirtual 49, 3) := by decide +kernel
theorem dX3_room_64 : decode cX3_room 64 = .ok (.ireturn, 1) := by decide +kernel
set_option maxRecDepth 20000 in
theorem ggX3_begin_X3_isOutside : GoodIn wsX3_begin wsX3_isOutside := goodIn_r _ [7] (by decide +kernel) (by decide +kernel)
set_option maxRecDepth 20000 in
theorem gX3_begin_X3_isOutside : GoodIn wsX3_begin (va_wsS RX3 137 yX3_isOutside wsX3_isOutside) := goodIn_app (goodIn_of _ (by decide +kernel)) ggX3_begin_X3_isOutside
set_option maxRecDepth 20000 in
theorem ggX3_begin_X3_remember : GoodIn wsX3_begin wsX3_remember := goodIn_r _ [11, 12, 13, 2, 14, 15, 16, 17, 18, 19, 20, 21, 22, 23, 24, 25, 26, 27, 28, 29, 30, 31, 32, 33, 34, 35, 36, 37, 38, 39, 40, 41, 42, 43, 44, 45, 46, 47, 48, 49, 158, 159, 160, 161, 162, 163, 164, 165, 166, 167, 168, 180, 181, 169, 170, 171, 172, 173, 174, 175, 176, 177, 178, 179] (by decide +kernel) (by decide +kernel)
set_option maxRecDepth 20000 in
theorem gX3_begin_X3_remember : GoodIn wsX3_begin (wsV RX3 151 RX3 yX3_remember wsX3_remember) := goodIn_app (goodIn_of _ (by decide +kernel)) ggX3_begin_X3_remember
set_option maxRecDepth 20000 in
theorem ggX3_begin_X3_settle : GoodIn wsX3_begin wsX3_settle := goodIn_r _ [53, 54, 2, 3, 55, 56, 57, 58, 59, 60, 61, 62, 63, 64, 65, 66, 67, 68, 69, 70, 71, 72, 73, 74, 75, 76, 77, 78, 33, 79, 43, 80, 81, 82, 83, 84, 85, 86, 87, 49, 88, 89, 90, 91, 92, 93, 17, 94, 95, 96, 97, 98, 99, 16, 18, 100, 101, 102, 103, 104, 105, 106, 107, 108, 109, 110, 111, 112, 113, 114, 115, 116, 117, 118, 119, 120, 121, 122, 123, 124, 125, 126, 127, 128, 129, 130, 131, 132, 133, 134, 135, 136, 137, 138, 139, 140, 141, 142, 143, 144, 145, 6, 146, 147, 148, 149, 150, 151, 152, 153, 154, 155, 156, 157, 158, 159, 160, 161, 162, 163, 164, 165, 166, 167, 168, 169, 170, 171, 172, 173, 174, 175, 176, 177, 178, 179, 182, 183, 184, 185, 186, 187, 188, 189, 190, 191, 192, 193] (by decide +kernel) (by decide +kernel)
set_option maxRecDepth 20000 in
theorem gX3_begin_X3_settle : GoodIn wsX3_begin (wsV RX3 49 RX3 yX3_settle wsX3_settle) := goodIn_app (goodIn_of _ (by decide +kernel)) ggX3_begin_X3_settle
theorem dX3_begin_0 : decode cX3_begin 0 = .ok (.iload_n 1, 1) := by decide +kernel
theorem dX3_begin_1 : decode cX3_begin 1 = .ok (.iconst 0, 1) := by decide +kernel
theorem dX3_begin_2 : decode cX3_begin 2 = .ok (.bipush 60, 2) := by decide +kernel
theorem dX3_begin_4 : decode cX3_begin 4 = .ok (.invokestatic 137, 3) := by decide +kernel
theorem dX3_begin_7 : decode cX3_begin 7 = .ok (.ifCond .eq 6, 3) := by decide +kernel
theorem dX3_begin_10 : decode cX3_begin 10 = .ok (.ldc 100, 2) := by decide +kernel
theorem dX3_begin_12 : decode cX3_begin 12 = .ok (.ireturn, 1) := by decide +kernel
theorem dX3_begin_13 : decode cX3_begin 13 = .ok (.aload_n 0, 1) := by decide +kernel
theorem dX3_begin_14 : decode cX3_begin 14 = .ok (.invokevirtual 151, 3) := by decide +kernel
theorem dX3_begin_17 : decode cX3_begin 17 = .ok (.aload_n 0, 1) := by decide +kernel
theorem dX3_begin_18 : decode cX3_begin 18 = .ok (.getfield 12, 3) := by decide +kernel
theorem dX3_begin_21 : decode cX3_begin 21 = .ok (.iload_n 1, 1) := by decide +kernel
theorem dX3_begin_22 : decode cX3_begin 22 = .ok (.putfield 57, 3) := by decide +kernel
theorem dX3_begin_25 : decode cX3_begin 25 = .ok (.aload_n 0, 1) := by decide +kernel
theorem dX3_begin_26 : decode cX3_begin 26 = .ok (.invokevirtual 49, 3) := by decide +kernel
theorem dX3_begin_29 : decode cX3_begin 29 = .ok (.ireturn, 1) := by decide +kernel
set_option maxRecDepth 20000 in
theorem ggX3_hold_X3_isOutside : GoodIn wsX3_hold wsX3_isOutside := goodIn_r _ [7] (by decide +kernel) (by decide +kernel)
set_option maxRecDepth 20000 in
theorem gX3_hold_X3_isOutside : GoodIn wsX3_hold (va_wsS RX3 137 yX3_isOutside wsX3_isOutside) := goodIn_app (goodIn_of _ (by decide +kernel)) ggX3_hold_X3_isOutside
set_option maxRecDepth 20000 in
theorem ggX3_hold_X3_remember : GoodIn wsX3_hold wsX3_remember := goodIn_r _ [11, 12, 13, 2, 14, 15, 16, 17, 18, 19, 20, 21, 22, 23, 24, 25, 26, 27, 28, 29, 30, 31, 32, 33, 34, 35, 36, 37, 38, 39, 40, 41, 42, 43, 44, 45, 46, 47, 48, 49, 159, 160, 161, 162, 163, 164, 165, 166, 167, 168, 169, 181, 182, 170, 171, 172, 173, 174, 175, 176, 177, 178, 179, 180] (by decide +kernel) (by decide +kernel)
set_option maxRecDepth 20000 in
theorem gX3_hold_X3_remember : GoodIn wsX3_hold (wsV RX3 151 RX3 yX3_remember wsX3_remember) := goodIn_app (goodIn_of _ (by decide +kernel)) ggX3_hold_X3_remember
set_option maxRecDepth 20000 in
theorem ggX3_hold_X3_settle : GoodIn wsX3_hold wsX3_settle := goodIn_r _ [53, 54, 2, 55, 56, 57, 58, 59, 60, 61, 62, 63, 64, 65, 66, 67, 68, 69, 70, 71, 72, 73, 74, 75, 76, 77, 78, 79, 33, 80, 43, 81, 82, 83, 84, 85, 86, 87, 88, 49, 89, 90, 91, 92, 93, 94, 17, 95, 96, 97, 98, 99, 100, 16, 18, 101, 102, 103, 104, 105, 106, 107, 108, 109, 110, 111, 112, 113, 114, 115, 116, 117, 118, 119, 120, 121, 122, 123, 124, 125, 126, 127, 128, 129, 130, 131, 132, 133, 134, 135, 136, 137, 138, 139, 140, 141, 142, 143, 144, 145, 146, 6, 147, 148, 149, 150, 151, 152, 153, 154, 155, 156, 157, 158, 159, 160, 161, 162, 163, 164, 165, 166, 167, 168, 169, 170, 171, 172, 173, 174, 175, 176, 177, 178, 179, 180, 183, 184, 185, 186, 187, 188, 189, 190, 191, 192, 193, 194] (by decide +kernel) (by decide +kernel)
set_option maxRecDepth 20000 in
theorem gX3_hold_X3_settle : GoodIn wsX3_hold (wsV RX3 49 RX3 yX3_settle wsX3_settle) := goodIn_app (goodIn_of _ (by decide +kernel)) ggX3_hold_X3_settle
theorem dX3_hold_0 : decode cX3_hold 0 = .ok (.iload_n 1, 1) := by decide +kernel
theorem dX3_hold_1 : decode cX3_hold 1 = .ok (.iconst 0, 1) := by decide +kernel
theorem dX3_hold_2 : decode cX3_hold 2 = .ok (.bipush 9, 2) := by decide +kernel
theorem dX3_hold_4 : decode cX3_hold 4 = .ok (.invokestatic 137, 3) := by decide +kernel
theorem dX3_hold_7 : decode cX3_hold 7 = .ok (.ifCond .eq 6, 3) := by decide +kernel
theorem dX3_hold_10 : decode cX3_hold 10 = .ok (.ldc 100, 2) := by decide +kernel
theorem dX3_hold_12 : decode cX3_hold 12 = .ok (.ireturn, 1) := by decide +kernel
theorem dX3_hold_13 : decode cX3_hold 13 = .ok (.aload_n 0, 1) := by decide +kernel
theorem dX3_hold_14 : decode cX3_hold 14 = .ok (.invokevirtual 151, 3) := by decide +kernel
theorem dX3_hold_17 : decode cX3_hold 17 = .ok (.aload_n 0, 1) := by decide +kernel
theorem dX3_hold_18 : decode cX3_hold 18 = .ok (.getfield 12, 3) := by decide +kernel
theorem dX3_hold_21 : decode cX3_hold 21 = .ok (.iload_n 1, 1) := by decide +kernel
theorem dX3_hold_22 : decode cX3_hold 22 = .ok (.putfield 66, 3) := by decide +kernel
theorem dX3_hold_25 : decode cX3_hold 25 = .ok (.aload_n 0, 1) := by decide +kernel
theorem dX3_hold_26 : decode cX3_hold 26 = .ok (.invokevirtual 49, 3) := by decide +kernel
theorem dX3_hold_29 : decode cX3_hold 29 = .ok (.ireturn, 1) := by decide +kernel
set_option maxRecDepth 20000 in
theorem ggX3_worth_X3_isOutside : GoodIn wsX3_worth wsX3_isOutside := goodIn_r _ [7] (by decide +kernel) (by decide +kernel)
set_option maxRecDepth 20000 in
theorem gX3_worth_X3_isOutside : GoodIn wsX3_worth (va_wsS RX3 137 yX3_isOutside wsX3_isOutside) := goodIn_app (goodIn_of _ (by decide +kernel)) ggX3_worth_X3_isOutside
set_option maxRecDepth 20000 in
theorem ggX3_worth_X3_remember : GoodIn wsX3_worth wsX3_remember := goodIn_r _ [11, 12, 13, 2, 14, 15, 16, 17, 18, 19, 20, 21, 22, 23, 24, 25, 26, 27, 28, 29, 30, 31, 32, 33, 34, 35, 36, 37, 38, 39, 40, 41, 42, 43, 44, 45, 46, 47, 48, 49, 159, 160, 161, 162, 163, 164, 165, 166, 167, 168, 169, 181, 182, 170, 171, 172, 173, 174, 175, 176, 177, 178, 179, 180] (by decide +kernel) (by decide +kernel)
set_option maxRecDepth 20000 in
theorem gX3_worth_X3_remember : GoodIn wsX3_worth (wsV RX3 151 RX3 yX3_remember wsX3_remember) := goodIn_app (goodIn_of _ (by decide +kernel)) ggX3_worth_X3_remember
set_option maxRecDepth 20000 in
theorem ggX3_worth_X3_settle : GoodIn wsX3_worth wsX3_settle := goodIn_r _ [53, 54, 2, 55, 56, 57, 58, 59, 60, 61, 62, 63, 64, 65, 66, 67, 68, 69, 70, 71, 72, 73, 74, 75, 76, 77, 78, 79, 33, 80, 43, 81, 82, 83, 84, 85, 86, 87, 88, 49, 89, 90, 91, 92, 93, 94, 17, 95, 96, 97, 98, 99, 100, 16, 18, 101, 102, 103, 104, 105, 106, 107, 108, 109, 110, 111, 112, 113, 114, 115, 116, 117, 118, 119, 120, 121, 122, 123, 124, 125, 126, 127, 128, 129, 130, 131, 132, 133, 134, 135, 136, 137, 138, 139, 140, 141, 142, 143, 144, 145, 146, 6, 147, 148, 149, 150, 151, 152, 153, 154, 155, 156, 157, 158, 159, 160, 161, 162, 163, 164, 165, 166, 167, 168, 169, 170, 171, 172, 173, 174, 175, 176, 177, 178, 179, 180, 183, 184, 185, 186, 187, 188, 189, 190, 191, 192, 193, 194] (by decide +kernel) (by decide +kernel)
set_option maxRecDepth 20000 in
theorem gX3_worth_X3_settle : GoodIn wsX3_worth (wsV RX3 49 RX3 yX3_settle wsX3_settle) := goodIn_app (goodIn_of _ (by decide +kernel)) ggX3_worth_X3_settle
theorem dX3_worth_0 : decode cX3_worth 0 = .ok (.iload_n 1, 1) := by decide +kernel
theorem dX3_worth_1 : decode cX3_worth 1 = .ok (.bipush (-99), 2) := by decide +kernel
theorem dX3_worth_3 : decode cX3_worth 3 = .ok (.bipush 99, 2) := by decide +kernel
theorem dX3_worth_5 : decode cX3_worth 5 = .ok (.invokestatic 137, 3) := by decide +kernel
theorem dX3_worth_8 : decode cX3_worth 8 = .ok (.ifCond .eq 6, 3) := by decide +kernel
theorem dX3_worth_11 : decode cX3_worth 11 = .ok (.ldc 100, 2) := by decide +kernel
theorem dX3_worth_13 : decode cX3_worth 13 = .ok (.ireturn, 1) := by decide +kernel
theorem dX3_worth_14 : decode cX3_worth 14 = .ok (.aload_n 0, 1) := by decide +kernel
theorem dX3_worth_15 : decode cX3_worth 15 = .ok (.invokevirtual 151, 3) := by decide +kernel
theorem dX3_worth_18 : decode cX3_worth 18 = .ok (.aload_n 0, 1) := by decide +kernel
theorem dX3_worth_19 : decode cX3_worth 19 = .ok (.getfield 12, 3) := by decide +kernel
theorem dX3_worth_22 : decode cX3_worth 22 = .ok (.iload_n 1, 1) := by decide +kernel
theorem dX3_worth_23 : decode cX3_worth 23 = .ok (.putfield 69, 3) := by decide +kernel
theorem dX3_worth_26 : decode cX3_worth 26 = .ok (.aload_n 0, 1) := by decide +kernel
theorem dX3_worth_27 : decode cX3_worth 27 = .ok (.invokevirtual 49, 3) := by decide +kernel
theorem dX3_worth_30 : decode cX3_worth 30 = .ok (.ireturn, 1) := by decide +kernel
set_option maxRecDepth 20000 in
theorem ggX3_spread_X3_isOutside : GoodIn wsX3_spread wsX3_isOutside := goodIn_r _ [7] (by decide +kernel) (by decide +kernel)
set_option maxRecDepth 20000 in
theorem gX3_spread_X3_isOutside : GoodIn wsX3_spread (va_wsS RX3 137 yX3_isOutside wsX3_isOutside) := goodIn_app (goodIn_of _ (by decide +kernel)) ggX3_spread_X3_isOutside
set_option maxRecDepth 20000 in
theorem ggX3_spread_X3_remember : GoodIn wsX3_spread wsX3_remember := goodIn_r _ [11, 12, 13, 2, 14, 15, 16, 17, 18, 19, 20, 21, 22, 23, 24, 25, 26, 27, 28, 29, 30, 31, 32, 33, 34, 35, 36, 37, 38, 39, 40, 41, 42, 43, 44, 45, 46, 47, 48, 49, 159, 160, 161, 162, 163, 164, 165, 166, 167, 168, 169, 181, 182, 170, 171, 172, 173, 174, 175, 176, 177, 178, 179, 180] (by decide +kernel) (by decide +kernel)
set_option maxRecDepth 20000 in
theorem gX3_spread_X3_remember : GoodIn wsX3_spread (wsV RX3 151 RX3 yX3_remember wsX3_remember) := goodIn_app (goodIn_of _ (by decide +kernel)) ggX3_spread_X3_remember
set_option maxRecDepth 20000 in
theorem ggX3_spread_X3_settle : GoodIn wsX3_spread wsX3_settle := goodIn_r _ [53, 54, 2, 55, 56, 57, 58, 59, 60, 61, 62, 63, 64, 65, 66, 67, 68, 69, 70, 71, 72, 73, 74, 75, 76, 77, 78, 79, 33, 80, 43, 81, 82, 83, 84, 85, 86, 87, 88, 49, 89, 90, 91, 92, 93, 94, 17, 95, 96, 97, 98, 99, 100, 16, 18, 101, 102, 103, 104, 105, 106, 107, 108, 109, 110, 111, 112, 113, 114, 115, 116, 117, 118, 119, 120, 121, 122, 123, 124, 125, 126, 127, 128, 129, 130, 131, 132, 133, 134, 135, 136, 137, 138, 139, 140, 141, 142, 143, 144, 145, 146, 6, 147, 148, 149, 150, 151, 152, 153, 154, 155, 156, 157, 158, 159, 160, 161, 162, 163, 164, 165, 166, 167, 168, 169, 170, 171, 172, 173, 174, 175, 176, 177, 178, 179, 180, 183, 184, 185, 186, 187, 188, 189, 190, 191, 192, 193, 194] (by decide +kernel) (by decide +kernel)
set_option maxRecDepth 20000 in
theorem gX3_spread_X3_settle : GoodIn wsX3_spread (wsV RX3 49 RX3 yX3_settle wsX3_settle) := goodIn_app (goodIn_of _ (by decide +kernel)) ggX3_spread_X3_settle
theorem dX3_spread_0 : decode cX3_spread 0 = .ok (.iload_n 1, 1) := by decide +kernel
theorem dX3_spread_1 : decode cX3_spread 1 = .ok (.iconst 0, 1) := by decide +kernel
theorem dX3_spread_2 : decode cX3_spread 2 = .ok (.bipush 50, 2) := by decide +kernel
theorem dX3_spread_4 : decode cX3_spread 4 = .ok (.invokestatic 137, 3) := by decide +kernel
theorem dX3_spread_7 : decode cX3_spread 7 = .ok (.ifCond .eq 6, 3) := by decide +kernel
theorem dX3_spread_10 : decode cX3_spread 10 = .ok (.ldc 100, 2) := by decide +kernel
theorem dX3_spread_12 : decode cX3_spread 12 = .ok (.ireturn, 1) := by decide +kernel
theorem dX3_spread_13 : decode cX3_spread 13 = .ok (.aload_n 0, 1) := by decide +kernel
theorem dX3_spread_14 : decode cX3_spread 14 = .ok (.invokevirtual 151, 3) := by decide +kernel
theorem dX3_spread_17 : decode cX3_spread 17 = .ok (.aload_n 0, 1) := by decide +kernel
theorem dX3_spread_18 : decode cX3_spread 18 = .ok (.getfield 12, 3) := by decide +kernel
theorem dX3_spread_21 : decode cX3_spread 21 = .ok (.iload_n 1, 1) := by decide +kernel
theorem dX3_spread_22 : decode cX3_spread 22 = .ok (.putfield 72, 3) := by decide +kernel
theorem dX3_spread_25 : decode cX3_spread 25 = .ok (.aload_n 0, 1) := by decide +kernel
theorem dX3_spread_26 : decode cX3_spread 26 = .ok (.invokevirtual 49, 3) := by decide +kernel
theorem dX3_spread_29 : decode cX3_spread 29 = .ok (.ireturn, 1) := by decide +kernel
set_option maxRecDepth 20000 in
theorem ggX3_law_X3_isHour : GoodIn wsX3_law wsX3_isHour := goodIn_r _ [9] (by decide +kernel) (by decide +kernel)
set_option maxRecDepth 20000 in
theorem gX3_law_X3_isHour : GoodIn wsX3_law (va_wsS RX3 101 yX3_isHour wsX3_isHour) := goodIn_app (goodIn_of _ (by decide +kernel)) ggX3_law_X3_isHour
set_option maxRecDepth 20000 in
theorem ggX3_law_X3_isOutside : GoodIn wsX3_law wsX3_isOutside := goodIn_r _ [12] (by decide +kernel) (by decide +kernel)
set_option maxRecDepth 20000 in
theorem gX3_law_X3_isOutside : GoodIn wsX3_law (va_wsS RX3 137 yX3_isOutside wsX3_isOutside) := goodIn_app (goodIn_of _ (by decide +kernel)) ggX3_law_X3_isOutside
set_option maxRecDepth 20000 in
theorem ggX3_law_X3_remember : GoodIn wsX3_law wsX3_remember := goodIn_r _ [16, 17, 18, 3, 19, 20, 21, 22, 23, 24, 25, 26, 27, 28, 29, 30, 31, 32, 33, 34, 35, 36, 37, 38, 39, 40, 41, 42, 43, 44, 45, 46, 47, 48, 49, 50, 51, 52, 53, 54, 168, 169, 170, 171, 172, 173, 174, 175, 176, 177, 178, 190, 191, 179, 180, 181, 182, 183, 184, 185, 186, 187, 188, 189] (by decide +kernel) (by decide +kernel)
set_option maxRecDepth 20000 in
theorem gX3_law_X3_remember : GoodIn wsX3_law (wsV RX3 151 RX3 yX3_remember wsX3_remember) := goodIn_app (goodIn_of _ (by decide +kernel)) ggX3_law_X3_remember
set_option maxRecDepth 20000 in
theorem ggX3_law_X2_addLaw : GoodIn wsX3_law wsX2_addLaw := goodIn_r _ [58, 48, 54, 179, 180, 181, 182, 183, 184, 185, 186, 187, 188, 189] (by decide +kernel) (by decide +kernel)
set_option maxRecDepth 20000 in
theorem gX3_law_X2_addLaw : GoodIn wsX3_law (wsV RX3 155 RX2 yX2_addLaw wsX2_addLaw) := goodIn_app (goodIn_of _ (by decide +kernel)) ggX3_law_X2_addLaw
set_option maxRecDepth 20000 in
theorem ggX3_law_X3_settle : GoodIn wsX3_law wsX3_settle := goodIn_r _ [62, 63, 3, 64, 65, 66, 67, 68, 69, 70, 71, 72, 73, 74, 75, 76, 77, 78, 79, 80, 81, 82, 83, 84, 85, 86, 87, 88, 38, 89, 48, 90, 91, 92, 93, 94, 95, 96, 97, 54, 98, 99, 100, 101, 102, 103, 22, 104, 105, 106, 107, 108, 109, 21, 23, 110, 111, 112, 113, 114, 115, 116, 117, 118, 119, 120, 121, 122, 123, 124, 125, 126, 127, 128, 129, 130, 131, 132, 133, 134, 135, 136, 137, 138, 139, 140, 141, 142, 143, 144, 145, 146, 147, 148, 149, 150, 151, 152, 153, 154, 155, 8, 156, 157, 158, 159, 160, 161, 162, 163, 164, 165, 166, 167, 168, 169, 170, 171, 172, 173, 174, 175, 176, 177, 178, 179, 180, 181, 182, 183, 184, 185, 186, 187, 188, 189, 192, 193, 194, 195, 196, 197, 198, 199, 200, 201, 202, 203] (by decide +kernel) (by decide +kernel)
set_option maxRecDepth 20000 in
theorem gX3_law_X3_settle : GoodIn wsX3_law (wsV RX3 49 RX3 yX3_settle wsX3_settle) := goodIn_app (goodIn_of _ (by decide +kernel)) ggX3_law_X3_settle
theorem dX3_law_0 : decode cX3_law 0 = .ok (.iload_n 1, 1) := by decide +kernel
theorem dX3_law_1 : decode cX3_law 1 = .ok (.invokestatic 101, 3) := by decide +kernel
theorem dX3_law_4 : decode cX3_law 4 = .ok (.ifCond .eq 10, 3) := by decide +kernel
theorem dX3_law_7 : decode cX3_law 7 = .ok (.iload_n 2, 1) := by decide +kernel
theorem dX3_law_8 : decode cX3_law 8 = .ok (.invokestatic 101, 3) := by decide +kernel
theorem dX3_law_11 : decode cX3_law 11 = .ok (.ifCond .ne 6, 3) := by decide +kernel
theorem dX3_law_14 : decode cX3_law 14 = .ok (.ldc 105, 2) := by decide +kernel
theorem dX3_law_16 : decode cX3_law 16 = .ok (.ireturn, 1) := by decide +kernel
theorem dX3_law_17 : decode cX3_law 17 = .ok (.iload_n 1, 1) := by decide +kernel
theorem dX3_law_18 : decode cX3_law 18 = .ok (.iload_n 2, 1) := by decide +kernel
theorem dX3_law_19 : decode cX3_law 19 = .ok (.if_icmp .gt 12, 3) := by decide +kernel
theorem dX3_law_22 : decode cX3_law 22 = .ok (.iload_n 3, 1) := by decide +kernel
theorem dX3_law_23 : decode cX3_law 23 = .ok (.iconst 0, 1) := by decide +kernel
theorem dX3_law_24 : decode cX3_law 24 = .ok (.iconst 4, 1) := by decide +kernel
theorem dX3_law_25 : decode cX3_law 25 = .ok (.invokestatic 137, 3) := by decide +kernel
theorem dX3_law_28 : decode cX3_law 28 = .ok (.ifCond .eq 6, 3) := by decide +kernel
theorem dX3_law_31 : decode cX3_law 31 = .ok (.ldc 100, 2) := by decide +kernel
theorem dX3_law_33 : decode cX3_law 33 = .ok (.ireturn, 1) := by decide +kernel
theorem dX3_law_34 : decode cX3_law 34 = .ok (.iload 4, 2) := by decide +kernel
theorem dX3_law_36 : decode cX3_law 36 = .ok (.bipush (-99), 2) := by decide +kernel
theorem dX3_law_38 : decode cX3_law 38 = .ok (.bipush 99, 2) := by decide +kernel
theorem dX3_law_40 : decode cX3_law 40 = .ok (.invokestatic 137, 3) := by decide +kernel
theorem dX3_law_43 : decode cX3_law 43 = .ok (.ifCond .ne 15, 3) := by decide +kernel
theorem dX3_law_46 : decode cX3_law 46 = .ok (.iload 5, 2) := by decide +kernel
theorem dX3_law_48 : decode cX3_law 48 = .ok (.bipush (-9), 2) := by decide +kernel
theorem dX3_law_50 : decode cX3_law 50 = .ok (.bipush 9, 2) := by decide +kernel
theorem dX3_law_52 : decode cX3_law 52 = .ok (.invokestatic 137, 3) := by decide +kernel
theorem dX3_law_55 : decode cX3_law 55 = .ok (.ifCond .eq 6, 3) := by decide +kernel
theorem dX3_law_58 : decode cX3_law 58 = .ok (.ldc 100, 2) := by decide +kernel
theorem dX3_law_60 : decode cX3_law 60 = .ok (.ireturn, 1) := by decide +kernel
theorem dX3_law_61 : decode cX3_law 61 = .ok (.aload_n 0, 1) := by decide +kernel
theorem dX3_law_62 : decode cX3_law 62 = .ok (.getfield 12, 3) := by decide +kernel
theorem dX3_law_65 : decode cX3_law 65 = .ok (.getfield 75, 3) := by decide +kernel
theorem dX3_law_68 : decode cX3_law 68 = .ok (.bipush 12, 2) := by decide +kernel
theorem dX3_law_70 : decode cX3_law 70 = .ok (.if_icmp .lt 6, 3) := by decide +kernel
theorem dX3_law_73 : decode cX3_law 73 = .ok (.ldc 154, 2) := by decide +kernel
theorem dX3_law_75 : decode cX3_law 75 = .ok (.ireturn, 1) := by decide +kernel
theorem dX3_law_76 : decode cX3_law 76 = .ok (.aload_n 0, 1) := by decide +kernel
theorem dX3_law_77 : decode cX3_law 77 = .ok (.invokevirtual 151, 3) := by decide +kernel
theorem dX3_law_80 : decode cX3_law 80 = .ok (.aload_n 0, 1) := by decide +kernel
theorem dX3_law_81 : decode cX3_law 81 = .ok (.getfield 12, 3) := by decide +kernel
theorem dX3_law_84 : decode cX3_law 84 = .ok (.iload_n 1, 1) := by decide +kernel
theorem dX3_law_85 : decode cX3_law 85 = .ok (.iload_n 2, 1) := by decide +kernel
theorem dX3_law_86 : decode cX3_law 86 = .ok (.iload_n 3, 1) := by decide +kernel
theorem dX3_law_87 : decode cX3_law 87 = .ok (.iload 4, 2) := by decide +kernel
theorem dX3_law_89 : decode cX3_law 89 = .ok (.iload 5, 2) := by decide +kernel
theorem dX3_law_91 : decode cX3_law 91 = .ok (.invokevirtual 155, 3) := by decide +kernel
theorem dX3_law_94 : decode cX3_law 94 = .ok (.aload_n 0, 1) := by decide +kernel
theorem dX3_law_95 : decode cX3_law 95 = .ok (.invokevirtual 49, 3) := by decide +kernel
theorem dX3_law_98 : decode cX3_law 98 = .ok (.ireturn, 1) := by decide +kernel
set_option maxRecDepth 20000 in
theorem ggX3_drop_X3_isLaw : GoodIn wsX3_drop wsX3_isLaw := goodIn_r _ [7, 2, 8, 164, 165, 166, 167, 168, 169, 170, 171, 172, 173, 174, 175, 176, 177, 178, 179, 180, 181, 182, 183, 184, 185] (by decide +kernel) (by decide +kernel)
set_option maxRecDepth 20000 in
theorem gX3_drop_X3_isLaw : GoodIn wsX3_drop (wsV RX3 124 RX3 yX3_isLaw wsX3_isLaw) := goodIn_app (goodIn_of _ (by decide +kernel)) ggX3_drop_X3_isLaw
set_option maxRecDepth 20000 in
theorem ggX3_drop_X3_remember : GoodIn wsX3_drop wsX3_remember := goodIn_r _ [12, 13, 14, 2, 15, 16, 17, 18, 19, 20, 21, 22, 23, 24, 25, 26, 27, 28, 29, 30, 31, 32, 33, 34, 35, 36, 37, 38, 39, 40, 41, 42, 43, 44, 45, 46, 47, 48, 49, 50, 164, 165, 166, 167, 168, 169, 170, 171, 172, 173, 174, 186, 187, 175, 176, 177, 178, 179, 180, 181, 182, 183, 184, 185] (by decide +kernel) (by decide +kernel)
set_option maxRecDepth 20000 in
theorem gX3_drop_X3_remember : GoodIn wsX3_drop (wsV RX3 151 RX3 yX3_remember wsX3_remember) := goodIn_app (goodIn_of _ (by decide +kernel)) ggX3_drop_X3_remember
set_option maxRecDepth 20000 in
theorem ggX3_drop_X2_removeLaw : GoodIn wsX3_drop wsX2_removeLaw := goodIn_r _ [54, 44, 50, 46, 47, 48, 49, 175, 176, 177, 178, 179, 180, 181, 182, 183, 184, 185] (by decide +kernel) (by decide +kernel)
set_option maxRecDepth 20000 in
theorem gX3_drop_X2_removeLaw : GoodIn wsX3_drop (wsV RX3 159 RX2 yX2_removeLaw wsX2_removeLaw) := goodIn_app (goodIn_of _ (by decide +kernel)) ggX3_drop_X2_removeLaw
set_option maxRecDepth 20000 in
theorem ggX3_drop_X3_settle : GoodIn wsX3_drop wsX3_settle := goodIn_r _ [58, 59, 2, 60, 61, 62, 63, 64, 65, 66, 67, 68, 69, 70, 71, 72, 73, 74, 75, 76, 77, 78, 79, 80, 81, 82, 83, 84, 34, 85, 44, 86, 87, 88, 89, 90, 91, 92, 93, 50, 94, 95, 96, 97, 98, 99, 18, 100, 101, 102, 103, 104, 105, 17, 19, 106, 107, 108, 109, 110, 111, 112, 113, 114, 115, 116, 117, 118, 119, 120, 121, 122, 123, 124, 125, 126, 127, 128, 129, 130, 131, 132, 133, 134, 135, 136, 137, 138, 139, 140, 141, 142, 143, 144, 145, 146, 147, 148, 149, 150, 151, 6, 152, 153, 154, 155, 156, 157, 158, 159, 160, 161, 162, 163, 164, 165, 166, 167, 168, 169, 170, 171, 172, 173, 174, 175, 176, 177, 178, 179, 180, 181, 182, 183, 184, 185, 188, 189, 190, 191, 192, 193, 194, 195, 196, 197, 198, 199] (by decide +kernel) (by decide +kernel)
set_option maxRecDepth 20000 in
theorem gX3_drop_X3_settle : GoodIn wsX3_drop (wsV RX3 49 RX3 yX3_settle wsX3_settle) := goodIn_app (goodIn_of _ (by decide +kernel)) ggX3_drop_X3_settle
theorem dX3_drop_0 : decode cX3_drop 0 = .ok (.aload_n 0, 1) := by decide +kernel
theorem dX3_drop_1 : decode cX3_drop 1 = .ok (.iload_n 1, 1) := by decide +kernel
theorem dX3_drop_2 : decode cX3_drop 2 = .ok (.invokevirtual 124, 3) := by decide +kernel
theorem dX3_drop_5 : decode cX3_drop 5 = .ok (.ifCond .ne 6, 3) := by decide +kernel
theorem dX3_drop_8 : decode cX3_drop 8 = .ok (.ldc 105, 2) := by decide +kernel
theorem dX3_drop_10 : decode cX3_drop 10 = .ok (.ireturn, 1) := by decide +kernel
theorem dX3_drop_11 : decode cX3_drop 11 = .ok (.aload_n 0, 1) := by decide +kernel
theorem dX3_drop_12 : decode cX3_drop 12 = .ok (.invokevirtual 151, 3) := by decide +kernel
theorem dX3_drop_15 : decode cX3_drop 15 = .ok (.aload_n 0, 1) := by decide +kernel
theorem dX3_drop_16 : decode cX3_drop 16 = .ok (.getfield 12, 3) := by decide +kernel
theorem dX3_drop_19 : decode cX3_drop 19 = .ok (.iload_n 1, 1) := by decide +kernel
theorem dX3_drop_20 : decode cX3_drop 20 = .ok (.invokevirtual 159, 3) := by decide +kernel
theorem dX3_drop_23 : decode cX3_drop 23 = .ok (.aload_n 0, 1) := by decide +kernel
theorem dX3_drop_24 : decode cX3_drop 24 = .ok (.invokevirtual 49, 3) := by decide +kernel
theorem dX3_drop_27 : decode cX3_drop 27 = .ok (.ireturn, 1) := by decide +kernel
set_option maxRecDepth 20000 in
theorem ggX3_done_X3_isHour : GoodIn wsX3_done wsX3_isHour := goodIn_r _ [12] (by decide +kernel) (by decide +kernel)
set_option maxRecDepth 20000 in
theorem gX3_done_X3_isHour : GoodIn wsX3_done (va_wsS RX3 101 yX3_isHour wsX3_isHour) := goodIn_app (goodIn_of _ (by decide +kernel)) ggX3_done_X3_isHour
set_option maxRecDepth 20000 in
theorem ggX3_done_X3_hasPlan : GoodIn wsX3_done wsX3_hasPlan := goodIn_r _ [16, 1, 2, 7, 17, 18, 19, 20, 21, 22, 160, 161, 162, 163, 164, 165, 166, 167, 168, 169, 170, 171, 172, 173, 174, 175, 176, 177, 178, 179, 180, 181, 182, 183, 184, 185, 186, 187, 188, 189, 190, 191, 192, 193] (by decide +kernel) (by decide +kernel)
set_option maxRecDepth 20000 in
theorem gX3_done_X3_hasPlan : GoodIn wsX3_done (wsV RX3 86 RX3 yX3_hasPlan wsX3_hasPlan) := goodIn_app (goodIn_of _ (by decide +kernel)) ggX3_done_X3_hasPlan
set_option maxRecDepth 20000 in
theorem ggX3_done_X3_remember : GoodIn wsX3_done wsX3_remember := goodIn_r _ [26, 27, 28, 1, 29, 30, 31, 32, 33, 34, 35, 36, 37, 38, 39, 40, 41, 42, 43, 44, 45, 46, 47, 48, 49, 50, 51, 52, 53, 54, 55, 56, 57, 58, 59, 60, 61, 62, 63, 64, 160, 161, 162, 163, 164, 165, 166, 167, 168, 169, 170, 194, 195, 171, 172, 173, 174, 175, 176, 177, 178, 179, 180, 181] (by decide +kernel) (by decide +kernel)
set_option maxRecDepth 20000 in
theorem gX3_done_X3_remember : GoodIn wsX3_done (wsV RX3 151 RX3 yX3_remember wsX3_remember) := goodIn_app (goodIn_of _ (by decide +kernel)) ggX3_done_X3_remember
set_option maxRecDepth 20000 in
theorem ggX3_done_X1_takings : GoodIn wsX3_done wsX1_takings := goodIn_r _ [68, 69, 70, 71, 182, 183, 184, 185, 186, 187, 188, 189, 190, 191, 192, 193] (by decide +kernel) (by decide +kernel)
set_option maxRecDepth 20000 in
theorem gX3_done_X1_takings : GoodIn wsX3_done (wsV RX3 163 RX1 yX1_takings wsX1_takings) := goodIn_app (goodIn_of _ (by decide +kernel)) ggX3_done_X1_takings
set_option maxRecDepth 20000 in
theorem ggX3_done_X3_settle : GoodIn wsX3_done wsX3_settle := goodIn_r _ [75, 3, 1, 7, 2, 5, 76, 77, 78, 20, 79, 80, 81, 82, 83, 84, 71, 85, 86, 87, 70, 88, 69, 89, 90, 91, 92, 93, 48, 94, 58, 95, 96, 97, 98, 99, 100, 101, 102, 64, 103, 104, 105, 106, 107, 108, 32, 109, 110, 111, 112, 113, 114, 31, 33, 115, 116, 117, 118, 119, 120, 121, 22, 122, 123, 124, 125, 126, 127, 128, 129, 130, 131, 132, 133, 134, 135, 136, 137, 138, 139, 140, 141, 142, 143, 144, 145, 146, 147, 148, 149, 150, 151, 152, 153, 66, 67, 68, 13, 14, 15, 11, 16, 17, 18, 19, 21, 154, 155, 156, 157, 158, 8, 159, 160, 161, 162, 163, 164, 165, 166, 167, 168, 169, 170, 171, 172, 173, 174, 175, 176, 177, 178, 179, 180, 181, 182, 183, 184, 185, 186, 187, 188, 189, 190, 191, 192, 193] (by decide +kernel) (by decide +kernel)
set_option maxRecDepth 20000 in
theorem gX3_done_X3_settle : GoodIn wsX3_done (wsV RX3 49 RX3 yX3_settle wsX3_settle) := goodIn_app (goodIn_of _ (by decide +kernel)) ggX3_done_X3_settle
theorem dX3_done_0 : decode cX3_done 0 = .ok (.aload_n 0, 1) := by decide +kernel
theorem dX3_done_1 : decode cX3_done 1 = .ok (.getfield 12, 3) := by decide +kernel
theorem dX3_done_4 : decode cX3_done 4 = .ok (.getfield 53, 3) := by decide +kernel
theorem dX3_done_7 : decode cX3_done 7 = .ok (.istore_n 1, 1) := by decide +kernel
theorem dX3_done_8 : decode cX3_done 8 = .ok (.iload_n 1, 1) := by decide +kernel
theorem dX3_done_9 : decode cX3_done 9 = .ok (.invokestatic 101, 3) := by decide +kernel
theorem dX3_done_12 : decode cX3_done 12 = .ok (.ifCond .eq 14, 3) := by decide +kernel
theorem dX3_done_15 : decode cX3_done 15 = .ok (.aload_n 0, 1) := by decide +kernel
theorem dX3_done_16 : decode cX3_done 16 = .ok (.aload_n 0, 1) := by decide +kernel
theorem dX3_done_17 : decode cX3_done 17 = .ok (.getfield 19, 3) := by decide +kernel
theorem dX3_done_20 : decode cX3_done 20 = .ok (.invokevirtual 86, 3) := by decide +kernel
theorem dX3_done_23 : decode cX3_done 23 = .ok (.ifCond .ne 6, 3) := by decide +kernel
theorem dX3_done_26 : decode cX3_done 26 = .ok (.ldc 162, 2) := by decide +kernel
theorem dX3_done_28 : decode cX3_done 28 = .ok (.ireturn, 1) := by decide +kernel
theorem dX3_done_29 : decode cX3_done 29 = .ok (.aload_n 0, 1) := by decide +kernel
theorem dX3_done_30 : decode cX3_done 30 = .ok (.invokevirtual 151, 3) := by decide +kernel
theorem dX3_done_33 : decode cX3_done 33 = .ok (.aload_n 0, 1) := by decide +kernel
theorem dX3_done_34 : decode cX3_done 34 = .ok (.getfield 26, 3) := by decide +kernel
theorem dX3_done_37 : decode cX3_done 37 = .ok (.iload_n 1, 1) := by decide +kernel
theorem dX3_done_38 : decode cX3_done 38 = .ok (.iaload, 1) := by decide +kernel
theorem dX3_done_39 : decode cX3_done 39 = .ok (.istore_n 2, 1) := by decide +kernel
theorem dX3_done_40 : decode cX3_done 40 = .ok (.aload_n 0, 1) := by decide +kernel
theorem dX3_done_41 : decode cX3_done 41 = .ok (.getfield 12, 3) := by decide +kernel
theorem dX3_done_44 : decode cX3_done 44 = .ok (.dup, 1) := by decide +kernel
theorem dX3_done_45 : decode cX3_done 45 = .ok (.getfield 82, 3) := by decide +kernel
theorem dX3_done_48 : decode cX3_done 48 = .ok (.aload_n 0, 1) := by decide +kernel
theorem dX3_done_49 : decode cX3_done 49 = .ok (.getfield 19, 3) := by decide +kernel
theorem dX3_done_52 : decode cX3_done 52 = .ok (.iload_n 1, 1) := by decide +kernel
theorem dX3_done_53 : decode cX3_done 53 = .ok (.aload_n 0, 1) := by decide +kernel
theorem dX3_done_54 : decode cX3_done 54 = .ok (.getfield 12, 3) := by decide +kernel
theorem dX3_done_57 : decode cX3_done 57 = .ok (.getfield 57, 3) := by decide +kernel
theorem dX3_done_60 : decode cX3_done 60 = .ok (.iload_n 2, 1) := by decide +kernel
theorem dX3_done_61 : decode cX3_done 61 = .ok (.invokevirtual 163, 3) := by decide +kernel
theorem dX3_done_64 : decode cX3_done 64 = .ok (.iadd, 1) := by decide +kernel
theorem dX3_done_65 : decode cX3_done 65 = .ok (.putfield 82, 3) := by decide +kernel
theorem dX3_done_68 : decode cX3_done 68 = .ok (.aload_n 0, 1) := by decide +kernel
theorem dX3_done_69 : decode cX3_done 69 = .ok (.getfield 12, 3) := by decide +kernel
theorem dX3_done_72 : decode cX3_done 72 = .ok (.iload_n 2, 1) := by decide +kernel
theorem dX3_done_73 : decode cX3_done 73 = .ok (.putfield 57, 3) := by decide +kernel
theorem dX3_done_76 : decode cX3_done 76 = .ok (.aload_n 0, 1) := by decide +kernel
theorem dX3_done_77 : decode cX3_done 77 = .ok (.getfield 12, 3) := by decide +kernel
theorem dX3_done_80 : decode cX3_done 80 = .ok (.iload_n 1, 1) := by decide +kernel
theorem dX3_done_81 : decode cX3_done 81 = .ok (.iconst 1, 1) := by decide +kernel
theorem dX3_done_82 : decode cX3_done 82 = .ok (.iadd, 1) := by decide +kernel
theorem dX3_done_83 : decode cX3_done 83 = .ok (.putfield 53, 3) := by decide +kernel
theorem dX3_done_86 : decode cX3_done 86 = .ok (.aload_n 0, 1) := by decide +kernel
theorem dX3_done_87 : decode cX3_done 87 = .ok (.invokevirtual 49, 3) := by decide +kernel
theorem dX3_done_90 : decode cX3_done 90 = .ok (.pop, 1) := by decide +kernel
theorem dX3_done_91 : decode cX3_done 91 = .ok (.aload_n 0, 1) := by decide +kernel
theorem dX3_done_92 : decode cX3_done 92 = .ok (.getfield 12, 3) := by decide +kernel
theorem dX3_done_95 : decode cX3_done 95 = .ok (.getfield 82, 3) := by decide +kernel
theorem dX3_done_98 : decode cX3_done 98 = .ok (.ldc 85, 2) := by decide +kernel
theorem dX3_done_100 : decode cX3_done 100 = .ok (.iadd, 1) := by decide +kernel
theorem dX3_done_101 : decode cX3_done 101 = .ok (.ireturn, 1) := by decide +kernel
set_option maxRecDepth 20000 in
theorem ggX3_drift_X3_isOutside : GoodIn wsX3_drift wsX3_isOutside := goodIn_r _ [7] (by decide +kernel) (by decide +kernel)
set_option maxRecDepth 20000 in
theorem gX3_drift_X3_isOutside : GoodIn wsX3_drift (va_wsS RX3 137 yX3_isOutside wsX3_isOutside) := goodIn_app (goodIn_of _ (by decide +kernel)) ggX3_drift_X3_isOutside
set_option maxRecDepth 20000 in
theorem ggX3_drift_X3_remember : GoodIn wsX3_drift wsX3_remember := goodIn_r _ [11, 12, 13, 2, 14, 15, 16, 17, 18, 19, 20, 21, 22, 23, 24, 25, 26, 27, 28, 29, 30, 31, 32, 33, 34, 35, 36, 37, 38, 39, 40, 41, 42, 43, 44, 45, 46, 47, 48, 49, 175, 176, 177, 178, 179, 180, 181, 182, 183, 184, 185, 197, 198, 186, 187, 188, 189, 190, 191, 192, 193, 194, 195, 196] (by decide +kernel) (by decide +kernel)
set_option maxRecDepth 20000 in
theorem gX3_drift_X3_remember : GoodIn wsX3_drift (wsV RX3 151 RX3 yX3_remember wsX3_remember) := goodIn_app (goodIn_of _ (by decide +kernel)) ggX3_drift_X3_remember
set_option maxRecDepth 20000 in
theorem ggX3_drift_X3_drawLaw : GoodIn wsX3_drift wsX3_drawLaw := goodIn_r _ [53, 2, 54, 55, 56, 6, 57, 58, 59, 60, 61, 62, 63, 64, 33, 65, 43, 49, 175, 176, 177, 178, 179, 180, 181, 182, 183, 184, 185, 186, 187, 188, 189, 190, 191, 192, 193, 194, 195, 196] (by decide +kernel) (by decide +kernel)
set_option maxRecDepth 20000 in
theorem gX3_drift_X3_drawLaw : GoodIn wsX3_drift (wsV RX3 167 RX3 yX3_drawLaw wsX3_drawLaw) := goodIn_app (goodIn_of _ (by decide +kernel)) ggX3_drift_X3_drawLaw
set_option maxRecDepth 20000 in
theorem ggX3_drift_X3_settle : GoodIn wsX3_drift wsX3_settle := goodIn_r _ [69, 70, 2, 71, 72, 73, 74, 75, 76, 77, 78, 79, 80, 81, 82, 83, 84, 85, 86, 87, 88, 89, 90, 91, 92, 93, 94, 95, 33, 96, 43, 97, 98, 99, 100, 101, 102, 103, 104, 49, 105, 106, 107, 108, 109, 110, 17, 111, 112, 113, 114, 115, 116, 16, 18, 117, 118, 119, 120, 121, 122, 123, 124, 125, 126, 127, 128, 129, 130, 131, 132, 133, 134, 135, 136, 137, 138, 139, 140, 141, 142, 143, 144, 145, 146, 147, 148, 149, 150, 151, 152, 153, 154, 155, 156, 157, 158, 159, 160, 161, 162, 6, 163, 164, 165, 166, 167, 168, 169, 170, 171, 172, 173, 174, 175, 176, 177, 178, 179, 180, 181, 182, 183, 184, 185, 186, 187, 188, 189, 190, 191, 192, 193, 194, 195, 196, 199, 200, 201, 202, 203, 204, 205, 206, 207, 208, 209, 210] (by decide +kernel) (by decide +kernel)
set_option maxRecDepth 20000 in
theorem gX3_drift_X3_settle : GoodIn wsX3_drift (wsV RX3 49 RX3 yX3_settle wsX3_settle) := goodIn_app (goodIn_of _ (by decide +kernel)) ggX3_drift_X3_settle
theorem dX3_drift_0 : decode cX3_drift 0 = .ok (.iload_n 1, 1) := by decide +kernel
theorem dX3_drift_1 : decode cX3_drift 1 = .ok (.iconst 1, 1) := by decide +kernel
theorem dX3_drift_2 : decode cX3_drift 2 = .ok (.bipush 12, 2) := by decide +kernel
theorem dX3_drift_4 : decode cX3_drift 4 = .ok (.invokestatic 137, 3) := by decide +kernel
theorem dX3_drift_7 : decode cX3_drift 7 = .ok (.ifCond .eq 6, 3) := by decide +kernel
theorem dX3_drift_10 : decode cX3_drift 10 = .ok (.ldc 100, 2) := by decide +kernel
theorem dX3_drift_12 : decode cX3_drift 12 = .ok (.ireturn, 1) := by decide +kernel
theorem dX3_drift_13 : decode cX3_drift 13 = .ok (.iconst 0, 1) := by decide +kernel
theorem dX3_drift_14 : decode cX3_drift 14 = .ok (.istore_n 2, 1) := by decide +kernel
theorem dX3_drift_15 : decode cX3_drift 15 = .ok (.iload_n 2, 1) := by decide +kernel
theorem dX3_drift_16 : decode cX3_drift 16 = .ok (.iload_n 1, 1) := by decide +kernel
theorem dX3_drift_17 : decode cX3_drift 17 = .ok (.if_icmp .ge 29, 3) := by decide +kernel
theorem dX3_drift_20 : decode cX3_drift 20 = .ok (.aload_n 0, 1) := by decide +kernel
theorem dX3_drift_21 : decode cX3_drift 21 = .ok (.getfield 12, 3) := by decide +kernel
theorem dX3_drift_24 : decode cX3_drift 24 = .ok (.getfield 75, 3) := by decide +kernel
theorem dX3_drift_27 : decode cX3_drift 27 = .ok (.bipush 12, 2) := by decide +kernel
theorem dX3_drift_29 : decode cX3_drift 29 = .ok (.if_icmp .ge 17, 3) := by decide +kernel
theorem dX3_drift_32 : decode cX3_drift 32 = .ok (.aload_n 0, 1) := by decide +kernel
theorem dX3_drift_33 : decode cX3_drift 33 = .ok (.invokevirtual 151, 3) := by decide +kernel
theorem dX3_drift_36 : decode cX3_drift 36 = .ok (.aload_n 0, 1) := by decide +kernel
theorem dX3_drift_37 : decode cX3_drift 37 = .ok (.invokevirtual 167, 3) := by decide +kernel
theorem dX3_drift_40 : decode cX3_drift 40 = .ok (.iinc 2 1, 3) := by decide +kernel
theorem dX3_drift_43 : decode cX3_drift 43 = .ok (.goto (-28), 3) := by decide +kernel
theorem dX3_drift_46 : decode cX3_drift 46 = .ok (.aload_n 0, 1) := by decide +kernel
theorem dX3_drift_47 : decode cX3_drift 47 = .ok (.invokevirtual 49, 3) := by decide +kernel
theorem dX3_drift_50 : decode cX3_drift 50 = .ok (.pop, 1) := by decide +kernel
theorem dX3_drift_51 : decode cX3_drift 51 = .ok (.aload_n 0, 1) := by decide +kernel
theorem dX3_drift_52 : decode cX3_drift 52 = .ok (.getfield 12, 3) := by decide +kernel
theorem dX3_drift_55 : decode cX3_drift 55 = .ok (.getfield 75, 3) := by decide +kernel
theorem dX3_drift_58 : decode cX3_drift 58 = .ok (.ireturn, 1) := by decide +kernel
