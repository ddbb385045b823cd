set_option maxRecDepth 20000 in
theorem ggL_fits_L_trace_p0 : GoodIn wsL_fits (wsL_trace.take 60) := goodIn_r _ [7, 8, 9, 10, 11, 12, 13, 14, 15, 16, 17, 18, 19, 20, 21, 22, 23, 24, 25, 26, 27, 28, 29, 30, 31, 32, 33, 34, 35, 36, 37, 38, 39, 40, 41, 42, 43, 44, 45, 46, 47, 48, 49, 50, 51, 52, 53, 54, 55, 56, 57, 58, 59, 60, 61, 62, 63, 64, 65, 66] (by decide +kernel) (by decide +kernel)
set_option maxRecDepth 20000 in
theorem ggL_fits_L_trace_p1 : GoodIn wsL_fits (wsL_trace.drop 60) := goodIn_r _ [67, 68, 69, 70, 71, 72, 73, 74, 75, 76, 77, 78, 79, 80, 81, 82, 83, 84, 85, 86, 87, 88, 89, 90, 91, 92, 93, 94, 95, 96, 97, 176, 177, 178, 179, 180, 181, 182, 183, 184, 185, 186, 187, 188, 189, 190, 191, 192, 193, 194, 195, 196, 197] (by decide +kernel) (by decide +kernel)
theorem ggL_fits_L_trace : GoodIn wsL_fits wsL_trace := goodIn_pc 60 ggL_fits_L_trace_p0 (ggL_fits_L_trace_p1)
set_option maxRecDepth 20000 in
theorem gL_fits_L_trace : GoodIn wsL_fits (va_wsS RL 66 yL_trace wsL_trace) := goodIn_app (goodIn_of _ (by decide +kernel)) ggL_fits_L_trace
set_option maxRecDepth 20000 in
theorem ggL_fits_L_near : GoodIn wsL_fits wsL_near := goodIn_r _ [100, 101, 102, 6, 103, 104] (by decide +kernel) (by decide +kernel)
set_option maxRecDepth 20000 in
theorem gL_fits_L_near : GoodIn wsL_fits (va_wsS RL 70 yL_near wsL_near) := goodIn_app (goodIn_of _ (by decide +kernel)) ggL_fits_L_near
set_option maxRecDepth 20000 in
theorem ggL_fits_L_low : GoodIn wsL_fits wsL_low := goodIn_r _ [103, 104] (by decide +kernel) (by decide +kernel)
set_option maxRecDepth 20000 in
theorem gL_fits_L_low : GoodIn wsL_fits (va_wsS RL 9 yL_low wsL_low) := goodIn_app (goodIn_of _ (by decide +kernel)) ggL_fits_L_low
set_option maxRecDepth 20000 in
theorem ggL_fits_X3_count : GoodIn wsL_fits wsX3_count := goodIn_r _ [14, 15, 16, 17, 18, 19, 20, 21, 22, 23, 24, 25, 26, 27, 28, 29, 30, 31, 32, 33, 34, 35, 36, 37, 38, 39, 40, 41, 42, 43, 44, 45, 46, 47, 176, 177, 178, 179, 180, 181, 182, 183, 184, 185, 186, 187, 188, 189, 190, 191, 192, 193, 194, 195, 196, 197] (by decide +kernel) (by decide +kernel)
set_option maxRecDepth 20000 in
theorem gL_fits_X3_count : GoodIn wsL_fits (wsV RL 21 RX3 yX3_count wsX3_count) := goodIn_app (goodIn_of _ (by decide +kernel)) ggL_fits_X3_count
set_option maxRecDepth 20000 in
theorem ggL_fits_L_numbersFit_p0 : GoodIn wsL_fits (wsL_numbersFit.take 60) := goodIn_r _ [107, 2, 1, 48, 49, 50, 13, 51, 27, 15, 52, 53, 54, 55, 56, 57, 58, 39, 40, 41, 31, 42, 43, 59, 60, 61, 62, 63, 64, 65, 66, 67, 68, 69, 70, 71, 72, 73, 16, 74, 75, 76, 77, 78, 79, 10, 11, 12, 14, 17, 18, 19, 20, 21, 22, 23, 24, 25, 26, 28] (by decide +kernel) (by decide +kernel)
set_option maxRecDepth 20000 in
theorem ggL_fits_L_numbersFit_p1 : GoodIn wsL_fits ((wsL_numbersFit.drop 60).take 60) := goodIn_r _ [29, 30, 32, 33, 34, 35, 36, 37, 38, 44, 45, 46, 47, 108, 109, 110, 111, 112, 113, 114, 115, 116, 117, 118, 119, 120, 121, 122, 123, 124, 94, 95, 96, 91, 92, 97, 125, 126, 127, 128, 129, 130, 131, 132, 133, 134, 135, 136, 137, 138, 139, 140, 141, 142, 143, 144, 145, 146, 147, 148] (by decide +kernel) (by decide +kernel)
set_option maxRecDepth 20000 in
theorem ggL_fits_L_numbersFit_p2 : GoodIn wsL_fits (wsL_numbersFit.drop 120) := goodIn_r _ [149, 150, 151, 152, 153, 154, 155, 176, 177, 178, 179, 180, 181, 182, 183, 184, 185, 186, 187, 188, 189, 190, 191, 192, 193, 194, 195, 196, 197] (by decide +kernel) (by decide +kernel)
theorem ggL_fits_L_numbersFit : GoodIn wsL_fits wsL_numbersFit := goodIn_pc 60 ggL_fits_L_numbersFit_p0 (goodIn_pd 60 60 ggL_fits_L_numbersFit_p1 (ggL_fits_L_numbersFit_p2))
set_option maxRecDepth 20000 in
theorem gL_fits_L_numbersFit : GoodIn wsL_fits (va_wsS RL 73 yL_numbersFit wsL_numbersFit) := goodIn_app (goodIn_of _ (by decide +kernel)) ggL_fits_L_numbersFit
set_option maxRecDepth 20000 in
theorem ggL_fits_L_ordersFit_p0 : GoodIn wsL_fits (wsL_ordersFit.take 60) := goodIn_r _ [158, 2, 10, 11, 12, 13, 14, 15, 16, 17, 18, 19, 20, 21, 22, 23, 24, 25, 26, 27, 28, 29, 30, 31, 32, 33, 34, 35, 36, 37, 38, 39, 40, 41, 42, 43, 44, 45, 46, 47, 159, 160, 161, 162, 52, 53, 56, 57, 58, 145, 146, 147, 148, 149, 150, 151, 152, 153, 154, 155] (by decide +kernel) (by decide +kernel)
set_option maxRecDepth 20000 in
theorem ggL_fits_L_ordersFit_p1 : GoodIn wsL_fits ((wsL_ordersFit.drop 60).take 60) := goodIn_r _ [108, 109, 110, 111, 112, 113, 114, 115, 116, 117, 118, 119, 141, 142, 143, 144, 48, 49, 50, 51, 54, 55, 59, 60, 61, 62, 63, 64, 65, 66, 67, 68, 69, 163, 164, 6, 165, 166, 167, 168, 169, 170, 171, 176, 177, 178, 179, 180, 181, 182, 183, 184, 185, 186, 187, 188, 189, 190, 191, 192] (by decide +kernel) (by decide +kernel)
set_option maxRecDepth 20000 in
theorem ggL_fits_L_ordersFit_p2 : GoodIn wsL_fits (wsL_ordersFit.drop 120) := goodIn_r _ [193, 194, 195, 196, 197] (by decide +kernel) (by decide +kernel)
theorem ggL_fits_L_ordersFit : GoodIn wsL_fits wsL_ordersFit := goodIn_pc 60 ggL_fits_L_ordersFit_p0 (goodIn_pd 60 60 ggL_fits_L_ordersFit_p1 (ggL_fits_L_ordersFit_p2))
set_option maxRecDepth 20000 in
theorem gL_fits_L_ordersFit : GoodIn wsL_fits (va_wsS RL 77 yL_ordersFit wsL_ordersFit) := goodIn_app (goodIn_of _ (by decide +kernel)) ggL_fits_L_ordersFit
set_option maxRecDepth 20000 in
theorem ggL_fits_L_tagsFit : GoodIn wsL_fits wsL_tagsFit := goodIn_r _ [174, 1, 175, 120, 121, 122, 13, 123, 15, 124, 94, 95, 31, 96, 69, 63, 91, 92, 97, 33, 64, 57, 58, 125, 126, 127, 128, 129, 59, 60, 61, 62, 65, 66, 67, 68, 10, 11, 12, 14, 16, 17, 18, 19, 20, 21, 22, 23, 24, 25, 26, 27, 28, 29, 30, 32, 34, 35, 36, 37, 38, 39, 40, 41, 42, 43, 44, 45, 46, 47, 130, 131, 132, 133, 52, 176, 177, 178, 179, 180, 181, 182, 183, 184, 185, 186, 187, 188, 189, 190, 191, 192, 193, 194, 195, 196, 197] (by decide +kernel) (by decide +kernel)
set_option maxRecDepth 20000 in
theorem gL_fits_L_tagsFit : GoodIn wsL_fits (va_wsS RL 80 yL_tagsFit wsL_tagsFit) := goodIn_app (goodIn_of _ (by decide +kernel)) ggL_fits_L_tagsFit
set_option maxRecDepth 20000 in
theorem ggL_fits_X3_compaction : GoodIn wsL_fits wsX3_compaction := goodIn_r _ [83, 27, 15, 17, 53, 84, 85, 86, 56, 57, 13, 58, 87, 88, 89, 31, 90, 91, 92, 66, 67, 68, 69, 93, 94, 95, 96, 63, 97, 33, 64, 176, 177, 178, 179, 180, 181, 182, 183, 184, 185, 186, 187, 188, 189, 190, 191, 192, 193, 194, 195] (by decide +kernel) (by decide +kernel)
set_option maxRecDepth 20000 in
theorem gL_fits_X3_compaction : GoodIn wsL_fits (wsV RL 33 RX3 yX3_compaction wsX3_compaction) := goodIn_app (goodIn_of _ (by decide +kernel)) ggL_fits_X3_compaction
theorem dL_fits_0 : decode cL_fits 0 = .ok (.aload_n 0, 1) := by decide +kernel
theorem dL_fits_1 : decode cL_fits 1 = .ok (.invokestatic 66, 3) := by decide +kernel
theorem dL_fits_4 : decode cL_fits 4 = .ok (.lstore_n 2, 1) := by decide +kernel
theorem dL_fits_5 : decode cL_fits 5 = .ok (.iload_n 1, 1) := by decide +kernel
theorem dL_fits_6 : decode cL_fits 6 = .ok (.iconst 5, 1) := by decide +kernel
theorem dL_fits_7 : decode cL_fits 7 = .ok (.invokestatic 70, 3) := by decide +kernel
theorem dL_fits_10 : decode cL_fits 10 = .ok (.ldc 38, 2) := by decide +kernel
theorem dL_fits_12 : decode cL_fits 12 = .ok (.imul, 1) := by decide +kernel
theorem dL_fits_13 : decode cL_fits 13 = .ok (.iload_n 1, 1) := by decide +kernel
theorem dL_fits_14 : decode cL_fits 14 = .ok (.bipush 9, 2) := by decide +kernel
theorem dL_fits_16 : decode cL_fits 16 = .ok (.ishr, 1) := by decide +kernel
theorem dL_fits_17 : decode cL_fits 17 = .ok (.iconst 4, 1) := by decide +kernel
theorem dL_fits_18 : decode cL_fits 18 = .ok (.invokestatic 9, 3) := by decide +kernel
theorem dL_fits_21 : decode cL_fits 21 = .ok (.bipush 100, 2) := by decide +kernel
theorem dL_fits_23 : decode cL_fits 23 = .ok (.imul, 1) := by decide +kernel
theorem dL_fits_24 : decode cL_fits 24 = .ok (.iadd, 1) := by decide +kernel
theorem dL_fits_25 : decode cL_fits 25 = .ok (.iload_n 1, 1) := by decide +kernel
theorem dL_fits_26 : decode cL_fits 26 = .ok (.iconst 4, 1) := by decide +kernel
theorem dL_fits_27 : decode cL_fits 27 = .ok (.ishr, 1) := by decide +kernel
theorem dL_fits_28 : decode cL_fits 28 = .ok (.bipush 41, 2) := by decide +kernel
theorem dL_fits_30 : decode cL_fits 30 = .ok (.invokestatic 9, 3) := by decide +kernel
theorem dL_fits_33 : decode cL_fits 33 = .ok (.iadd, 1) := by decide +kernel
theorem dL_fits_34 : decode cL_fits 34 = .ok (.istore 4, 2) := by decide +kernel
theorem dL_fits_36 : decode cL_fits 36 = .ok (.aload_n 0, 1) := by decide +kernel
theorem dL_fits_37 : decode cL_fits 37 = .ok (.bipush 8, 2) := by decide +kernel
theorem dL_fits_39 : decode cL_fits 39 = .ok (.invokevirtual 21, 3) := by decide +kernel
theorem dL_fits_42 : decode cL_fits 42 = .ok (.istore 5, 2) := by decide +kernel
theorem dL_fits_44 : decode cL_fits 44 = .ok (.aload_n 0, 1) := by decide +kernel
theorem dL_fits_45 : decode cL_fits 45 = .ok (.invokestatic 73, 3) := by decide +kernel
theorem dL_fits_48 : decode cL_fits 48 = .ok (.ifCond .eq 54, 3) := by decide +kernel
theorem dL_fits_51 : decode cL_fits 51 = .ok (.aload_n 0, 1) := by decide +kernel
theorem dL_fits_52 : decode cL_fits 52 = .ok (.invokestatic 77, 3) := by decide +kernel
theorem dL_fits_55 : decode cL_fits 55 = .ok (.ifCond .eq 47, 3) := by decide +kernel
theorem dL_fits_58 : decode cL_fits 58 = .ok (.aload_n 0, 1) := by decide +kernel
theorem dL_fits_59 : decode cL_fits 59 = .ok (.iload 4, 2) := by decide +kernel
theorem dL_fits_61 : decode cL_fits 61 = .ok (.invokestatic 80, 3) := by decide +kernel
theorem dL_fits_64 : decode cL_fits 64 = .ok (.ifCond .eq 38, 3) := by decide +kernel
theorem dL_fits_67 : decode cL_fits 67 = .ok (.aload_n 0, 1) := by decide +kernel
theorem dL_fits_68 : decode cL_fits 68 = .ok (.iload_n 1, 1) := by decide +kernel
theorem dL_fits_69 : decode cL_fits 69 = .ok (.invokestatic 80, 3) := by decide +kernel
theorem dL_fits_72 : decode cL_fits 72 = .ok (.ifCond .eq 30, 3) := by decide +kernel
theorem dL_fits_75 : decode cL_fits 75 = .ok (.aload_n 0, 1) := by decide +kernel
theorem dL_fits_76 : decode cL_fits 76 = .ok (.iload 5, 2) := by decide +kernel
theorem dL_fits_78 : decode cL_fits 78 = .ok (.iconst 0, 1) := by decide +kernel
theorem dL_fits_79 : decode cL_fits 79 = .ok (.invokevirtual 33, 3) := by decide +kernel
theorem dL_fits_82 : decode cL_fits 82 = .ok (.iload 5, 2) := by decide +kernel
theorem dL_fits_84 : decode cL_fits 84 = .ok (.iconst 3, 1) := by decide +kernel
theorem dL_fits_85 : decode cL_fits 85 = .ok (.if_icmp .ge 8, 3) := by decide +kernel
theorem dL_fits_88 : decode cL_fits 88 = .ok (.ldc 37, 2) := by decide +kernel
theorem dL_fits_90 : decode cL_fits 90 = .ok (.goto 5, 3) := by decide +kernel
theorem dL_fits_93 : decode cL_fits 93 = .ok (.ldc 15, 2) := by decide +kernel
theorem dL_fits_95 : decode cL_fits 95 = .ok (.if_icmp .ne 7, 3) := by decide +kernel
theorem dL_fits_98 : decode cL_fits 98 = .ok (.iconst 1, 1) := by decide +kernel
theorem dL_fits_99 : decode cL_fits 99 = .ok (.goto 4, 3) := by decide +kernel
theorem dL_fits_102 : decode cL_fits 102 = .ok (.iconst 0, 1) := by decide +kernel
theorem dL_fits_103 : decode cL_fits 103 = .ok (.istore 6, 2) := by decide +kernel
theorem dL_fits_105 : decode cL_fits 105 = .ok (.iconst 0, 1) := by decide +kernel
theorem dL_fits_106 : decode cL_fits 106 = .ok (.istore 7, 2) := by decide +kernel
theorem dL_fits_108 : decode cL_fits 108 = .ok (.iload 7, 2) := by decide +kernel
theorem dL_fits_110 : decode cL_fits 110 = .ok (.iload 5, 2) := by decide +kernel
theorem dL_fits_112 : decode cL_fits 112 = .ok (.if_icmp .ge 76, 3) := by decide +kernel
theorem dL_fits_115 : decode cL_fits 115 = .ok (.iload 6, 2) := by decide +kernel
theorem dL_fits_117 : decode cL_fits 117 = .ok (.ifCond .eq 71, 3) := by decide +kernel
theorem dL_fits_120 : decode cL_fits 120 = .ok (.aload_n 0, 1) := by decide +kernel
theorem dL_fits_121 : decode cL_fits 121 = .ok (.iload 7, 2) := by decide +kernel
theorem dL_fits_123 : decode cL_fits 123 = .ok (.iconst 1, 1) := by decide +kernel
theorem dL_fits_124 : decode cL_fits 124 = .ok (.invokevirtual 33, 3) := by decide +kernel
theorem dL_fits_127 : decode cL_fits 127 = .ok (.istore 8, 2) := by decide +kernel
theorem dL_fits_129 : decode cL_fits 129 = .ok (.aload_n 0, 1) := by decide +kernel
theorem dL_fits_130 : decode cL_fits 130 = .ok (.iload 7, 2) := by decide +kernel
theorem dL_fits_132 : decode cL_fits 132 = .ok (.iconst 2, 1) := by decide +kernel
theorem dL_fits_133 : decode cL_fits 133 = .ok (.invokevirtual 33, 3) := by decide +kernel
theorem dL_fits_136 : decode cL_fits 136 = .ok (.iload 8, 2) := by decide +kernel
theorem dL_fits_138 : decode cL_fits 138 = .ok (.if_icmp .gt 41, 3) := by decide +kernel
theorem dL_fits_141 : decode cL_fits 141 = .ok (.aload_n 0, 1) := by decide +kernel
theorem dL_fits_142 : decode cL_fits 142 = .ok (.iload 7, 2) := by decide +kernel
theorem dL_fits_144 : decode cL_fits 144 = .ok (.iconst 3, 1) := by decide +kernel
theorem dL_fits_145 : decode cL_fits 145 = .ok (.invokevirtual 33, 3) := by decide +kernel
theorem dL_fits_148 : decode cL_fits 148 = .ok (.iload 8, 2) := by decide +kernel
theorem dL_fits_150 : decode cL_fits 150 = .ok (.if_icmp .gt 29, 3) := by decide +kernel
theorem dL_fits_153 : decode cL_fits 153 = .ok (.aload_n 0, 1) := by decide +kernel
theorem dL_fits_154 : decode cL_fits 154 = .ok (.iload 7, 2) := by decide +kernel
theorem dL_fits_156 : decode cL_fits 156 = .ok (.iconst 3, 1) := by decide +kernel
theorem dL_fits_157 : decode cL_fits 157 = .ok (.invokevirtual 33, 3) := by decide +kernel
theorem dL_fits_160 : decode cL_fits 160 = .ok (.aload_n 0, 1) := by decide +kernel
theorem dL_fits_161 : decode cL_fits 161 = .ok (.iconst 0, 1) := by decide +kernel
theorem dL_fits_162 : decode cL_fits 162 = .ok (.invokevirtual 21, 3) := by decide +kernel
theorem dL_fits_165 : decode cL_fits 165 = .ok (.if_icmp .gt 14, 3) := by decide +kernel
theorem dL_fits_168 : decode cL_fits 168 = .ok (.iload 8, 2) := by decide +kernel
theorem dL_fits_170 : decode cL_fits 170 = .ok (.bipush 40, 2) := by decide +kernel
theorem dL_fits_172 : decode cL_fits 172 = .ok (.if_icmp .gt 7, 3) := by decide +kernel
theorem dL_fits_175 : decode cL_fits 175 = .ok (.iconst 1, 1) := by decide +kernel
theorem dL_fits_176 : decode cL_fits 176 = .ok (.goto 4, 3) := by decide +kernel
theorem dL_fits_179 : decode cL_fits 179 = .ok (.iconst 0, 1) := by decide +kernel
theorem dL_fits_180 : decode cL_fits 180 = .ok (.istore 6, 2) := by decide +kernel
theorem dL_fits_182 : decode cL_fits 182 = .ok (.iinc 7 1, 3) := by decide +kernel
theorem dL_fits_185 : decode cL_fits 185 = .ok (.goto (-77), 3) := by decide +kernel
theorem dL_fits_188 : decode cL_fits 188 = .ok (.iload 6, 2) := by decide +kernel
theorem dL_fits_190 : decode cL_fits 190 = .ok (.ifCond .eq 16, 3) := by decide +kernel
theorem dL_fits_193 : decode cL_fits 193 = .ok (.aload_n 0, 1) := by decide +kernel
theorem dL_fits_194 : decode cL_fits 194 = .ok (.invokestatic 66, 3) := by decide +kernel
theorem dL_fits_197 : decode cL_fits 197 = .ok (.lload_n 2, 1) := by decide +kernel
theorem dL_fits_198 : decode cL_fits 198 = .ok (.lcmp, 1) := by decide +kernel
theorem dL_fits_199 : decode cL_fits 199 = .ok (.ifCond .ne 7, 3) := by decide +kernel
theorem dL_fits_202 : decode cL_fits 202 = .ok (.iconst 1, 1) := by decide +kernel
theorem dL_fits_203 : decode cL_fits 203 = .ok (.goto 4, 3) := by decide +kernel
theorem dL_fits_206 : decode cL_fits 206 = .ok (.iconst 0, 1) := by decide +kernel
theorem dL_fits_207 : decode cL_fits 207 = .ok (.ireturn, 1) := by decide +kernel
set_option maxRecDepth 20000 in
theorem ggL_name_L_low : GoodIn wsL_name wsL_low := goodIn_r _ [4, 5] (by decide +kernel) (by decide +kernel)
set_option maxRecDepth 20000 in
theorem gL_name_L_low : GoodIn wsL_name (va_wsS RL 9 yL_low wsL_low) := goodIn_app (goodIn_of _ (by decide +kernel)) ggL_name_L_low
theorem dL_name_0 : decode cL_name 0 = .ok (.iconst 1, 1) := by decide +kernel
theorem dL_name_1 : decode cL_name 1 = .ok (.iload_n 0, 1) := by decide +kernel
theorem dL_name_2 : decode cL_name 2 = .ok (.iconst 3, 1) := by decide +kernel
theorem dL_name_3 : decode cL_name 3 = .ok (.invokestatic 9, 3) := by decide +kernel
theorem dL_name_6 : decode cL_name 6 = .ok (.iadd, 1) := by decide +kernel
theorem dL_name_7 : decode cL_name 7 = .ok (.istore_n 1, 1) := by decide +kernel
theorem dL_name_8 : decode cL_name 8 = .ok (.iconst 1, 1) := by decide +kernel
theorem dL_name_9 : decode cL_name 9 = .ok (.iload_n 0, 1) := by decide +kernel
theorem dL_name_10 : decode cL_name 10 = .ok (.iconst 2, 1) := by decide +kernel
theorem dL_name_11 : decode cL_name 11 = .ok (.ishr, 1) := by decide +kernel
theorem dL_name_12 : decode cL_name 12 = .ok (.iconst 2, 1) := by decide +kernel
theorem dL_name_13 : decode cL_name 13 = .ok (.invokestatic 9, 3) := by decide +kernel
theorem dL_name_16 : decode cL_name 16 = .ok (.iadd, 1) := by decide +kernel
theorem dL_name_17 : decode cL_name 17 = .ok (.istore_n 2, 1) := by decide +kernel
theorem dL_name_18 : decode cL_name 18 = .ok (.iload_n 0, 1) := by decide +kernel
theorem dL_name_19 : decode cL_name 19 = .ok (.iconst 4, 1) := by decide +kernel
theorem dL_name_20 : decode cL_name 20 = .ok (.ishr, 1) := by decide +kernel
theorem dL_name_21 : decode cL_name 21 = .ok (.iconst 3, 1) := by decide +kernel
theorem dL_name_22 : decode cL_name 22 = .ok (.invokestatic 9, 3) := by decide +kernel
theorem dL_name_25 : decode cL_name 25 = .ok (.ifCond .ne 7, 3) := by decide +kernel
theorem dL_name_28 : decode cL_name 28 = .ok (.iload_n 1, 1) := by decide +kernel
theorem dL_name_29 : decode cL_name 29 = .ok (.goto 44, 3) := by decide +kernel
theorem dL_name_32 : decode cL_name 32 = .ok (.iload_n 0, 1) := by decide +kernel
theorem dL_name_33 : decode cL_name 33 = .ok (.iconst 4, 1) := by decide +kernel
theorem dL_name_34 : decode cL_name 34 = .ok (.ishr, 1) := by decide +kernel
theorem dL_name_35 : decode cL_name 35 = .ok (.iconst 3, 1) := by decide +kernel
theorem dL_name_36 : decode cL_name 36 = .ok (.invokestatic 9, 3) := by decide +kernel
theorem dL_name_39 : decode cL_name 39 = .ok (.iconst 1, 1) := by decide +kernel
theorem dL_name_40 : decode cL_name 40 = .ok (.if_icmp .ne 12, 3) := by decide +kernel
theorem dL_name_43 : decode cL_name 43 = .ok (.bipush 27, 2) := by decide +kernel
theorem dL_name_45 : decode cL_name 45 = .ok (.iload_n 1, 1) := by decide +kernel
theorem dL_name_46 : decode cL_name 46 = .ok (.imul, 1) := by decide +kernel
theorem dL_name_47 : decode cL_name 47 = .ok (.iload_n 2, 1) := by decide +kernel
theorem dL_name_48 : decode cL_name 48 = .ok (.iadd, 1) := by decide +kernel
theorem dL_name_49 : decode cL_name 49 = .ok (.goto 24, 3) := by decide +kernel
theorem dL_name_52 : decode cL_name 52 = .ok (.sipush 729, 3) := by decide +kernel
theorem dL_name_55 : decode cL_name 55 = .ok (.iload_n 1, 1) := by decide +kernel
theorem dL_name_56 : decode cL_name 56 = .ok (.imul, 1) := by decide +kernel
theorem dL_name_57 : decode cL_name 57 = .ok (.bipush 27, 2) := by decide +kernel
theorem dL_name_59 : decode cL_name 59 = .ok (.iload_n 2, 1) := by decide +kernel
theorem dL_name_60 : decode cL_name 60 = .ok (.imul, 1) := by decide +kernel
theorem dL_name_61 : decode cL_name 61 = .ok (.iadd, 1) := by decide +kernel
theorem dL_name_62 : decode cL_name 62 = .ok (.iconst 1, 1) := by decide +kernel
theorem dL_name_63 : decode cL_name 63 = .ok (.iadd, 1) := by decide +kernel
theorem dL_name_64 : decode cL_name 64 = .ok (.iload_n 0, 1) := by decide +kernel
theorem dL_name_65 : decode cL_name 65 = .ok (.bipush 7, 2) := by decide +kernel
theorem dL_name_67 : decode cL_name 67 = .ok (.ishr, 1) := by decide +kernel
theorem dL_name_68 : decode cL_name 68 = .ok (.iconst 3, 1) := by decide +kernel
theorem dL_name_69 : decode cL_name 69 = .ok (.invokestatic 9, 3) := by decide +kernel
theorem dL_name_72 : decode cL_name 72 = .ok (.iadd, 1) := by decide +kernel
theorem dL_name_73 : decode cL_name 73 = .ok (.ireturn, 1) := by decide +kernel
theorem dL_above_0 : decode cL_above 0 = .ok (.iload_n 0, 1) := by decide +kernel
theorem dL_above_1 : decode cL_above 1 = .ok (.ifCond .ge 7, 3) := by decide +kernel
theorem dL_above_4 : decode cL_above 4 = .ok (.iconst 0, 1) := by decide +kernel
theorem dL_above_5 : decode cL_above 5 = .ok (.goto 4, 3) := by decide +kernel
theorem dL_above_8 : decode cL_above 8 = .ok (.iload_n 0, 1) := by decide +kernel
theorem dL_above_9 : decode cL_above 9 = .ok (.ireturn, 1) := by decide +kernel
set_option maxRecDepth 20000 in
theorem ggL_tag_L_low : GoodIn wsL_tag wsL_low := goodIn_r _ [5, 6] (by decide +kernel) (by decide +kernel)
set_option maxRecDepth 20000 in
theorem gL_tag_L_low : GoodIn wsL_tag (va_wsS RL 9 yL_low wsL_low) := goodIn_app (goodIn_of _ (by decide +kernel)) ggL_tag_L_low
set_option maxRecDepth 20000 in
theorem ggL_tag_X3_count : GoodIn wsL_tag wsX3_count := goodIn_r _ [11, 12, 13, 14, 15, 16, 17, 18, 19, 20, 21, 22, 23, 24, 25, 26, 27, 28, 29, 30, 31, 32, 33, 34, 35, 36, 37, 38, 39, 40, 41, 42, 43, 44, 70, 71, 72, 73, 74, 75, 76, 77, 78, 79, 80, 81, 82, 83, 84, 85, 86, 87, 88, 89, 90, 91] (by decide +kernel) (by decide +kernel)
set_option maxRecDepth 20000 in
theorem gL_tag_X3_count : GoodIn wsL_tag (wsV RL 21 RX3 yX3_count wsX3_count) := goodIn_app (goodIn_of _ (by decide +kernel)) ggL_tag_X3_count
set_option maxRecDepth 20000 in
theorem ggL_tag_L_above : GoodIn wsL_tag wsL_above := goodIn_r _ [47] (by decide +kernel) (by decide +kernel)
set_option maxRecDepth 20000 in
theorem gL_tag_L_above : GoodIn wsL_tag (va_wsS RL 84 yL_above wsL_above) := goodIn_app (goodIn_of _ (by decide +kernel)) ggL_tag_L_above
set_option maxRecDepth 20000 in
theorem ggL_tag_X3_numberOf : GoodIn wsL_tag wsX3_numberOf := goodIn_r _ [51, 24, 12, 52, 53, 54, 55, 56, 57, 10, 58, 36, 37, 38, 28, 39, 40, 59, 60, 61, 62, 63, 64, 65, 66, 67, 68, 69, 70, 71, 72, 73, 74, 75, 76, 77, 78, 79, 80, 81, 82, 83, 84, 85, 86, 87, 88, 89] (by decide +kernel) (by decide +kernel)
set_option maxRecDepth 20000 in
theorem gL_tag_X3_numberOf : GoodIn wsL_tag (wsV RL 27 RX3 yX3_numberOf wsX3_numberOf) := goodIn_app (goodIn_of _ (by decide +kernel)) ggL_tag_X3_numberOf
theorem dL_tag_0 : decode cL_tag 0 = .ok (.iload_n 1, 1) := by decide +kernel
theorem dL_tag_1 : decode cL_tag 1 = .ok (.bipush 8, 2) := by decide +kernel
theorem dL_tag_3 : decode cL_tag 3 = .ok (.invokestatic 9, 3) := by decide +kernel
theorem dL_tag_6 : decode cL_tag 6 = .ok (.istore_n 2, 1) := by decide +kernel
theorem dL_tag_7 : decode cL_tag 7 = .ok (.iload_n 1, 1) := by decide +kernel
theorem dL_tag_8 : decode cL_tag 8 = .ok (.iconst 5, 1) := by decide +kernel
theorem dL_tag_9 : decode cL_tag 9 = .ok (.ishr, 1) := by decide +kernel
theorem dL_tag_10 : decode cL_tag 10 = .ok (.bipush 9, 2) := by decide +kernel
theorem dL_tag_12 : decode cL_tag 12 = .ok (.invokestatic 9, 3) := by decide +kernel
theorem dL_tag_15 : decode cL_tag 15 = .ok (.ifCond .ne 7, 3) := by decide +kernel
theorem dL_tag_18 : decode cL_tag 18 = .ok (.iload_n 1, 1) := by decide +kernel
theorem dL_tag_19 : decode cL_tag 19 = .ok (.goto 77, 3) := by decide +kernel
theorem dL_tag_22 : decode cL_tag 22 = .ok (.ldc 38, 2) := by decide +kernel
theorem dL_tag_24 : decode cL_tag 24 = .ok (.aload_n 0, 1) := by decide +kernel
theorem dL_tag_25 : decode cL_tag 25 = .ok (.iconst 3, 1) := by decide +kernel
theorem dL_tag_26 : decode cL_tag 26 = .ok (.invokevirtual 21, 3) := by decide +kernel
theorem dL_tag_29 : decode cL_tag 29 = .ok (.iload_n 1, 1) := by decide +kernel
theorem dL_tag_30 : decode cL_tag 30 = .ok (.bipush 9, 2) := by decide +kernel
theorem dL_tag_32 : decode cL_tag 32 = .ok (.ishr, 1) := by decide +kernel
theorem dL_tag_33 : decode cL_tag 33 = .ok (.iload_n 1, 1) := by decide +kernel
theorem dL_tag_34 : decode cL_tag 34 = .ok (.bipush 13, 2) := by decide +kernel
theorem dL_tag_36 : decode cL_tag 36 = .ok (.ishr, 1) := by decide +kernel
theorem dL_tag_37 : decode cL_tag 37 = .ok (.iconst 3, 1) := by decide +kernel
theorem dL_tag_38 : decode cL_tag 38 = .ok (.invokestatic 9, 3) := by decide +kernel
theorem dL_tag_41 : decode cL_tag 41 = .ok (.ifCond .ne 7, 3) := by decide +kernel
theorem dL_tag_44 : decode cL_tag 44 = .ok (.iconst 5, 1) := by decide +kernel
theorem dL_tag_45 : decode cL_tag 45 = .ok (.goto 4, 3) := by decide +kernel
theorem dL_tag_48 : decode cL_tag 48 = .ok (.iconst 1, 1) := by decide +kernel
theorem dL_tag_49 : decode cL_tag 49 = .ok (.invokestatic 9, 3) := by decide +kernel
theorem dL_tag_52 : decode cL_tag 52 = .ok (.isub, 1) := by decide +kernel
theorem dL_tag_53 : decode cL_tag 53 = .ok (.invokestatic 84, 3) := by decide +kernel
theorem dL_tag_56 : decode cL_tag 56 = .ok (.imul, 1) := by decide +kernel
theorem dL_tag_57 : decode cL_tag 57 = .ok (.bipush 100, 2) := by decide +kernel
theorem dL_tag_59 : decode cL_tag 59 = .ok (.aload_n 0, 1) := by decide +kernel
theorem dL_tag_60 : decode cL_tag 60 = .ok (.iload_n 2, 1) := by decide +kernel
theorem dL_tag_61 : decode cL_tag 61 = .ok (.iconst 3, 1) := by decide +kernel
theorem dL_tag_62 : decode cL_tag 62 = .ok (.invokevirtual 27, 3) := by decide +kernel
theorem dL_tag_65 : decode cL_tag 65 = .ok (.iload_n 1, 1) := by decide +kernel
theorem dL_tag_66 : decode cL_tag 66 = .ok (.bipush 17, 2) := by decide +kernel
theorem dL_tag_68 : decode cL_tag 68 = .ok (.ishr, 1) := by decide +kernel
theorem dL_tag_69 : decode cL_tag 69 = .ok (.iload_n 1, 1) := by decide +kernel
theorem dL_tag_70 : decode cL_tag 70 = .ok (.bipush 20, 2) := by decide +kernel
theorem dL_tag_72 : decode cL_tag 72 = .ok (.ishr, 1) := by decide +kernel
theorem dL_tag_73 : decode cL_tag 73 = .ok (.iconst 3, 1) := by decide +kernel
theorem dL_tag_74 : decode cL_tag 74 = .ok (.invokestatic 9, 3) := by decide +kernel
theorem dL_tag_77 : decode cL_tag 77 = .ok (.ifCond .ne 7, 3) := by decide +kernel
theorem dL_tag_80 : decode cL_tag 80 = .ok (.iconst 3, 1) := by decide +kernel
theorem dL_tag_81 : decode cL_tag 81 = .ok (.goto 4, 3) := by decide +kernel
theorem dL_tag_84 : decode cL_tag 84 = .ok (.iconst 1, 1) := by decide +kernel
theorem dL_tag_85 : decode cL_tag 85 = .ok (.invokestatic 9, 3) := by decide +kernel
theorem dL_tag_88 : decode cL_tag 88 = .ok (.isub, 1) := by decide +kernel
theorem dL_tag_89 : decode cL_tag 89 = .ok (.invokestatic 84, 3) := by decide +kernel
theorem dL_tag_92 : decode cL_tag 92 = .ok (.imul, 1) := by decide +kernel
theorem dL_tag_93 : decode cL_tag 93 = .ok (.iadd, 1) := by decide +kernel
theorem dL_tag_94 : decode cL_tag 94 = .ok (.iload_n 2, 1) := by decide +kernel
theorem dL_tag_95 : decode cL_tag 95 = .ok (.iadd, 1) := by decide +kernel
theorem dL_tag_96 : decode cL_tag 96 = .ok (.ireturn, 1) := by decide +kernel
