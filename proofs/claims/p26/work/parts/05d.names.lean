set_option maxRecDepth 20000 in
theorem ggL_plays_X3_clearText : GoodIn wsL_plays wsX3_clearText := goodIn_r _ [9, 10, 11, 233, 234, 235, 236, 237, 238, 239] (by decide +kernel) (by decide +kernel)
set_option maxRecDepth 20000 in
theorem gL_plays_X3_clearText : GoodIn wsL_plays (wsV RL 87 RX3 yX3_clearText wsX3_clearText) := goodIn_app (goodIn_of _ (by decide +kernel)) ggL_plays_X3_clearText
set_option maxRecDepth 20000 in
theorem ggL_plays_L_low : GoodIn wsL_plays wsL_low := goodIn_r _ [15, 16] (by decide +kernel) (by decide +kernel)
set_option maxRecDepth 20000 in
theorem gL_plays_L_low : GoodIn wsL_plays (va_wsS RL 9 yL_low wsL_low) := goodIn_app (goodIn_of _ (by decide +kernel)) ggL_plays_L_low
set_option maxRecDepth 20000 in
theorem ggL_plays_X3_type : GoodIn wsL_plays wsX3_type := goodIn_r _ [20, 21, 10, 11, 22, 23, 24, 25, 26, 27, 28, 29, 30, 8, 31, 233, 234, 235, 236, 237, 238, 239] (by decide +kernel) (by decide +kernel)
set_option maxRecDepth 20000 in
theorem gL_plays_X3_type : GoodIn wsL_plays (wsV RL 92 RX3 yX3_type wsX3_type) := goodIn_app (goodIn_of _ (by decide +kernel)) ggL_plays_X3_type
set_option maxRecDepth 20000 in
theorem ggL_plays_X3_fault_p0 : GoodIn wsL_plays (wsX3_fault.take 60) := goodIn_r _ [35, 21, 36, 37, 10, 38, 39, 40, 41, 42, 30, 8, 31, 43, 44, 45, 46, 47, 48, 49, 50, 51, 52, 53, 54, 55, 56, 57, 58, 59, 60, 61, 62, 63, 64, 65, 66, 67, 68, 69, 70, 71, 72, 73, 74, 75, 76, 77, 78, 79, 80, 81, 82, 83, 84, 85, 86, 87, 88, 26] (by decide +kernel) (by decide +kernel)
set_option maxRecDepth 20000 in
theorem ggL_plays_X3_fault_p1 : GoodIn wsL_plays ((wsX3_fault.drop 60).take 60) := goodIn_r _ [89, 28, 29, 90, 91, 92, 93, 94, 95, 96, 97, 98, 99, 100, 101, 102, 103, 104, 105, 106, 107, 108, 109, 110, 111, 112, 113, 114, 115, 116, 117, 118, 119, 120, 121, 122, 123, 124, 125, 126, 127, 128, 129, 130, 131, 132, 133, 134, 135, 136, 137, 138, 139, 140, 141, 142, 143, 144, 145, 146] (by decide +kernel) (by decide +kernel)
set_option maxRecDepth 20000 in
theorem ggL_plays_X3_fault_p2 : GoodIn wsL_plays ((wsX3_fault.drop 120).take 60) := goodIn_r _ [147, 148, 149, 150, 151, 152, 153, 154, 155, 156, 157, 158, 159, 160, 161, 162, 163, 164, 165, 166, 167, 168, 169, 170, 171, 172, 173, 174, 175, 176, 177, 178, 179, 180, 181, 182, 183, 184, 185, 186, 187, 188, 189, 190, 191, 192, 193, 194, 195, 196, 233, 234, 235, 236, 237, 240, 241, 242, 243, 244] (by decide +kernel) (by decide +kernel)
set_option maxRecDepth 20000 in
theorem ggL_plays_X3_fault_p3 : GoodIn wsL_plays (wsX3_fault.drop 180) := goodIn_r _ [245, 246, 247, 248, 249, 250, 251, 238, 239, 252, 253, 254, 255, 256, 257, 258, 259, 260, 261, 262, 263, 264, 265, 266] (by decide +kernel) (by decide +kernel)
theorem ggL_plays_X3_fault : GoodIn wsL_plays wsX3_fault := goodIn_pc 60 ggL_plays_X3_fault_p0 (goodIn_pd 60 60 ggL_plays_X3_fault_p1 (goodIn_pd 120 60 ggL_plays_X3_fault_p2 (ggL_plays_X3_fault_p3)))
set_option maxRecDepth 20000 in
theorem gL_plays_X3_fault : GoodIn wsL_plays (wsV RL 95 RX3 yX3_fault wsX3_fault) := goodIn_app (goodIn_of _ (by decide +kernel)) ggL_plays_X3_fault
set_option maxRecDepth 20000 in
theorem ggL_plays_X3_play_p0 : GoodIn wsL_plays (wsX3_play.take 60) := goodIn_r _ [200, 36, 37, 10, 38, 201, 202, 203, 43, 44, 45, 46, 47, 48, 49, 50, 51, 52, 53, 54, 55, 56, 57, 58, 59, 60, 61, 62, 63, 64, 65, 66, 67, 68, 69, 70, 71, 72, 73, 74, 75, 76, 77, 78, 79, 80, 81, 82, 83, 84, 85, 86, 87, 88, 26, 89, 28, 29, 30, 8] (by decide +kernel) (by decide +kernel)
set_option maxRecDepth 20000 in
theorem ggL_plays_X3_play_p1 : GoodIn wsL_plays ((wsX3_play.drop 60).take 60) := goodIn_r _ [31, 90, 91, 92, 93, 94, 95, 96, 97, 98, 99, 100, 101, 102, 103, 104, 105, 106, 107, 108, 109, 110, 111, 112, 113, 114, 115, 116, 117, 118, 119, 120, 121, 122, 123, 124, 125, 126, 127, 128, 129, 130, 131, 132, 133, 134, 135, 136, 137, 138, 139, 140, 141, 142, 143, 144, 145, 146, 147, 148] (by decide +kernel) (by decide +kernel)
set_option maxRecDepth 20000 in
theorem ggL_plays_X3_play_p2 : GoodIn wsL_plays ((wsX3_play.drop 120).take 60) := goodIn_r _ [149, 150, 151, 152, 153, 154, 155, 156, 157, 158, 159, 160, 161, 162, 163, 164, 165, 166, 167, 168, 169, 170, 171, 172, 173, 174, 175, 176, 177, 178, 179, 180, 181, 182, 183, 184, 185, 186, 187, 188, 189, 190, 191, 192, 193, 194, 195, 196, 204, 205, 206, 207, 208, 209, 210, 233, 234, 235, 236, 237] (by decide +kernel) (by decide +kernel)
set_option maxRecDepth 20000 in
theorem ggL_plays_X3_play_p3 : GoodIn wsL_plays (wsX3_play.drop 180) := goodIn_r _ [240, 241, 242, 243, 244, 245, 246, 247, 248, 249, 250, 251, 238, 239, 252, 253, 254, 255, 256, 257, 258, 259, 260, 261, 262, 263, 264, 265, 266] (by decide +kernel) (by decide +kernel)
theorem ggL_plays_X3_play : GoodIn wsL_plays wsX3_play := goodIn_pc 60 ggL_plays_X3_play_p0 (goodIn_pd 60 60 ggL_plays_X3_play_p1 (goodIn_pd 120 60 ggL_plays_X3_play_p2 (ggL_plays_X3_play_p3)))
set_option maxRecDepth 20000 in
theorem gL_plays_X3_play : GoodIn wsL_plays (wsV RL 98 RX3 yX3_play wsX3_play) := goodIn_app (goodIn_of _ (by decide +kernel)) ggL_plays_X3_play
set_option maxRecDepth 20000 in
theorem ggL_plays_X3_count : GoodIn wsL_plays wsX3_count := goodIn_r _ [214, 37, 215, 216, 217, 218, 219, 220, 221, 222, 208, 10, 11, 21, 223, 180, 181, 57, 182, 59, 224, 225, 226, 227, 64, 228, 137, 138, 139, 66, 229, 230, 231, 232, 233, 234, 235, 236, 237, 252, 253, 254, 255, 256, 257, 258, 259, 260, 261, 262, 263, 264, 265, 266, 238, 239] (by decide +kernel) (by decide +kernel)
set_option maxRecDepth 20000 in
theorem gL_plays_X3_count : GoodIn wsL_plays (wsV RL 21 RX3 yX3_count wsX3_count) := goodIn_app (goodIn_of _ (by decide +kernel)) ggL_plays_X3_count
theorem dL_plays_0 : decode cL_plays 0 = .ok (.aload_n 0, 1) := by decide +kernel
theorem dL_plays_1 : decode cL_plays 1 = .ok (.invokevirtual 87, 3) := by decide +kernel
theorem dL_plays_4 : decode cL_plays 4 = .ok (.pop, 1) := by decide +kernel
theorem dL_plays_5 : decode cL_plays 5 = .ok (.iload_n 1, 1) := by decide +kernel
theorem dL_plays_6 : decode cL_plays 6 = .ok (.istore_n 2, 1) := by decide +kernel
theorem dL_plays_7 : decode cL_plays 7 = .ok (.iconst 0, 1) := by decide +kernel
theorem dL_plays_8 : decode cL_plays 8 = .ok (.istore_n 3, 1) := by decide +kernel
theorem dL_plays_9 : decode cL_plays 9 = .ok (.iload_n 3, 1) := by decide +kernel
theorem dL_plays_10 : decode cL_plays 10 = .ok (.iconst 1, 1) := by decide +kernel
theorem dL_plays_11 : decode cL_plays 11 = .ok (.iload_n 1, 1) := by decide +kernel
theorem dL_plays_12 : decode cL_plays 12 = .ok (.iconst 4, 1) := by decide +kernel
theorem dL_plays_13 : decode cL_plays 13 = .ok (.invokestatic 9, 3) := by decide +kernel
theorem dL_plays_16 : decode cL_plays 16 = .ok (.iadd, 1) := by decide +kernel
theorem dL_plays_17 : decode cL_plays 17 = .ok (.if_icmp .ge 222, 3) := by decide +kernel
theorem dL_plays_20 : decode cL_plays 20 = .ok (.ldc 91, 2) := by decide +kernel
theorem dL_plays_22 : decode cL_plays 22 = .ok (.iload_n 2, 1) := by decide +kernel
theorem dL_plays_23 : decode cL_plays 23 = .ok (.imul, 1) := by decide +kernel
theorem dL_plays_24 : decode cL_plays 24 = .ok (.sipush 12345, 3) := by decide +kernel
theorem dL_plays_27 : decode cL_plays 27 = .ok (.iadd, 1) := by decide +kernel
theorem dL_plays_28 : decode cL_plays 28 = .ok (.istore_n 2, 1) := by decide +kernel
theorem dL_plays_29 : decode cL_plays 29 = .ok (.iload_n 2, 1) := by decide +kernel
theorem dL_plays_30 : decode cL_plays 30 = .ok (.bipush 9, 2) := by decide +kernel
theorem dL_plays_32 : decode cL_plays 32 = .ok (.ishr, 1) := by decide +kernel
theorem dL_plays_33 : decode cL_plays 33 = .ok (.bipush 7, 2) := by decide +kernel
theorem dL_plays_35 : decode cL_plays 35 = .ok (.invokestatic 9, 3) := by decide +kernel
theorem dL_plays_38 : decode cL_plays 38 = .ok (.istore 4, 2) := by decide +kernel
theorem dL_plays_40 : decode cL_plays 40 = .ok (.aload_n 0, 1) := by decide +kernel
theorem dL_plays_41 : decode cL_plays 41 = .ok (.iload 4, 2) := by decide +kernel
theorem dL_plays_43 : decode cL_plays 43 = .ok (.iconst 3, 1) := by decide +kernel
theorem dL_plays_44 : decode cL_plays 44 = .ok (.if_icmp .ge 8, 3) := by decide +kernel
theorem dL_plays_47 : decode cL_plays 47 = .ok (.bipush 43, 2) := by decide +kernel
theorem dL_plays_49 : decode cL_plays 49 = .ok (.goto 27, 3) := by decide +kernel
theorem dL_plays_52 : decode cL_plays 52 = .ok (.iload 4, 2) := by decide +kernel
theorem dL_plays_54 : decode cL_plays 54 = .ok (.iconst 5, 1) := by decide +kernel
theorem dL_plays_55 : decode cL_plays 55 = .ok (.if_icmp .ge 8, 3) := by decide +kernel
theorem dL_plays_58 : decode cL_plays 58 = .ok (.bipush 45, 2) := by decide +kernel
theorem dL_plays_60 : decode cL_plays 60 = .ok (.goto 16, 3) := by decide +kernel
theorem dL_plays_63 : decode cL_plays 63 = .ok (.iload 4, 2) := by decide +kernel
theorem dL_plays_65 : decode cL_plays 65 = .ok (.iconst 5, 1) := by decide +kernel
theorem dL_plays_66 : decode cL_plays 66 = .ok (.if_icmp .ne 8, 3) := by decide +kernel
theorem dL_plays_69 : decode cL_plays 69 = .ok (.bipush 61, 2) := by decide +kernel
theorem dL_plays_71 : decode cL_plays 71 = .ok (.goto 5, 3) := by decide +kernel
theorem dL_plays_74 : decode cL_plays 74 = .ok (.bipush 33, 2) := by decide +kernel
theorem dL_plays_76 : decode cL_plays 76 = .ok (.invokevirtual 92, 3) := by decide +kernel
theorem dL_plays_79 : decode cL_plays 79 = .ok (.pop, 1) := by decide +kernel
theorem dL_plays_80 : decode cL_plays 80 = .ok (.iload 4, 2) := by decide +kernel
theorem dL_plays_82 : decode cL_plays 82 = .ok (.iconst 5, 1) := by decide +kernel
theorem dL_plays_83 : decode cL_plays 83 = .ok (.if_icmp .ne 50, 3) := by decide +kernel
theorem dL_plays_86 : decode cL_plays 86 = .ok (.aload_n 0, 1) := by decide +kernel
theorem dL_plays_87 : decode cL_plays 87 = .ok (.bipush 48, 2) := by decide +kernel
theorem dL_plays_89 : decode cL_plays 89 = .ok (.iload_n 2, 1) := by decide +kernel
theorem dL_plays_90 : decode cL_plays 90 = .ok (.bipush 12, 2) := by decide +kernel
theorem dL_plays_92 : decode cL_plays 92 = .ok (.ishr, 1) := by decide +kernel
theorem dL_plays_93 : decode cL_plays 93 = .ok (.iconst 3, 1) := by decide +kernel
theorem dL_plays_94 : decode cL_plays 94 = .ok (.invokestatic 9, 3) := by decide +kernel
theorem dL_plays_97 : decode cL_plays 97 = .ok (.iadd, 1) := by decide +kernel
theorem dL_plays_98 : decode cL_plays 98 = .ok (.invokevirtual 92, 3) := by decide +kernel
theorem dL_plays_101 : decode cL_plays 101 = .ok (.pop, 1) := by decide +kernel
theorem dL_plays_102 : decode cL_plays 102 = .ok (.aload_n 0, 1) := by decide +kernel
theorem dL_plays_103 : decode cL_plays 103 = .ok (.bipush 44, 2) := by decide +kernel
theorem dL_plays_105 : decode cL_plays 105 = .ok (.invokevirtual 92, 3) := by decide +kernel
theorem dL_plays_108 : decode cL_plays 108 = .ok (.pop, 1) := by decide +kernel
theorem dL_plays_109 : decode cL_plays 109 = .ok (.aload_n 0, 1) := by decide +kernel
theorem dL_plays_110 : decode cL_plays 110 = .ok (.bipush 48, 2) := by decide +kernel
theorem dL_plays_112 : decode cL_plays 112 = .ok (.iload_n 2, 1) := by decide +kernel
theorem dL_plays_113 : decode cL_plays 113 = .ok (.bipush 14, 2) := by decide +kernel
theorem dL_plays_115 : decode cL_plays 115 = .ok (.ishr, 1) := by decide +kernel
theorem dL_plays_116 : decode cL_plays 116 = .ok (.bipush 6, 2) := by decide +kernel
theorem dL_plays_118 : decode cL_plays 118 = .ok (.invokestatic 9, 3) := by decide +kernel
theorem dL_plays_121 : decode cL_plays 121 = .ok (.iadd, 1) := by decide +kernel
theorem dL_plays_122 : decode cL_plays 122 = .ok (.invokevirtual 92, 3) := by decide +kernel
theorem dL_plays_125 : decode cL_plays 125 = .ok (.pop, 1) := by decide +kernel
theorem dL_plays_126 : decode cL_plays 126 = .ok (.aload_n 0, 1) := by decide +kernel
theorem dL_plays_127 : decode cL_plays 127 = .ok (.bipush 44, 2) := by decide +kernel
theorem dL_plays_129 : decode cL_plays 129 = .ok (.invokevirtual 92, 3) := by decide +kernel
theorem dL_plays_132 : decode cL_plays 132 = .ok (.pop, 1) := by decide +kernel
theorem dL_plays_133 : decode cL_plays 133 = .ok (.iload 4, 2) := by decide +kernel
theorem dL_plays_135 : decode cL_plays 135 = .ok (.bipush 6, 2) := by decide +kernel
theorem dL_plays_137 : decode cL_plays 137 = .ok (.if_icmp .ne 34, 3) := by decide +kernel
theorem dL_plays_140 : decode cL_plays 140 = .ok (.aload_n 0, 1) := by decide +kernel
theorem dL_plays_141 : decode cL_plays 141 = .ok (.bipush 48, 2) := by decide +kernel
theorem dL_plays_143 : decode cL_plays 143 = .ok (.iload_n 2, 1) := by decide +kernel
theorem dL_plays_144 : decode cL_plays 144 = .ok (.bipush 12, 2) := by decide +kernel
theorem dL_plays_146 : decode cL_plays 146 = .ok (.ishr, 1) := by decide +kernel
theorem dL_plays_147 : decode cL_plays 147 = .ok (.iload_n 2, 1) := by decide +kernel
theorem dL_plays_148 : decode cL_plays 148 = .ok (.iconst 5, 1) := by decide +kernel
theorem dL_plays_149 : decode cL_plays 149 = .ok (.invokestatic 9, 3) := by decide +kernel
theorem dL_plays_152 : decode cL_plays 152 = .ok (.ifCond .ne 7, 3) := by decide +kernel
theorem dL_plays_155 : decode cL_plays 155 = .ok (.iconst 5, 1) := by decide +kernel
theorem dL_plays_156 : decode cL_plays 156 = .ok (.goto 4, 3) := by decide +kernel
theorem dL_plays_159 : decode cL_plays 159 = .ok (.iconst 3, 1) := by decide +kernel
theorem dL_plays_160 : decode cL_plays 160 = .ok (.invokestatic 9, 3) := by decide +kernel
theorem dL_plays_163 : decode cL_plays 163 = .ok (.iadd, 1) := by decide +kernel
theorem dL_plays_164 : decode cL_plays 164 = .ok (.invokevirtual 92, 3) := by decide +kernel
theorem dL_plays_167 : decode cL_plays 167 = .ok (.pop, 1) := by decide +kernel
theorem dL_plays_168 : decode cL_plays 168 = .ok (.goto 46, 3) := by decide +kernel
theorem dL_plays_171 : decode cL_plays 171 = .ok (.aload_n 0, 1) := by decide +kernel
theorem dL_plays_172 : decode cL_plays 172 = .ok (.bipush 97, 2) := by decide +kernel
theorem dL_plays_174 : decode cL_plays 174 = .ok (.iload_n 2, 1) := by decide +kernel
theorem dL_plays_175 : decode cL_plays 175 = .ok (.bipush 17, 2) := by decide +kernel
theorem dL_plays_177 : decode cL_plays 177 = .ok (.ishr, 1) := by decide +kernel
theorem dL_plays_178 : decode cL_plays 178 = .ok (.iconst 3, 1) := by decide +kernel
theorem dL_plays_179 : decode cL_plays 179 = .ok (.invokestatic 9, 3) := by decide +kernel
theorem dL_plays_182 : decode cL_plays 182 = .ok (.iadd, 1) := by decide +kernel
theorem dL_plays_183 : decode cL_plays 183 = .ok (.invokevirtual 92, 3) := by decide +kernel
theorem dL_plays_186 : decode cL_plays 186 = .ok (.pop, 1) := by decide +kernel
theorem dL_plays_187 : decode cL_plays 187 = .ok (.iload_n 2, 1) := by decide +kernel
theorem dL_plays_188 : decode cL_plays 188 = .ok (.bipush 19, 2) := by decide +kernel
theorem dL_plays_190 : decode cL_plays 190 = .ok (.ishr, 1) := by decide +kernel
theorem dL_plays_191 : decode cL_plays 191 = .ok (.iconst 2, 1) := by decide +kernel
theorem dL_plays_192 : decode cL_plays 192 = .ok (.invokestatic 9, 3) := by decide +kernel
theorem dL_plays_195 : decode cL_plays 195 = .ok (.ifCond .ne 19, 3) := by decide +kernel
theorem dL_plays_198 : decode cL_plays 198 = .ok (.aload_n 0, 1) := by decide +kernel
theorem dL_plays_199 : decode cL_plays 199 = .ok (.bipush 97, 2) := by decide +kernel
theorem dL_plays_201 : decode cL_plays 201 = .ok (.iload_n 2, 1) := by decide +kernel
theorem dL_plays_202 : decode cL_plays 202 = .ok (.bipush 20, 2) := by decide +kernel
theorem dL_plays_204 : decode cL_plays 204 = .ok (.ishr, 1) := by decide +kernel
theorem dL_plays_205 : decode cL_plays 205 = .ok (.iconst 2, 1) := by decide +kernel
theorem dL_plays_206 : decode cL_plays 206 = .ok (.invokestatic 9, 3) := by decide +kernel
theorem dL_plays_209 : decode cL_plays 209 = .ok (.iadd, 1) := by decide +kernel
theorem dL_plays_210 : decode cL_plays 210 = .ok (.invokevirtual 92, 3) := by decide +kernel
theorem dL_plays_213 : decode cL_plays 213 = .ok (.pop, 1) := by decide +kernel
theorem dL_plays_214 : decode cL_plays 214 = .ok (.iload_n 2, 1) := by decide +kernel
theorem dL_plays_215 : decode cL_plays 215 = .ok (.bipush 22, 2) := by decide +kernel
theorem dL_plays_217 : decode cL_plays 217 = .ok (.ishr, 1) := by decide +kernel
theorem dL_plays_218 : decode cL_plays 218 = .ok (.bipush 20, 2) := by decide +kernel
theorem dL_plays_220 : decode cL_plays 220 = .ok (.invokestatic 9, 3) := by decide +kernel
theorem dL_plays_223 : decode cL_plays 223 = .ok (.ifCond .le 10, 3) := by decide +kernel
theorem dL_plays_226 : decode cL_plays 226 = .ok (.aload_n 0, 1) := by decide +kernel
theorem dL_plays_227 : decode cL_plays 227 = .ok (.bipush 59, 2) := by decide +kernel
theorem dL_plays_229 : decode cL_plays 229 = .ok (.invokevirtual 92, 3) := by decide +kernel
theorem dL_plays_232 : decode cL_plays 232 = .ok (.pop, 1) := by decide +kernel
theorem dL_plays_233 : decode cL_plays 233 = .ok (.iinc 3 1, 3) := by decide +kernel
theorem dL_plays_236 : decode cL_plays 236 = .ok (.goto (-227), 3) := by decide +kernel
theorem dL_plays_239 : decode cL_plays 239 = .ok (.aload_n 0, 1) := by decide +kernel
theorem dL_plays_240 : decode cL_plays 240 = .ok (.iconst 0, 1) := by decide +kernel
theorem dL_plays_241 : decode cL_plays 241 = .ok (.invokevirtual 95, 3) := by decide +kernel
theorem dL_plays_244 : decode cL_plays 244 = .ok (.istore_n 3, 1) := by decide +kernel
theorem dL_plays_245 : decode cL_plays 245 = .ok (.aload_n 0, 1) := by decide +kernel
theorem dL_plays_246 : decode cL_plays 246 = .ok (.iconst 1, 1) := by decide +kernel
theorem dL_plays_247 : decode cL_plays 247 = .ok (.invokevirtual 95, 3) := by decide +kernel
theorem dL_plays_250 : decode cL_plays 250 = .ok (.istore 4, 2) := by decide +kernel
theorem dL_plays_252 : decode cL_plays 252 = .ok (.aload_n 0, 1) := by decide +kernel
theorem dL_plays_253 : decode cL_plays 253 = .ok (.invokevirtual 98, 3) := by decide +kernel
theorem dL_plays_256 : decode cL_plays 256 = .ok (.istore 5, 2) := by decide +kernel
theorem dL_plays_258 : decode cL_plays 258 = .ok (.iload_n 3, 1) := by decide +kernel
theorem dL_plays_259 : decode cL_plays 259 = .ok (.ldc 37, 2) := by decide +kernel
theorem dL_plays_261 : decode cL_plays 261 = .ok (.if_icmp .ne 23, 3) := by decide +kernel
theorem dL_plays_264 : decode cL_plays 264 = .ok (.iload 4, 2) := by decide +kernel
theorem dL_plays_266 : decode cL_plays 266 = .ok (.ldc 37, 2) := by decide +kernel
theorem dL_plays_268 : decode cL_plays 268 = .ok (.if_icmp .ne 12, 3) := by decide +kernel
theorem dL_plays_271 : decode cL_plays 271 = .ok (.iload 5, 2) := by decide +kernel
theorem dL_plays_273 : decode cL_plays 273 = .ok (.ifCond .lt 7, 3) := by decide +kernel
theorem dL_plays_276 : decode cL_plays 276 = .ok (.iconst 1, 1) := by decide +kernel
theorem dL_plays_277 : decode cL_plays 277 = .ok (.goto 73, 3) := by decide +kernel
theorem dL_plays_280 : decode cL_plays 280 = .ok (.iconst 0, 1) := by decide +kernel
theorem dL_plays_281 : decode cL_plays 281 = .ok (.goto 69, 3) := by decide +kernel
theorem dL_plays_284 : decode cL_plays 284 = .ok (.iload_n 3, 1) := by decide +kernel
theorem dL_plays_285 : decode cL_plays 285 = .ok (.ifCond .lt 64, 3) := by decide +kernel
theorem dL_plays_288 : decode cL_plays 288 = .ok (.iload_n 3, 1) := by decide +kernel
theorem dL_plays_289 : decode cL_plays 289 = .ok (.aload_n 0, 1) := by decide +kernel
theorem dL_plays_290 : decode cL_plays 290 = .ok (.bipush 10, 2) := by decide +kernel
theorem dL_plays_292 : decode cL_plays 292 = .ok (.invokevirtual 21, 3) := by decide +kernel
theorem dL_plays_295 : decode cL_plays 295 = .ok (.if_icmp .ge 54, 3) := by decide +kernel
theorem dL_plays_298 : decode cL_plays 298 = .ok (.iload 4, 2) := by decide +kernel
theorem dL_plays_300 : decode cL_plays 300 = .ok (.ifCond .le 49, 3) := by decide +kernel
theorem dL_plays_303 : decode cL_plays 303 = .ok (.iload 4, 2) := by decide +kernel
theorem dL_plays_305 : decode cL_plays 305 = .ok (.iconst 4, 1) := by decide +kernel
theorem dL_plays_306 : decode cL_plays 306 = .ok (.if_icmp .ge 43, 3) := by decide +kernel
theorem dL_plays_309 : decode cL_plays 309 = .ok (.iload 5, 2) := by decide +kernel
theorem dL_plays_311 : decode cL_plays 311 = .ok (.ldc 101, 2) := by decide +kernel
theorem dL_plays_313 : decode cL_plays 313 = .ok (.if_icmp .ne 36, 3) := by decide +kernel
theorem dL_plays_316 : decode cL_plays 316 = .ok (.aload_n 0, 1) := by decide +kernel
theorem dL_plays_317 : decode cL_plays 317 = .ok (.iconst 2, 1) := by decide +kernel
theorem dL_plays_318 : decode cL_plays 318 = .ok (.invokevirtual 95, 3) := by decide +kernel
theorem dL_plays_321 : decode cL_plays 321 = .ok (.ldc 37, 2) := by decide +kernel
theorem dL_plays_323 : decode cL_plays 323 = .ok (.if_icmp .ne 7, 3) := by decide +kernel
theorem dL_plays_326 : decode cL_plays 326 = .ok (.iconst 1, 1) := by decide +kernel
theorem dL_plays_327 : decode cL_plays 327 = .ok (.goto 4, 3) := by decide +kernel
theorem dL_plays_330 : decode cL_plays 330 = .ok (.iconst 0, 1) := by decide +kernel
theorem dL_plays_331 : decode cL_plays 331 = .ok (.iload 4, 2) := by decide +kernel
theorem dL_plays_333 : decode cL_plays 333 = .ok (.iconst 3, 1) := by decide +kernel
theorem dL_plays_334 : decode cL_plays 334 = .ok (.if_icmp .ne 7, 3) := by decide +kernel
theorem dL_plays_337 : decode cL_plays 337 = .ok (.iconst 1, 1) := by decide +kernel
theorem dL_plays_338 : decode cL_plays 338 = .ok (.goto 4, 3) := by decide +kernel
theorem dL_plays_341 : decode cL_plays 341 = .ok (.iconst 0, 1) := by decide +kernel
theorem dL_plays_342 : decode cL_plays 342 = .ok (.if_icmp .ne 7, 3) := by decide +kernel
theorem dL_plays_345 : decode cL_plays 345 = .ok (.iconst 1, 1) := by decide +kernel
theorem dL_plays_346 : decode cL_plays 346 = .ok (.goto 4, 3) := by decide +kernel
theorem dL_plays_349 : decode cL_plays 349 = .ok (.iconst 0, 1) := by decide +kernel
theorem dL_plays_350 : decode cL_plays 350 = .ok (.istore 6, 2) := by decide +kernel
theorem dL_plays_352 : decode cL_plays 352 = .ok (.iload 6, 2) := by decide +kernel
theorem dL_plays_354 : decode cL_plays 354 = .ok (.ifCond .eq 8, 3) := by decide +kernel
theorem dL_plays_357 : decode cL_plays 357 = .ok (.iload 5, 2) := by decide +kernel
theorem dL_plays_359 : decode cL_plays 359 = .ok (.goto 5, 3) := by decide +kernel
theorem dL_plays_362 : decode cL_plays 362 = .ok (.ldc 102, 2) := by decide +kernel
theorem dL_plays_364 : decode cL_plays 364 = .ok (.ireturn, 1) := by decide +kernel
