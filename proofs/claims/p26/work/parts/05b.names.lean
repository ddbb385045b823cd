set_option maxRecDepth 20000 in
theorem ggL_tagsFit_X3_why : GoodIn wsL_tagsFit wsX3_why := goodIn_r _ [7, 8, 9, 10, 11, 12, 13, 14, 15, 16, 17, 18, 19, 20, 21, 6, 22, 75, 76, 77, 78, 79, 80, 81, 82, 83, 84, 85, 86, 87, 88, 89, 90, 91, 92, 93, 94] (by decide +kernel) (by decide +kernel)
set_option maxRecDepth 20000 in
theorem gL_tagsFit_X3_why : GoodIn wsL_tagsFit (wsV RL 42 RX3 yX3_why wsX3_why) := goodIn_app (goodIn_of _ (by decide +kernel)) ggL_tagsFit_X3_why
set_option maxRecDepth 20000 in
theorem ggL_tagsFit_X3_follow : GoodIn wsL_tagsFit wsX3_follow := goodIn_r _ [26, 8, 27, 9, 10, 11, 12, 13, 14, 15, 16, 17, 18, 19, 20, 21, 6, 22, 28, 29, 30, 31, 32, 33, 34, 35, 75, 76, 77, 78, 79, 80, 81, 82, 83, 84, 85, 86, 87, 88, 89, 90, 91, 92, 93, 94] (by decide +kernel) (by decide +kernel)
set_option maxRecDepth 20000 in
theorem gL_tagsFit_X3_follow : GoodIn wsL_tagsFit (wsV RL 45 RX3 yX3_follow wsX3_follow) := goodIn_app (goodIn_of _ (by decide +kernel)) ggL_tagsFit_X3_follow
set_option maxRecDepth 20000 in
theorem ggL_tagsFit_X3_count : GoodIn wsL_tagsFit wsX3_count := goodIn_r _ [39, 8, 40, 41, 42, 43, 44, 45, 46, 47, 48, 49, 50, 51, 52, 53, 54, 12, 55, 19, 56, 57, 58, 59, 60, 61, 62, 63, 64, 65, 66, 67, 68, 69, 75, 76, 77, 78, 79, 80, 81, 82, 83, 84, 85, 86, 87, 88, 89, 90, 91, 92, 93, 94, 95, 96] (by decide +kernel) (by decide +kernel)
set_option maxRecDepth 20000 in
theorem gL_tagsFit_X3_count : GoodIn wsL_tagsFit (wsV RL 21 RX3 yX3_count wsX3_count) := goodIn_app (goodIn_of _ (by decide +kernel)) ggL_tagsFit_X3_count
set_option maxRecDepth 20000 in
theorem ggL_tagsFit_X3_nameOf : GoodIn wsL_tagsFit wsX3_nameOf := goodIn_r _ [73, 8, 27, 74, 9, 10, 11, 12, 13, 14, 15, 16, 17, 18, 19, 20, 21, 6, 22, 75, 76, 77, 78, 79, 80, 81, 82, 83, 84, 85, 86, 87, 88, 89, 90, 91, 92, 93, 94] (by decide +kernel) (by decide +kernel)
set_option maxRecDepth 20000 in
theorem gL_tagsFit_X3_nameOf : GoodIn wsL_tagsFit (wsV RL 48 RX3 yX3_nameOf wsX3_nameOf) := goodIn_app (goodIn_of _ (by decide +kernel)) ggL_tagsFit_X3_nameOf
theorem dL_tagsFit_0 : decode cL_tagsFit 0 = .ok (.aload_n 0, 1) := by decide +kernel
theorem dL_tagsFit_1 : decode cL_tagsFit 1 = .ok (.iload_n 1, 1) := by decide +kernel
theorem dL_tagsFit_2 : decode cL_tagsFit 2 = .ok (.invokevirtual 42, 3) := by decide +kernel
theorem dL_tagsFit_5 : decode cL_tagsFit 5 = .ok (.istore_n 2, 1) := by decide +kernel
theorem dL_tagsFit_6 : decode cL_tagsFit 6 = .ok (.aload_n 0, 1) := by decide +kernel
theorem dL_tagsFit_7 : decode cL_tagsFit 7 = .ok (.iload_n 1, 1) := by decide +kernel
theorem dL_tagsFit_8 : decode cL_tagsFit 8 = .ok (.invokevirtual 45, 3) := by decide +kernel
theorem dL_tagsFit_11 : decode cL_tagsFit 11 = .ok (.istore_n 3, 1) := by decide +kernel
theorem dL_tagsFit_12 : decode cL_tagsFit 12 = .ok (.iload_n 1, 1) := by decide +kernel
theorem dL_tagsFit_13 : decode cL_tagsFit 13 = .ok (.ifCond .lt 24, 3) := by decide +kernel
theorem dL_tagsFit_16 : decode cL_tagsFit 16 = .ok (.iload_n 1, 1) := by decide +kernel
theorem dL_tagsFit_17 : decode cL_tagsFit 17 = .ok (.bipush 100, 2) := by decide +kernel
theorem dL_tagsFit_19 : decode cL_tagsFit 19 = .ok (.irem, 1) := by decide +kernel
theorem dL_tagsFit_20 : decode cL_tagsFit 20 = .ok (.bipush 39, 2) := by decide +kernel
theorem dL_tagsFit_22 : decode cL_tagsFit 22 = .ok (.if_icmp .gt 15, 3) := by decide +kernel
theorem dL_tagsFit_25 : decode cL_tagsFit 25 = .ok (.iload_n 1, 1) := by decide +kernel
theorem dL_tagsFit_26 : decode cL_tagsFit 26 = .ok (.ldc 38, 2) := by decide +kernel
theorem dL_tagsFit_28 : decode cL_tagsFit 28 = .ok (.idiv, 1) := by decide +kernel
theorem dL_tagsFit_29 : decode cL_tagsFit 29 = .ok (.aload_n 0, 1) := by decide +kernel
theorem dL_tagsFit_30 : decode cL_tagsFit 30 = .ok (.iconst 3, 1) := by decide +kernel
theorem dL_tagsFit_31 : decode cL_tagsFit 31 = .ok (.invokevirtual 21, 3) := by decide +kernel
theorem dL_tagsFit_34 : decode cL_tagsFit 34 = .ok (.if_icmp .le 7, 3) := by decide +kernel
theorem dL_tagsFit_37 : decode cL_tagsFit 37 = .ok (.iconst 1, 1) := by decide +kernel
theorem dL_tagsFit_38 : decode cL_tagsFit 38 = .ok (.goto 4, 3) := by decide +kernel
theorem dL_tagsFit_41 : decode cL_tagsFit 41 = .ok (.iconst 0, 1) := by decide +kernel
theorem dL_tagsFit_42 : decode cL_tagsFit 42 = .ok (.istore 4, 2) := by decide +kernel
theorem dL_tagsFit_44 : decode cL_tagsFit 44 = .ok (.iload_n 2, 1) := by decide +kernel
theorem dL_tagsFit_45 : decode cL_tagsFit 45 = .ok (.ifCond .lt 58, 3) := by decide +kernel
theorem dL_tagsFit_48 : decode cL_tagsFit 48 = .ok (.iload_n 2, 1) := by decide +kernel
theorem dL_tagsFit_49 : decode cL_tagsFit 49 = .ok (.iconst 4, 1) := by decide +kernel
theorem dL_tagsFit_50 : decode cL_tagsFit 50 = .ok (.if_icmp .gt 53, 3) := by decide +kernel
theorem dL_tagsFit_53 : decode cL_tagsFit 53 = .ok (.iload_n 2, 1) := by decide +kernel
theorem dL_tagsFit_54 : decode cL_tagsFit 54 = .ok (.iconst 1, 1) := by decide +kernel
theorem dL_tagsFit_55 : decode cL_tagsFit 55 = .ok (.if_icmp .ne 7, 3) := by decide +kernel
theorem dL_tagsFit_58 : decode cL_tagsFit 58 = .ok (.iconst 1, 1) := by decide +kernel
theorem dL_tagsFit_59 : decode cL_tagsFit 59 = .ok (.goto 4, 3) := by decide +kernel
theorem dL_tagsFit_62 : decode cL_tagsFit 62 = .ok (.iconst 0, 1) := by decide +kernel
theorem dL_tagsFit_63 : decode cL_tagsFit 63 = .ok (.iload 4, 2) := by decide +kernel
theorem dL_tagsFit_65 : decode cL_tagsFit 65 = .ok (.if_icmp .ne 38, 3) := by decide +kernel
theorem dL_tagsFit_68 : decode cL_tagsFit 68 = .ok (.iload_n 2, 1) := by decide +kernel
theorem dL_tagsFit_69 : decode cL_tagsFit 69 = .ok (.ifCond .ne 7, 3) := by decide +kernel
theorem dL_tagsFit_72 : decode cL_tagsFit 72 = .ok (.iconst 1, 1) := by decide +kernel
theorem dL_tagsFit_73 : decode cL_tagsFit 73 = .ok (.goto 4, 3) := by decide +kernel
theorem dL_tagsFit_76 : decode cL_tagsFit 76 = .ok (.iconst 0, 1) := by decide +kernel
theorem dL_tagsFit_77 : decode cL_tagsFit 77 = .ok (.iload_n 3, 1) := by decide +kernel
theorem dL_tagsFit_78 : decode cL_tagsFit 78 = .ok (.ifCond .lt 7, 3) := by decide +kernel
theorem dL_tagsFit_81 : decode cL_tagsFit 81 = .ok (.iconst 1, 1) := by decide +kernel
theorem dL_tagsFit_82 : decode cL_tagsFit 82 = .ok (.goto 4, 3) := by decide +kernel
theorem dL_tagsFit_85 : decode cL_tagsFit 85 = .ok (.iconst 0, 1) := by decide +kernel
theorem dL_tagsFit_86 : decode cL_tagsFit 86 = .ok (.if_icmp .ne 17, 3) := by decide +kernel
theorem dL_tagsFit_89 : decode cL_tagsFit 89 = .ok (.iload_n 3, 1) := by decide +kernel
theorem dL_tagsFit_90 : decode cL_tagsFit 90 = .ok (.ifCond .ge 9, 3) := by decide +kernel
theorem dL_tagsFit_93 : decode cL_tagsFit 93 = .ok (.iload_n 3, 1) := by decide +kernel
theorem dL_tagsFit_94 : decode cL_tagsFit 94 = .ok (.ldc 16, 2) := by decide +kernel
theorem dL_tagsFit_96 : decode cL_tagsFit 96 = .ok (.if_icmp .ne 7, 3) := by decide +kernel
theorem dL_tagsFit_99 : decode cL_tagsFit 99 = .ok (.iconst 1, 1) := by decide +kernel
theorem dL_tagsFit_100 : decode cL_tagsFit 100 = .ok (.goto 4, 3) := by decide +kernel
theorem dL_tagsFit_103 : decode cL_tagsFit 103 = .ok (.iconst 0, 1) := by decide +kernel
theorem dL_tagsFit_104 : decode cL_tagsFit 104 = .ok (.istore 5, 2) := by decide +kernel
theorem dL_tagsFit_106 : decode cL_tagsFit 106 = .ok (.iload 5, 2) := by decide +kernel
theorem dL_tagsFit_108 : decode cL_tagsFit 108 = .ok (.ifCond .eq 74, 3) := by decide +kernel
theorem dL_tagsFit_111 : decode cL_tagsFit 111 = .ok (.aload_n 0, 1) := by decide +kernel
theorem dL_tagsFit_112 : decode cL_tagsFit 112 = .ok (.iload_n 1, 1) := by decide +kernel
theorem dL_tagsFit_113 : decode cL_tagsFit 113 = .ok (.invokevirtual 48, 3) := by decide +kernel
theorem dL_tagsFit_116 : decode cL_tagsFit 116 = .ok (.ifCond .lt 7, 3) := by decide +kernel
theorem dL_tagsFit_119 : decode cL_tagsFit 119 = .ok (.iconst 1, 1) := by decide +kernel
theorem dL_tagsFit_120 : decode cL_tagsFit 120 = .ok (.goto 4, 3) := by decide +kernel
theorem dL_tagsFit_123 : decode cL_tagsFit 123 = .ok (.iconst 0, 1) := by decide +kernel
theorem dL_tagsFit_124 : decode cL_tagsFit 124 = .ok (.iload_n 2, 1) := by decide +kernel
theorem dL_tagsFit_125 : decode cL_tagsFit 125 = .ok (.ifCond .ne 7, 3) := by decide +kernel
theorem dL_tagsFit_128 : decode cL_tagsFit 128 = .ok (.iconst 1, 1) := by decide +kernel
theorem dL_tagsFit_129 : decode cL_tagsFit 129 = .ok (.goto 4, 3) := by decide +kernel
theorem dL_tagsFit_132 : decode cL_tagsFit 132 = .ok (.iconst 0, 1) := by decide +kernel
theorem dL_tagsFit_133 : decode cL_tagsFit 133 = .ok (.if_icmp .ne 49, 3) := by decide +kernel
theorem dL_tagsFit_136 : decode cL_tagsFit 136 = .ok (.iload 4, 2) := by decide +kernel
theorem dL_tagsFit_138 : decode cL_tagsFit 138 = .ok (.ifCond .ne 40, 3) := by decide +kernel
theorem dL_tagsFit_141 : decode cL_tagsFit 141 = .ok (.iload_n 2, 1) := by decide +kernel
theorem dL_tagsFit_142 : decode cL_tagsFit 142 = .ok (.iconst 2, 1) := by decide +kernel
theorem dL_tagsFit_143 : decode cL_tagsFit 143 = .ok (.if_icmp .ne 7, 3) := by decide +kernel
theorem dL_tagsFit_146 : decode cL_tagsFit 146 = .ok (.iconst 1, 1) := by decide +kernel
theorem dL_tagsFit_147 : decode cL_tagsFit 147 = .ok (.goto 4, 3) := by decide +kernel
theorem dL_tagsFit_150 : decode cL_tagsFit 150 = .ok (.iconst 0, 1) := by decide +kernel
theorem dL_tagsFit_151 : decode cL_tagsFit 151 = .ok (.iload_n 1, 1) := by decide +kernel
theorem dL_tagsFit_152 : decode cL_tagsFit 152 = .ok (.ldc 38, 2) := by decide +kernel
theorem dL_tagsFit_154 : decode cL_tagsFit 154 = .ok (.idiv, 1) := by decide +kernel
theorem dL_tagsFit_155 : decode cL_tagsFit 155 = .ok (.aload_n 0, 1) := by decide +kernel
theorem dL_tagsFit_156 : decode cL_tagsFit 156 = .ok (.iconst 3, 1) := by decide +kernel
theorem dL_tagsFit_157 : decode cL_tagsFit 157 = .ok (.invokevirtual 21, 3) := by decide +kernel
theorem dL_tagsFit_160 : decode cL_tagsFit 160 = .ok (.aload_n 0, 1) := by decide +kernel
theorem dL_tagsFit_161 : decode cL_tagsFit 161 = .ok (.bipush 8, 2) := by decide +kernel
theorem dL_tagsFit_163 : decode cL_tagsFit 163 = .ok (.invokevirtual 21, 3) := by decide +kernel
theorem dL_tagsFit_166 : decode cL_tagsFit 166 = .ok (.isub, 1) := by decide +kernel
theorem dL_tagsFit_167 : decode cL_tagsFit 167 = .ok (.if_icmp .ge 7, 3) := by decide +kernel
theorem dL_tagsFit_170 : decode cL_tagsFit 170 = .ok (.iconst 1, 1) := by decide +kernel
theorem dL_tagsFit_171 : decode cL_tagsFit 171 = .ok (.goto 4, 3) := by decide +kernel
theorem dL_tagsFit_174 : decode cL_tagsFit 174 = .ok (.iconst 0, 1) := by decide +kernel
theorem dL_tagsFit_175 : decode cL_tagsFit 175 = .ok (.if_icmp .ne 7, 3) := by decide +kernel
theorem dL_tagsFit_178 : decode cL_tagsFit 178 = .ok (.iconst 1, 1) := by decide +kernel
theorem dL_tagsFit_179 : decode cL_tagsFit 179 = .ok (.goto 4, 3) := by decide +kernel
theorem dL_tagsFit_182 : decode cL_tagsFit 182 = .ok (.iconst 0, 1) := by decide +kernel
theorem dL_tagsFit_183 : decode cL_tagsFit 183 = .ok (.istore 5, 2) := by decide +kernel
theorem dL_tagsFit_185 : decode cL_tagsFit 185 = .ok (.iload 5, 2) := by decide +kernel
theorem dL_tagsFit_187 : decode cL_tagsFit 187 = .ok (.ifCond .eq 55, 3) := by decide +kernel
theorem dL_tagsFit_190 : decode cL_tagsFit 190 = .ok (.iload_n 2, 1) := by decide +kernel
theorem dL_tagsFit_191 : decode cL_tagsFit 191 = .ok (.ifCond .ne 37, 3) := by decide +kernel
theorem dL_tagsFit_194 : decode cL_tagsFit 194 = .ok (.iload_n 3, 1) := by decide +kernel
theorem dL_tagsFit_195 : decode cL_tagsFit 195 = .ok (.ldc 38, 2) := by decide +kernel
theorem dL_tagsFit_197 : decode cL_tagsFit 197 = .ok (.idiv, 1) := by decide +kernel
theorem dL_tagsFit_198 : decode cL_tagsFit 198 = .ok (.aload_n 0, 1) := by decide +kernel
theorem dL_tagsFit_199 : decode cL_tagsFit 199 = .ok (.iconst 3, 1) := by decide +kernel
theorem dL_tagsFit_200 : decode cL_tagsFit 200 = .ok (.invokevirtual 21, 3) := by decide +kernel
theorem dL_tagsFit_203 : decode cL_tagsFit 203 = .ok (.if_icmp .ne 39, 3) := by decide +kernel
theorem dL_tagsFit_206 : decode cL_tagsFit 206 = .ok (.aload_n 0, 1) := by decide +kernel
theorem dL_tagsFit_207 : decode cL_tagsFit 207 = .ok (.iload_n 3, 1) := by decide +kernel
theorem dL_tagsFit_208 : decode cL_tagsFit 208 = .ok (.invokevirtual 45, 3) := by decide +kernel
theorem dL_tagsFit_211 : decode cL_tagsFit 211 = .ok (.iload_n 3, 1) := by decide +kernel
theorem dL_tagsFit_212 : decode cL_tagsFit 212 = .ok (.if_icmp .ne 30, 3) := by decide +kernel
theorem dL_tagsFit_215 : decode cL_tagsFit 215 = .ok (.aload_n 0, 1) := by decide +kernel
theorem dL_tagsFit_216 : decode cL_tagsFit 216 = .ok (.iload_n 3, 1) := by decide +kernel
theorem dL_tagsFit_217 : decode cL_tagsFit 217 = .ok (.invokevirtual 48, 3) := by decide +kernel
theorem dL_tagsFit_220 : decode cL_tagsFit 220 = .ok (.aload_n 0, 1) := by decide +kernel
theorem dL_tagsFit_221 : decode cL_tagsFit 221 = .ok (.iload_n 1, 1) := by decide +kernel
theorem dL_tagsFit_222 : decode cL_tagsFit 222 = .ok (.invokevirtual 48, 3) := by decide +kernel
theorem dL_tagsFit_225 : decode cL_tagsFit 225 = .ok (.if_icmp .ne 17, 3) := by decide +kernel
theorem dL_tagsFit_228 : decode cL_tagsFit 228 = .ok (.iload_n 2, 1) := by decide +kernel
theorem dL_tagsFit_229 : decode cL_tagsFit 229 = .ok (.iconst 4, 1) := by decide +kernel
theorem dL_tagsFit_230 : decode cL_tagsFit 230 = .ok (.if_icmp .ne 8, 3) := by decide +kernel
theorem dL_tagsFit_233 : decode cL_tagsFit 233 = .ok (.iload 4, 2) := by decide +kernel
theorem dL_tagsFit_235 : decode cL_tagsFit 235 = .ok (.ifCond .ne 7, 3) := by decide +kernel
theorem dL_tagsFit_238 : decode cL_tagsFit 238 = .ok (.iconst 1, 1) := by decide +kernel
theorem dL_tagsFit_239 : decode cL_tagsFit 239 = .ok (.goto 4, 3) := by decide +kernel
theorem dL_tagsFit_242 : decode cL_tagsFit 242 = .ok (.iconst 0, 1) := by decide +kernel
theorem dL_tagsFit_243 : decode cL_tagsFit 243 = .ok (.ireturn, 1) := by decide +kernel
