theorem dL_goes_0 : decode cL_goes 0 = .ok (.iload_n 1, 1) := by decide +kernel
theorem dL_goes_1 : decode cL_goes 1 = .ok (.bipush 14, 2) := by decide +kernel
theorem dL_goes_3 : decode cL_goes 3 = .ok (.invokestatic 9, 3) := by decide +kernel
theorem dL_goes_6 : decode cL_goes 6 = .ok (.tableswitch 168 0 12 #[66, 66, 66, 66, 66, 91, 101, 101, 101, 111, 111, 137, 158], 66) := by decide +kernel
theorem dL_goes_72 : decode cL_goes 72 = .ok (.aload_n 0, 1) := by decide +kernel
theorem dL_goes_73 : decode cL_goes 73 = .ok (.iload_n 2, 1) := by decide +kernel
theorem dL_goes_74 : decode cL_goes 74 = .ok (.bipush 11, 2) := by decide +kernel
theorem dL_goes_76 : decode cL_goes 76 = .ok (.ishr, 1) := by decide +kernel
theorem dL_goes_77 : decode cL_goes 77 = .ok (.bipush 30, 2) := by decide +kernel
theorem dL_goes_79 : decode cL_goes 79 = .ok (.invokestatic 9, 3) := by decide +kernel
theorem dL_goes_82 : decode cL_goes 82 = .ok (.ifCond .ne 7, 3) := by decide +kernel
theorem dL_goes_85 : decode cL_goes 85 = .ok (.iload_n 2, 1) := by decide +kernel
theorem dL_goes_86 : decode cL_goes 86 = .ok (.goto 7, 3) := by decide +kernel
theorem dL_goes_89 : decode cL_goes 89 = .ok (.iload_n 2, 1) := by decide +kernel
theorem dL_goes_90 : decode cL_goes 90 = .ok (.invokestatic 103, 3) := by decide +kernel
theorem dL_goes_93 : decode cL_goes 93 = .ok (.invokevirtual 106, 3) := by decide +kernel
theorem dL_goes_96 : decode cL_goes 96 = .ok (.ireturn, 1) := by decide +kernel
theorem dL_goes_97 : decode cL_goes 97 = .ok (.aload_n 0, 1) := by decide +kernel
theorem dL_goes_98 : decode cL_goes 98 = .ok (.aload_n 0, 1) := by decide +kernel
theorem dL_goes_99 : decode cL_goes 99 = .ok (.iload_n 2, 1) := by decide +kernel
theorem dL_goes_100 : decode cL_goes 100 = .ok (.invokestatic 109, 3) := by decide +kernel
theorem dL_goes_103 : decode cL_goes 103 = .ok (.invokevirtual 113, 3) := by decide +kernel
theorem dL_goes_106 : decode cL_goes 106 = .ok (.ireturn, 1) := by decide +kernel
theorem dL_goes_107 : decode cL_goes 107 = .ok (.aload_n 0, 1) := by decide +kernel
theorem dL_goes_108 : decode cL_goes 108 = .ok (.aload_n 0, 1) := by decide +kernel
theorem dL_goes_109 : decode cL_goes 109 = .ok (.iload_n 2, 1) := by decide +kernel
theorem dL_goes_110 : decode cL_goes 110 = .ok (.invokestatic 109, 3) := by decide +kernel
theorem dL_goes_113 : decode cL_goes 113 = .ok (.invokevirtual 116, 3) := by decide +kernel
theorem dL_goes_116 : decode cL_goes 116 = .ok (.ireturn, 1) := by decide +kernel
theorem dL_goes_117 : decode cL_goes 117 = .ok (.aload_n 0, 1) := by decide +kernel
theorem dL_goes_118 : decode cL_goes 118 = .ok (.iload_n 1, 1) := by decide +kernel
theorem dL_goes_119 : decode cL_goes 119 = .ok (.iconst 5, 1) := by decide +kernel
theorem dL_goes_120 : decode cL_goes 120 = .ok (.ishr, 1) := by decide +kernel
theorem dL_goes_121 : decode cL_goes 121 = .ok (.iconst 3, 1) := by decide +kernel
theorem dL_goes_122 : decode cL_goes 122 = .ok (.invokestatic 70, 3) := by decide +kernel
theorem dL_goes_125 : decode cL_goes 125 = .ok (.iload_n 1, 1) := by decide +kernel
theorem dL_goes_126 : decode cL_goes 126 = .ok (.bipush 9, 2) := by decide +kernel
theorem dL_goes_128 : decode cL_goes 128 = .ok (.ishr, 1) := by decide +kernel
theorem dL_goes_129 : decode cL_goes 129 = .ok (.bipush 6, 2) := by decide +kernel
theorem dL_goes_131 : decode cL_goes 131 = .ok (.invokestatic 70, 3) := by decide +kernel
theorem dL_goes_134 : decode cL_goes 134 = .ok (.aload_n 0, 1) := by decide +kernel
theorem dL_goes_135 : decode cL_goes 135 = .ok (.iload_n 2, 1) := by decide +kernel
theorem dL_goes_136 : decode cL_goes 136 = .ok (.invokestatic 109, 3) := by decide +kernel
theorem dL_goes_139 : decode cL_goes 139 = .ok (.invokevirtual 119, 3) := by decide +kernel
theorem dL_goes_142 : decode cL_goes 142 = .ok (.ireturn, 1) := by decide +kernel
theorem dL_goes_143 : decode cL_goes 143 = .ok (.aload_n 0, 1) := by decide +kernel
theorem dL_goes_144 : decode cL_goes 144 = .ok (.iload_n 1, 1) := by decide +kernel
theorem dL_goes_145 : decode cL_goes 145 = .ok (.iconst 5, 1) := by decide +kernel
theorem dL_goes_146 : decode cL_goes 146 = .ok (.ishr, 1) := by decide +kernel
theorem dL_goes_147 : decode cL_goes 147 = .ok (.iconst 3, 1) := by decide +kernel
theorem dL_goes_148 : decode cL_goes 148 = .ok (.invokestatic 70, 3) := by decide +kernel
theorem dL_goes_151 : decode cL_goes 151 = .ok (.iload_n 1, 1) := by decide +kernel
theorem dL_goes_152 : decode cL_goes 152 = .ok (.bipush 9, 2) := by decide +kernel
theorem dL_goes_154 : decode cL_goes 154 = .ok (.ishr, 1) := by decide +kernel
theorem dL_goes_155 : decode cL_goes 155 = .ok (.bipush 6, 2) := by decide +kernel
theorem dL_goes_157 : decode cL_goes 157 = .ok (.invokestatic 70, 3) := by decide +kernel
theorem dL_goes_160 : decode cL_goes 160 = .ok (.invokevirtual 123, 3) := by decide +kernel
theorem dL_goes_163 : decode cL_goes 163 = .ok (.ireturn, 1) := by decide +kernel
theorem dL_goes_164 : decode cL_goes 164 = .ok (.aload_n 0, 1) := by decide +kernel
theorem dL_goes_165 : decode cL_goes 165 = .ok (.iload_n 2, 1) := by decide +kernel
theorem dL_goes_166 : decode cL_goes 166 = .ok (.iconst 3, 1) := by decide +kernel
theorem dL_goes_167 : decode cL_goes 167 = .ok (.invokestatic 70, 3) := by decide +kernel
theorem dL_goes_170 : decode cL_goes 170 = .ok (.invokevirtual 126, 3) := by decide +kernel
theorem dL_goes_173 : decode cL_goes 173 = .ok (.ireturn, 1) := by decide +kernel
theorem dL_goes_174 : decode cL_goes 174 = .ok (.aload_n 0, 1) := by decide +kernel
theorem dL_goes_175 : decode cL_goes 175 = .ok (.iload_n 2, 1) := by decide +kernel
theorem dL_goes_176 : decode cL_goes 176 = .ok (.invokestatic 129, 3) := by decide +kernel
theorem dL_goes_179 : decode cL_goes 179 = .ok (.ireturn, 1) := by decide +kernel
