theorem dX4_does_157 : decode cX4_does 157 = .ok (.iload_n 3, 1) := by decide +kernel
theorem dX4_does_158 : decode cX4_does 158 = .ok (.ifCond .eq 25, 3) := by decide +kernel
theorem dX4_does_161 : decode cX4_does 161 = .ok (.aload_n 0, 1) := by decide +kernel
theorem dX4_does_162 : decode cX4_does 162 = .ok (.bipush 6, 2) := by decide +kernel
theorem dX4_does_164 : decode cX4_does 164 = .ok (.aload_n 0, 1) := by decide +kernel
theorem dX4_does_165 : decode cX4_does 165 = .ok (.getfield 28, 3) := by decide +kernel
theorem dX4_does_168 : decode cX4_does 168 = .ok (.iconst 0, 1) := by decide +kernel
theorem dX4_does_169 : decode cX4_does 169 = .ok (.iaload, 1) := by decide +kernel
theorem dX4_does_170 : decode cX4_does 170 = .ok (.imul, 1) := by decide +kernel
theorem dX4_does_171 : decode cX4_does 171 = .ok (.aload_n 0, 1) := by decide +kernel
theorem dX4_does_172 : decode cX4_does 172 = .ok (.getfield 28, 3) := by decide +kernel
theorem dX4_does_175 : decode cX4_does 175 = .ok (.iconst 1, 1) := by decide +kernel
theorem dX4_does_176 : decode cX4_does 176 = .ok (.iaload, 1) := by decide +kernel
theorem dX4_does_177 : decode cX4_does 177 = .ok (.iadd, 1) := by decide +kernel
theorem dX4_does_178 : decode cX4_does 178 = .ok (.iload_n 2, 1) := by decide +kernel
theorem dX4_does_179 : decode cX4_does 179 = .ok (.invokevirtual 96, 3) := by decide +kernel
theorem dX4_does_182 : decode cX4_does 182 = .ok (.pop, 1) := by decide +kernel
theorem dX4_does_183 : decode cX4_does 183 = .ok (.iload_n 3, 1) := by decide +kernel
theorem dX4_does_184 : decode cX4_does 184 = .ok (.ireturn, 1) := by decide +kernel
set_option maxRecDepth 20000 in
theorem ggX4_doesAll_X4_letter : GoodIn wsX4_doesAll wsX4_letter := goodIn_r _ [10, 3, 11, 99, 100, 101, 102, 103, 104, 105, 106, 107, 108, 109, 110, 111, 112, 113, 114, 115] (by decide +kernel) (by decide +kernel)
set_option maxRecDepth 20000 in
theorem gX4_doesAll_X4_letter : GoodIn wsX4_doesAll (wsV RX4 137 RX4 yX4_letter wsX4_letter) := goodIn_app (goodIn_of _ (by decide +kernel)) ggX4_doesAll_X4_letter
set_option maxRecDepth 20000 in
theorem ggX4_doesAll_X4_reads : GoodIn wsX4_doesAll wsX4_reads := goodIn_r _ [15, 2, 6, 7, 8, 9, 10, 3, 11, 16, 17, 18, 19, 20, 21, 22, 23, 24, 25, 26, 27, 28, 29, 30, 31, 32, 33, 99, 100, 101, 102, 103, 104, 105, 106, 107, 108, 109, 110, 111, 112, 113, 114, 115] (by decide +kernel) (by decide +kernel)
set_option maxRecDepth 20000 in
theorem gX4_doesAll_X4_reads : GoodIn wsX4_doesAll (wsV RX4 162 RX4 yX4_reads wsX4_reads) := goodIn_app (goodIn_of _ (by decide +kernel)) ggX4_doesAll_X4_reads
set_option maxRecDepth 20000 in
theorem ggX4_doesAll_X4_wrong : GoodIn wsX4_doesAll wsX4_wrong := goodIn_r _ [37, 20, 32, 99, 100, 101, 102, 103, 104, 105, 106, 107, 108, 109, 110, 111, 112, 113, 114, 115] (by decide +kernel) (by decide +kernel)
set_option maxRecDepth 20000 in
theorem gX4_doesAll_X4_wrong : GoodIn wsX4_doesAll (wsV RX4 168 RX4 yX4_wrong wsX4_wrong) := goodIn_app (goodIn_of _ (by decide +kernel)) ggX4_doesAll_X4_wrong
set_option maxRecDepth 20000 in
theorem ggX4_doesAll_X4_does : GoodIn wsX4_doesAll wsX4_does := goodIn_r _ [41, 33, 42, 20, 43, 44, 45, 9, 46, 47, 48, 49, 50, 51, 52, 53, 54, 55, 56, 57, 58, 59, 60, 61, 62, 63, 64, 65, 66, 67, 68, 69, 70, 71, 72, 73, 74, 75, 76, 77, 78, 79, 80, 81, 82, 83, 84, 85, 86, 87, 88, 89, 90, 91, 92, 93, 94, 95, 96, 97, 98, 99, 100, 101, 102, 103, 104, 105, 106, 107, 108, 109, 110, 111, 112, 113, 114, 115] (by decide +kernel) (by decide +kernel)
set_option maxRecDepth 20000 in
theorem gX4_doesAll_X4_does : GoodIn wsX4_doesAll (wsV RX4 171 RX4 yX4_does wsX4_does) := goodIn_app (goodIn_of _ (by decide +kernel)) ggX4_doesAll_X4_does
theorem dX4_doesAll_0 : decode cX4_doesAll 0 = .ok (.iconst 0, 1) := by decide +kernel
theorem dX4_doesAll_1 : decode cX4_doesAll 1 = .ok (.istore_n 1, 1) := by decide +kernel
theorem dX4_doesAll_2 : decode cX4_doesAll 2 = .ok (.aload_n 0, 1) := by decide +kernel
theorem dX4_doesAll_3 : decode cX4_doesAll 3 = .ok (.iconst 0, 1) := by decide +kernel
theorem dX4_doesAll_4 : decode cX4_doesAll 4 = .ok (.putfield 156, 3) := by decide +kernel
theorem dX4_doesAll_7 : decode cX4_doesAll 7 = .ok (.aload_n 0, 1) := by decide +kernel
theorem dX4_doesAll_8 : decode cX4_doesAll 8 = .ok (.iconst 0, 1) := by decide +kernel
theorem dX4_doesAll_9 : decode cX4_doesAll 9 = .ok (.putfield 134, 3) := by decide +kernel
theorem dX4_doesAll_12 : decode cX4_doesAll 12 = .ok (.aload_n 0, 1) := by decide +kernel
theorem dX4_doesAll_13 : decode cX4_doesAll 13 = .ok (.getfield 134, 3) := by decide +kernel
theorem dX4_doesAll_16 : decode cX4_doesAll 16 = .ok (.aload_n 0, 1) := by decide +kernel
theorem dX4_doesAll_17 : decode cX4_doesAll 17 = .ok (.getfield 131, 3) := by decide +kernel
theorem dX4_doesAll_20 : decode cX4_doesAll 20 = .ok (.if_icmp .ge 102, 3) := by decide +kernel
theorem dX4_doesAll_23 : decode cX4_doesAll 23 = .ok (.aload_n 0, 1) := by decide +kernel
theorem dX4_doesAll_24 : decode cX4_doesAll 24 = .ok (.getfield 156, 3) := by decide +kernel
theorem dX4_doesAll_27 : decode cX4_doesAll 27 = .ok (.ifCond .ne 95, 3) := by decide +kernel
theorem dX4_doesAll_30 : decode cX4_doesAll 30 = .ok (.aload_n 0, 1) := by decide +kernel
theorem dX4_doesAll_31 : decode cX4_doesAll 31 = .ok (.aload_n 0, 1) := by decide +kernel
theorem dX4_doesAll_32 : decode cX4_doesAll 32 = .ok (.getfield 134, 3) := by decide +kernel
theorem dX4_doesAll_35 : decode cX4_doesAll 35 = .ok (.putfield 159, 3) := by decide +kernel
theorem dX4_doesAll_38 : decode cX4_doesAll 38 = .ok (.aload_n 0, 1) := by decide +kernel
theorem dX4_doesAll_39 : decode cX4_doesAll 39 = .ok (.aload_n 0, 1) := by decide +kernel
theorem dX4_doesAll_40 : decode cX4_doesAll 40 = .ok (.getfield 159, 3) := by decide +kernel
theorem dX4_doesAll_43 : decode cX4_doesAll 43 = .ok (.invokevirtual 137, 3) := by decide +kernel
theorem dX4_doesAll_46 : decode cX4_doesAll 46 = .ok (.istore_n 2, 1) := by decide +kernel
theorem dX4_doesAll_47 : decode cX4_doesAll 47 = .ok (.aload_n 0, 1) := by decide +kernel
theorem dX4_doesAll_48 : decode cX4_doesAll 48 = .ok (.invokevirtual 162, 3) := by decide +kernel
theorem dX4_doesAll_51 : decode cX4_doesAll 51 = .ok (.ifCond .ne 24, 3) := by decide +kernel
theorem dX4_doesAll_54 : decode cX4_doesAll 54 = .ok (.aload_n 0, 1) := by decide +kernel
theorem dX4_doesAll_55 : decode cX4_doesAll 55 = .ok (.iconst 1, 1) := by decide +kernel
theorem dX4_doesAll_56 : decode cX4_doesAll 56 = .ok (.putfield 156, 3) := by decide +kernel
theorem dX4_doesAll_59 : decode cX4_doesAll 59 = .ok (.aload_n 0, 1) := by decide +kernel
theorem dX4_doesAll_60 : decode cX4_doesAll 60 = .ok (.aload_n 0, 1) := by decide +kernel
theorem dX4_doesAll_61 : decode cX4_doesAll 61 = .ok (.getfield 134, 3) := by decide +kernel
theorem dX4_doesAll_64 : decode cX4_doesAll 64 = .ok (.aload_n 0, 1) := by decide +kernel
theorem dX4_doesAll_65 : decode cX4_doesAll 65 = .ok (.getfield 159, 3) := by decide +kernel
theorem dX4_doesAll_68 : decode cX4_doesAll 68 = .ok (.isub, 1) := by decide +kernel
theorem dX4_doesAll_69 : decode cX4_doesAll 69 = .ok (.putfield 165, 3) := by decide +kernel
theorem dX4_doesAll_72 : decode cX4_doesAll 72 = .ok (.goto 47, 3) := by decide +kernel
theorem dX4_doesAll_75 : decode cX4_doesAll 75 = .ok (.aload_n 0, 1) := by decide +kernel
theorem dX4_doesAll_76 : decode cX4_doesAll 76 = .ok (.iload_n 2, 1) := by decide +kernel
theorem dX4_doesAll_77 : decode cX4_doesAll 77 = .ok (.invokevirtual 168, 3) := by decide +kernel
theorem dX4_doesAll_80 : decode cX4_doesAll 80 = .ok (.ifCond .lt 20, 3) := by decide +kernel
theorem dX4_doesAll_83 : decode cX4_doesAll 83 = .ok (.aload_n 0, 1) := by decide +kernel
theorem dX4_doesAll_84 : decode cX4_doesAll 84 = .ok (.iconst 2, 1) := by decide +kernel
theorem dX4_doesAll_85 : decode cX4_doesAll 85 = .ok (.putfield 156, 3) := by decide +kernel
theorem dX4_doesAll_88 : decode cX4_doesAll 88 = .ok (.aload_n 0, 1) := by decide +kernel
theorem dX4_doesAll_89 : decode cX4_doesAll 89 = .ok (.aload_n 0, 1) := by decide +kernel
theorem dX4_doesAll_90 : decode cX4_doesAll 90 = .ok (.iload_n 2, 1) := by decide +kernel
theorem dX4_doesAll_91 : decode cX4_doesAll 91 = .ok (.invokevirtual 168, 3) := by decide +kernel
theorem dX4_doesAll_94 : decode cX4_doesAll 94 = .ok (.putfield 165, 3) := by decide +kernel
theorem dX4_doesAll_97 : decode cX4_doesAll 97 = .ok (.goto 22, 3) := by decide +kernel
theorem dX4_doesAll_100 : decode cX4_doesAll 100 = .ok (.aload_n 0, 1) := by decide +kernel
theorem dX4_doesAll_101 : decode cX4_doesAll 101 = .ok (.iload_n 2, 1) := by decide +kernel
theorem dX4_doesAll_102 : decode cX4_doesAll 102 = .ok (.invokevirtual 171, 3) := by decide +kernel
theorem dX4_doesAll_105 : decode cX4_doesAll 105 = .ok (.ifCond .ne 11, 3) := by decide +kernel
theorem dX4_doesAll_108 : decode cX4_doesAll 108 = .ok (.aload_n 0, 1) := by decide +kernel
theorem dX4_doesAll_109 : decode cX4_doesAll 109 = .ok (.iconst 3, 1) := by decide +kernel
theorem dX4_doesAll_110 : decode cX4_doesAll 110 = .ok (.putfield 156, 3) := by decide +kernel
theorem dX4_doesAll_113 : decode cX4_doesAll 113 = .ok (.goto 6, 3) := by decide +kernel
theorem dX4_doesAll_116 : decode cX4_doesAll 116 = .ok (.iinc 1 1, 3) := by decide +kernel
theorem dX4_doesAll_119 : decode cX4_doesAll 119 = .ok (.goto (-107), 3) := by decide +kernel
theorem dX4_doesAll_122 : decode cX4_doesAll 122 = .ok (.iload_n 1, 1) := by decide +kernel
theorem dX4_doesAll_123 : decode cX4_doesAll 123 = .ok (.ireturn, 1) := by decide +kernel
theorem dX4_lays_0 : decode cX4_lays 0 = .ok (.iconst 0, 1) := by decide +kernel
theorem dX4_lays_1 : decode cX4_lays 1 = .ok (.istore_n 1, 1) := by decide +kernel
theorem dX4_lays_2 : decode cX4_lays 2 = .ok (.iload_n 1, 1) := by decide +kernel
theorem dX4_lays_3 : decode cX4_lays 3 = .ok (.sipush 511, 3) := by decide +kernel
theorem dX4_lays_6 : decode cX4_lays 6 = .ok (.if_icmp .ge 21, 3) := by decide +kernel
theorem dX4_lays_9 : decode cX4_lays 9 = .ok (.aload_n 0, 1) := by decide +kernel
theorem dX4_lays_10 : decode cX4_lays 10 = .ok (.getfield 16, 3) := by decide +kernel
theorem dX4_lays_13 : decode cX4_lays 13 = .ok (.iload_n 1, 1) := by decide +kernel
theorem dX4_lays_14 : decode cX4_lays 14 = .ok (.aload_n 0, 1) := by decide +kernel
theorem dX4_lays_15 : decode cX4_lays 15 = .ok (.getfield 7, 3) := by decide +kernel
theorem dX4_lays_18 : decode cX4_lays 18 = .ok (.iload_n 1, 1) := by decide +kernel
theorem dX4_lays_19 : decode cX4_lays 19 = .ok (.iaload, 1) := by decide +kernel
theorem dX4_lays_20 : decode cX4_lays 20 = .ok (.iastore, 1) := by decide +kernel
theorem dX4_lays_21 : decode cX4_lays 21 = .ok (.iinc 1 1, 3) := by decide +kernel
theorem dX4_lays_24 : decode cX4_lays 24 = .ok (.goto (-22), 3) := by decide +kernel
theorem dX4_lays_27 : decode cX4_lays 27 = .ok (.return_, 1) := by decide +kernel
theorem dX4_back_0 : decode cX4_back 0 = .ok (.iconst 0, 1) := by decide +kernel
theorem dX4_back_1 : decode cX4_back 1 = .ok (.istore_n 1, 1) := by decide +kernel
theorem dX4_back_2 : decode cX4_back 2 = .ok (.iload_n 1, 1) := by decide +kernel
theorem dX4_back_3 : decode cX4_back 3 = .ok (.sipush 511, 3) := by decide +kernel
theorem dX4_back_6 : decode cX4_back 6 = .ok (.if_icmp .ge 21, 3) := by decide +kernel
theorem dX4_back_9 : decode cX4_back 9 = .ok (.aload_n 0, 1) := by decide +kernel
theorem dX4_back_10 : decode cX4_back 10 = .ok (.getfield 7, 3) := by decide +kernel
theorem dX4_back_13 : decode cX4_back 13 = .ok (.iload_n 1, 1) := by decide +kernel
theorem dX4_back_14 : decode cX4_back 14 = .ok (.aload_n 0, 1) := by decide +kernel
theorem dX4_back_15 : decode cX4_back 15 = .ok (.getfield 16, 3) := by decide +kernel
theorem dX4_back_18 : decode cX4_back 18 = .ok (.iload_n 1, 1) := by decide +kernel
theorem dX4_back_19 : decode cX4_back 19 = .ok (.iaload, 1) := by decide +kernel
theorem dX4_back_20 : decode cX4_back 20 = .ok (.iastore, 1) := by decide +kernel
theorem dX4_back_21 : decode cX4_back 21 = .ok (.iinc 1 1, 3) := by decide +kernel
theorem dX4_back_24 : decode cX4_back 24 = .ok (.goto (-22), 3) := by decide +kernel
theorem dX4_back_27 : decode cX4_back 27 = .ok (.return_, 1) := by decide +kernel
set_option maxRecDepth 20000 in
theorem ggX4_fault_X4_within : GoodIn wsX4_fault wsX4_within := goodIn_r _ [9] (by decide +kernel) (by decide +kernel)
set_option maxRecDepth 20000 in
theorem gX4_fault_X4_within : GoodIn wsX4_fault (va_wsS RX4 37 yX4_within wsX4_within) := goodIn_app (goodIn_of _ (by decide +kernel)) ggX4_fault_X4_within
set_option maxRecDepth 20000 in
theorem ggX4_fault_X4_lays : GoodIn wsX4_fault wsX4_lays := goodIn_r _ [13, 14, 15, 114, 115, 116, 117, 118, 119, 120, 121, 122, 123, 124, 125, 126, 127, 128, 129, 130] (by decide +kernel) (by decide +kernel)
set_option maxRecDepth 20000 in
theorem gX4_fault_X4_lays : GoodIn wsX4_fault (wsV RX4 174 RX4 yX4_lays wsX4_lays) := goodIn_app (goodIn_of _ (by decide +kernel)) ggX4_fault_X4_lays
set_option maxRecDepth 20000 in
theorem ggX4_fault_X4_doesAll : GoodIn wsX4_fault wsX4_doesAll := goodIn_r _ [19, 2, 20, 21, 4, 5, 22, 23, 24, 8, 25, 26, 27, 28, 29, 30, 31, 32, 33, 34, 35, 6, 7, 9, 36, 37, 38, 39, 40, 41, 42, 43, 44, 45, 46, 47, 48, 49, 50, 51, 52, 53, 15, 54, 55, 56, 57, 58, 59, 60, 61, 62, 63, 64, 65, 66, 67, 68, 69, 70, 71, 72, 73, 74, 75, 76, 77, 78, 79, 80, 81, 82, 83, 84, 85, 86, 87, 88, 89, 90, 91, 92, 93, 94, 95, 96, 97, 98, 99, 100, 101, 102, 103, 104, 105, 106, 107, 108, 109, 114, 115, 116, 117, 118, 119, 120, 121, 122, 123, 124, 125, 126, 127, 128, 129, 130] rfl (by decide +kernel)
set_option maxRecDepth 20000 in
theorem gX4_fault_X4_doesAll : GoodIn wsX4_fault (wsV RX4 177 RX4 yX4_doesAll wsX4_doesAll) := goodIn_app (goodIn_of _ (by decide +kernel)) ggX4_fault_X4_doesAll
set_option maxRecDepth 20000 in
theorem ggX4_fault_X4_back : GoodIn wsX4_fault wsX4_back := goodIn_r _ [113, 15, 14, 114, 115, 116, 117, 118, 119, 120, 121, 122, 123, 124, 125, 126, 127, 128, 129, 130] (by decide +kernel) (by decide +kernel)
set_option maxRecDepth 20000 in
theorem gX4_fault_X4_back : GoodIn wsX4_fault (wsV RX4 180 RX4 yX4_back wsX4_back) := goodIn_app (goodIn_of _ (by decide +kernel)) ggX4_fault_X4_back
theorem dX4_fault_0 : decode cX4_fault 0 = .ok (.iload_n 1, 1) := by decide +kernel
theorem dX4_fault_1 : decode cX4_fault 1 = .ok (.iconst 0, 1) := by decide +kernel
theorem dX4_fault_2 : decode cX4_fault 2 = .ok (.iconst 2, 1) := by decide +kernel
theorem dX4_fault_3 : decode cX4_fault 3 = .ok (.invokestatic 37, 3) := by decide +kernel
theorem dX4_fault_6 : decode cX4_fault 6 = .ok (.ifCond .ne 6, 3) := by decide +kernel
theorem dX4_fault_9 : decode cX4_fault 9 = .ok (.ldc 61, 2) := by decide +kernel
theorem dX4_fault_11 : decode cX4_fault 11 = .ok (.ireturn, 1) := by decide +kernel
theorem dX4_fault_12 : decode cX4_fault 12 = .ok (.aload_n 0, 1) := by decide +kernel
theorem dX4_fault_13 : decode cX4_fault 13 = .ok (.invokevirtual 174, 3) := by decide +kernel
theorem dX4_fault_16 : decode cX4_fault 16 = .ok (.aload_n 0, 1) := by decide +kernel
theorem dX4_fault_17 : decode cX4_fault 17 = .ok (.invokevirtual 177, 3) := by decide +kernel
theorem dX4_fault_20 : decode cX4_fault 20 = .ok (.pop, 1) := by decide +kernel
theorem dX4_fault_21 : decode cX4_fault 21 = .ok (.aload_n 0, 1) := by decide +kernel
