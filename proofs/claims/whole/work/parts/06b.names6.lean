theorem dX4_reads_59 : decode cX4_reads 59 = .ok (.aload_n 0, 1) := by decide +kernel
theorem dX4_reads_60 : decode cX4_reads 60 = .ok (.bipush 59, 2) := by decide +kernel
theorem dX4_reads_62 : decode cX4_reads 62 = .ok (.invokevirtual 149, 3) := by decide +kernel
theorem dX4_reads_65 : decode cX4_reads 65 = .ok (.ifCond .eq 7, 3) := by decide +kernel
theorem dX4_reads_68 : decode cX4_reads 68 = .ok (.iconst 1, 1) := by decide +kernel
theorem dX4_reads_69 : decode cX4_reads 69 = .ok (.goto 4, 3) := by decide +kernel
theorem dX4_reads_72 : decode cX4_reads 72 = .ok (.iconst 0, 1) := by decide +kernel
theorem dX4_reads_73 : decode cX4_reads 73 = .ok (.ireturn, 1) := by decide +kernel
theorem dX4_reads_74 : decode cX4_reads 74 = .ok (.iload_n 1, 1) := by decide +kernel
theorem dX4_reads_75 : decode cX4_reads 75 = .ok (.bipush 61, 2) := by decide +kernel
theorem dX4_reads_77 : decode cX4_reads 77 = .ok (.if_icmp .ne 39, 3) := by decide +kernel
theorem dX4_reads_80 : decode cX4_reads 80 = .ok (.aload_n 0, 1) := by decide +kernel
theorem dX4_reads_81 : decode cX4_reads 81 = .ok (.iconst 0, 1) := by decide +kernel
theorem dX4_reads_82 : decode cX4_reads 82 = .ok (.invokevirtual 146, 3) := by decide +kernel
theorem dX4_reads_85 : decode cX4_reads 85 = .ok (.ifCond .eq 29, 3) := by decide +kernel
theorem dX4_reads_88 : decode cX4_reads 88 = .ok (.aload_n 0, 1) := by decide +kernel
theorem dX4_reads_89 : decode cX4_reads 89 = .ok (.bipush 44, 2) := by decide +kernel
theorem dX4_reads_91 : decode cX4_reads 91 = .ok (.invokevirtual 149, 3) := by decide +kernel
theorem dX4_reads_94 : decode cX4_reads 94 = .ok (.ifCond .eq 20, 3) := by decide +kernel
theorem dX4_reads_97 : decode cX4_reads 97 = .ok (.aload_n 0, 1) := by decide +kernel
theorem dX4_reads_98 : decode cX4_reads 98 = .ok (.iconst 1, 1) := by decide +kernel
theorem dX4_reads_99 : decode cX4_reads 99 = .ok (.invokevirtual 146, 3) := by decide +kernel
theorem dX4_reads_102 : decode cX4_reads 102 = .ok (.ifCond .eq 12, 3) := by decide +kernel
theorem dX4_reads_105 : decode cX4_reads 105 = .ok (.aload_n 0, 1) := by decide +kernel
theorem dX4_reads_106 : decode cX4_reads 106 = .ok (.bipush 44, 2) := by decide +kernel
theorem dX4_reads_108 : decode cX4_reads 108 = .ok (.invokevirtual 149, 3) := by decide +kernel
theorem dX4_reads_111 : decode cX4_reads 111 = .ok (.ifCond .ne 5, 3) := by decide +kernel
theorem dX4_reads_114 : decode cX4_reads 114 = .ok (.iconst 0, 1) := by decide +kernel
theorem dX4_reads_115 : decode cX4_reads 115 = .ok (.ireturn, 1) := by decide +kernel
theorem dX4_reads_116 : decode cX4_reads 116 = .ok (.aload_n 0, 1) := by decide +kernel
theorem dX4_reads_117 : decode cX4_reads 117 = .ok (.invokevirtual 152, 3) := by decide +kernel
theorem dX4_reads_120 : decode cX4_reads 120 = .ok (.ifCond .eq 16, 3) := by decide +kernel
theorem dX4_reads_123 : decode cX4_reads 123 = .ok (.aload_n 0, 1) := by decide +kernel
theorem dX4_reads_124 : decode cX4_reads 124 = .ok (.bipush 59, 2) := by decide +kernel
theorem dX4_reads_126 : decode cX4_reads 126 = .ok (.invokevirtual 149, 3) := by decide +kernel
theorem dX4_reads_129 : decode cX4_reads 129 = .ok (.ifCond .eq 7, 3) := by decide +kernel
theorem dX4_reads_132 : decode cX4_reads 132 = .ok (.iconst 1, 1) := by decide +kernel
theorem dX4_reads_133 : decode cX4_reads 133 = .ok (.goto 4, 3) := by decide +kernel
theorem dX4_reads_136 : decode cX4_reads 136 = .ok (.iconst 0, 1) := by decide +kernel
theorem dX4_reads_137 : decode cX4_reads 137 = .ok (.ireturn, 1) := by decide +kernel
theorem dX4_wrong_0 : decode cX4_wrong 0 = .ok (.iload_n 1, 1) := by decide +kernel
theorem dX4_wrong_1 : decode cX4_wrong 1 = .ok (.bipush 33, 2) := by decide +kernel
theorem dX4_wrong_3 : decode cX4_wrong 3 = .ok (.if_icmp .ne 19, 3) := by decide +kernel
theorem dX4_wrong_6 : decode cX4_wrong 6 = .ok (.aload_n 0, 1) := by decide +kernel
theorem dX4_wrong_7 : decode cX4_wrong 7 = .ok (.getfield 28, 3) := by decide +kernel
theorem dX4_wrong_10 : decode cX4_wrong 10 = .ok (.iconst 0, 1) := by decide +kernel
theorem dX4_wrong_11 : decode cX4_wrong 11 = .ok (.iaload, 1) := by decide +kernel
theorem dX4_wrong_12 : decode cX4_wrong 12 = .ok (.iconst 2, 1) := by decide +kernel
theorem dX4_wrong_13 : decode cX4_wrong 13 = .ok (.if_icmp .le 7, 3) := by decide +kernel
theorem dX4_wrong_16 : decode cX4_wrong 16 = .ok (.iconst 2, 1) := by decide +kernel
theorem dX4_wrong_17 : decode cX4_wrong 17 = .ok (.goto 4, 3) := by decide +kernel
theorem dX4_wrong_20 : decode cX4_wrong 20 = .ok (.iconst (-1), 1) := by decide +kernel
theorem dX4_wrong_21 : decode cX4_wrong 21 = .ok (.ireturn, 1) := by decide +kernel
theorem dX4_wrong_22 : decode cX4_wrong 22 = .ok (.iload_n 1, 1) := by decide +kernel
theorem dX4_wrong_23 : decode cX4_wrong 23 = .ok (.bipush 61, 2) := by decide +kernel
theorem dX4_wrong_25 : decode cX4_wrong 25 = .ok (.if_icmp .ne 15, 3) := by decide +kernel
theorem dX4_wrong_28 : decode cX4_wrong 28 = .ok (.aload_n 0, 1) := by decide +kernel
theorem dX4_wrong_29 : decode cX4_wrong 29 = .ok (.getfield 28, 3) := by decide +kernel
theorem dX4_wrong_32 : decode cX4_wrong 32 = .ok (.iconst 0, 1) := by decide +kernel
theorem dX4_wrong_33 : decode cX4_wrong 33 = .ok (.iaload, 1) := by decide +kernel
theorem dX4_wrong_34 : decode cX4_wrong 34 = .ok (.iconst 2, 1) := by decide +kernel
theorem dX4_wrong_35 : decode cX4_wrong 35 = .ok (.if_icmp .le 5, 3) := by decide +kernel
theorem dX4_wrong_38 : decode cX4_wrong 38 = .ok (.iconst 0, 1) := by decide +kernel
theorem dX4_wrong_39 : decode cX4_wrong 39 = .ok (.ireturn, 1) := by decide +kernel
theorem dX4_wrong_40 : decode cX4_wrong 40 = .ok (.iload_n 1, 1) := by decide +kernel
theorem dX4_wrong_41 : decode cX4_wrong 41 = .ok (.bipush 61, 2) := by decide +kernel
theorem dX4_wrong_43 : decode cX4_wrong 43 = .ok (.if_icmp .ne 15, 3) := by decide +kernel
theorem dX4_wrong_46 : decode cX4_wrong 46 = .ok (.aload_n 0, 1) := by decide +kernel
theorem dX4_wrong_47 : decode cX4_wrong 47 = .ok (.getfield 28, 3) := by decide +kernel
theorem dX4_wrong_50 : decode cX4_wrong 50 = .ok (.iconst 1, 1) := by decide +kernel
theorem dX4_wrong_51 : decode cX4_wrong 51 = .ok (.iaload, 1) := by decide +kernel
theorem dX4_wrong_52 : decode cX4_wrong 52 = .ok (.iconst 5, 1) := by decide +kernel
theorem dX4_wrong_53 : decode cX4_wrong 53 = .ok (.if_icmp .le 5, 3) := by decide +kernel
theorem dX4_wrong_56 : decode cX4_wrong 56 = .ok (.iconst 1, 1) := by decide +kernel
theorem dX4_wrong_57 : decode cX4_wrong 57 = .ok (.ireturn, 1) := by decide +kernel
theorem dX4_wrong_58 : decode cX4_wrong 58 = .ok (.aload_n 0, 1) := by decide +kernel
theorem dX4_wrong_59 : decode cX4_wrong 59 = .ok (.getfield 140, 3) := by decide +kernel
theorem dX4_wrong_62 : decode cX4_wrong 62 = .ok (.bipush 6, 2) := by decide +kernel
theorem dX4_wrong_64 : decode cX4_wrong 64 = .ok (.if_icmp .le 7, 3) := by decide +kernel
theorem dX4_wrong_67 : decode cX4_wrong 67 = .ok (.iconst 3, 1) := by decide +kernel
theorem dX4_wrong_68 : decode cX4_wrong 68 = .ok (.goto 4, 3) := by decide +kernel
theorem dX4_wrong_71 : decode cX4_wrong 71 = .ok (.iconst (-1), 1) := by decide +kernel
theorem dX4_wrong_72 : decode cX4_wrong 72 = .ok (.ireturn, 1) := by decide +kernel
set_option maxRecDepth 20000 in
theorem ggX4_does_X4_numberWith : GoodIn wsX4_does wsX4_numberWith := goodIn_r _ [8, 2, 61, 62, 63, 64, 65, 66, 67, 68, 69, 70, 71, 72, 73, 74, 75, 76, 77] (by decide +kernel) (by decide +kernel)
set_option maxRecDepth 20000 in
theorem gX4_does_X4_numberWith : GoodIn wsX4_does (wsV RX4 47 RX4 yX4_numberWith wsX4_numberWith) := goodIn_app (goodIn_of _ (by decide +kernel)) ggX4_does_X4_numberWith
set_option maxRecDepth 20000 in
theorem ggX4_does_X4_compacts : GoodIn wsX4_does wsX4_compacts := goodIn_r _ [12, 2, 13, 14, 15, 16, 17, 18, 7, 19, 20, 21, 22, 23, 24, 25, 26, 27, 28, 29, 30, 31, 61, 62, 63, 64, 65, 66, 67, 68, 69, 70, 71, 72, 73, 74, 75, 76, 77] (by decide +kernel) (by decide +kernel)
set_option maxRecDepth 20000 in
theorem gX4_does_X4_compacts : GoodIn wsX4_does (wsV RX4 113 RX4 yX4_compacts wsX4_compacts) := goodIn_app (goodIn_of _ (by decide +kernel)) ggX4_does_X4_compacts
set_option maxRecDepth 20000 in
theorem ggX4_does_X4_canAcquire : GoodIn wsX4_does wsX4_canAcquire := goodIn_r _ [35, 2, 4, 5, 6, 7, 8, 36, 37, 38, 39, 20, 21, 22, 23, 61, 62, 63, 64, 65, 66, 67, 68, 69, 70, 71, 72, 73, 74, 75, 76, 77] (by decide +kernel) (by decide +kernel)
set_option maxRecDepth 20000 in
theorem gX4_does_X4_canAcquire : GoodIn wsX4_does (wsV RX4 62 RX4 yX4_canAcquire wsX4_canAcquire) := goodIn_app (goodIn_of _ (by decide +kernel)) ggX4_does_X4_canAcquire
set_option maxRecDepth 20000 in
theorem ggX4_does_X4_acquires : GoodIn wsX4_does wsX4_acquires := goodIn_r _ [43, 2, 4, 5, 6, 7, 8, 36, 37, 38, 39, 20, 21, 22, 23, 44, 45, 46, 47, 48, 61, 62, 63, 64, 65, 66, 67, 68, 69, 70, 71, 72, 73, 74, 75, 76, 77] (by decide +kernel) (by decide +kernel)
set_option maxRecDepth 20000 in
theorem gX4_does_X4_acquires : GoodIn wsX4_does (wsV RX4 69 RX4 yX4_acquires wsX4_acquires) := goodIn_app (goodIn_of _ (by decide +kernel)) ggX4_does_X4_acquires
set_option maxRecDepth 20000 in
theorem ggX4_does_X4_cellsWith : GoodIn wsX4_does wsX4_cellsWith := goodIn_r _ [52, 2, 61, 62, 63, 64, 65, 66, 67, 68, 69, 70, 71, 72, 73, 74, 75, 76, 77] (by decide +kernel) (by decide +kernel)
set_option maxRecDepth 20000 in
theorem gX4_does_X4_cellsWith : GoodIn wsX4_does (wsV RX4 86 RX4 yX4_cellsWith wsX4_cellsWith) := goodIn_app (goodIn_of _ (by decide +kernel)) ggX4_does_X4_cellsWith
set_option maxRecDepth 20000 in
theorem ggX4_does_X4_givesBack : GoodIn wsX4_does wsX4_givesBack := goodIn_r _ [56, 2, 61, 62, 63, 64, 65, 66, 67, 68, 69, 70, 71, 72, 73, 74, 75, 76, 77] (by decide +kernel) (by decide +kernel)
set_option maxRecDepth 20000 in
theorem gX4_does_X4_givesBack : GoodIn wsX4_does (wsV RX4 89 RX4 yX4_givesBack wsX4_givesBack) := goodIn_app (goodIn_of _ (by decide +kernel)) ggX4_does_X4_givesBack
set_option maxRecDepth 20000 in
theorem ggX4_does_X4_puts : GoodIn wsX4_does wsX4_puts := goodIn_r _ [60, 2, 53, 54, 55, 7, 56, 61, 62, 63, 64, 65, 66, 67, 68, 69, 70, 71, 72, 73, 74, 75, 76, 77] (by decide +kernel) (by decide +kernel)
set_option maxRecDepth 20000 in
theorem gX4_does_X4_puts : GoodIn wsX4_does (wsV RX4 96 RX4 yX4_puts wsX4_puts) := goodIn_app (goodIn_of _ (by decide +kernel)) ggX4_does_X4_puts
theorem dX4_does_0 : decode cX4_does 0 = .ok (.aload_n 0, 1) := by decide +kernel
theorem dX4_does_1 : decode cX4_does 1 = .ok (.aload_n 0, 1) := by decide +kernel
theorem dX4_does_2 : decode cX4_does 2 = .ok (.getfield 143, 3) := by decide +kernel
theorem dX4_does_5 : decode cX4_does 5 = .ok (.invokevirtual 47, 3) := by decide +kernel
theorem dX4_does_8 : decode cX4_does 8 = .ok (.istore_n 2, 1) := by decide +kernel
theorem dX4_does_9 : decode cX4_does 9 = .ok (.iload_n 1, 1) := by decide +kernel
theorem dX4_does_10 : decode cX4_does 10 = .ok (.bipush 33, 2) := by decide +kernel
theorem dX4_does_12 : decode cX4_does 12 = .ok (.if_icmp .ne 38, 3) := by decide +kernel
theorem dX4_does_15 : decode cX4_does 15 = .ok (.aload_n 0, 1) := by decide +kernel
theorem dX4_does_16 : decode cX4_does 16 = .ok (.getfield 7, 3) := by decide +kernel
theorem dX4_does_19 : decode cX4_does 19 = .ok (.iconst 0, 1) := by decide +kernel
theorem dX4_does_20 : decode cX4_does 20 = .ok (.iaload, 1) := by decide +kernel
theorem dX4_does_21 : decode cX4_does 21 = .ok (.sipush 999, 3) := by decide +kernel
theorem dX4_does_24 : decode cX4_does 24 = .ok (.if_icmp .ge 7, 3) := by decide +kernel
theorem dX4_does_27 : decode cX4_does 27 = .ok (.iconst 1, 1) := by decide +kernel
theorem dX4_does_28 : decode cX4_does 28 = .ok (.goto 4, 3) := by decide +kernel
theorem dX4_does_31 : decode cX4_does 31 = .ok (.iconst 0, 1) := by decide +kernel
theorem dX4_does_32 : decode cX4_does 32 = .ok (.istore_n 3, 1) := by decide +kernel
theorem dX4_does_33 : decode cX4_does 33 = .ok (.iload_n 3, 1) := by decide +kernel
theorem dX4_does_34 : decode cX4_does 34 = .ok (.ifCond .eq 14, 3) := by decide +kernel
theorem dX4_does_37 : decode cX4_does 37 = .ok (.aload_n 0, 1) := by decide +kernel
theorem dX4_does_38 : decode cX4_does 38 = .ok (.aload_n 0, 1) := by decide +kernel
theorem dX4_does_39 : decode cX4_does 39 = .ok (.getfield 28, 3) := by decide +kernel
theorem dX4_does_42 : decode cX4_does 42 = .ok (.iconst 0, 1) := by decide +kernel
theorem dX4_does_43 : decode cX4_does 43 = .ok (.iaload, 1) := by decide +kernel
theorem dX4_does_44 : decode cX4_does 44 = .ok (.invokevirtual 113, 3) := by decide +kernel
theorem dX4_does_47 : decode cX4_does 47 = .ok (.pop, 1) := by decide +kernel
theorem dX4_does_48 : decode cX4_does 48 = .ok (.iload_n 3, 1) := by decide +kernel
theorem dX4_does_49 : decode cX4_does 49 = .ok (.ireturn, 1) := by decide +kernel
theorem dX4_does_50 : decode cX4_does 50 = .ok (.iload_n 1, 1) := by decide +kernel
theorem dX4_does_51 : decode cX4_does 51 = .ok (.bipush 43, 2) := by decide +kernel
theorem dX4_does_53 : decode cX4_does 53 = .ok (.if_icmp .ne 27, 3) := by decide +kernel
theorem dX4_does_56 : decode cX4_does 56 = .ok (.aload_n 0, 1) := by decide +kernel
theorem dX4_does_57 : decode cX4_does 57 = .ok (.aload_n 0, 1) := by decide +kernel
theorem dX4_does_58 : decode cX4_does 58 = .ok (.getfield 143, 3) := by decide +kernel
theorem dX4_does_61 : decode cX4_does 61 = .ok (.invokevirtual 62, 3) := by decide +kernel
theorem dX4_does_64 : decode cX4_does 64 = .ok (.istore_n 3, 1) := by decide +kernel
theorem dX4_does_65 : decode cX4_does 65 = .ok (.iload_n 3, 1) := by decide +kernel
theorem dX4_does_66 : decode cX4_does 66 = .ok (.ifCond .eq 12, 3) := by decide +kernel
theorem dX4_does_69 : decode cX4_does 69 = .ok (.aload_n 0, 1) := by decide +kernel
theorem dX4_does_70 : decode cX4_does 70 = .ok (.aload_n 0, 1) := by decide +kernel
theorem dX4_does_71 : decode cX4_does 71 = .ok (.getfield 143, 3) := by decide +kernel
theorem dX4_does_74 : decode cX4_does 74 = .ok (.invokevirtual 69, 3) := by decide +kernel
theorem dX4_does_77 : decode cX4_does 77 = .ok (.pop, 1) := by decide +kernel
theorem dX4_does_78 : decode cX4_does 78 = .ok (.iload_n 3, 1) := by decide +kernel
theorem dX4_does_79 : decode cX4_does 79 = .ok (.ireturn, 1) := by decide +kernel
theorem dX4_does_80 : decode cX4_does 80 = .ok (.iload_n 2, 1) := by decide +kernel
theorem dX4_does_81 : decode cX4_does 81 = .ok (.ifCond .ge 5, 3) := by decide +kernel
theorem dX4_does_84 : decode cX4_does 84 = .ok (.iconst 0, 1) := by decide +kernel
theorem dX4_does_85 : decode cX4_does 85 = .ok (.ireturn, 1) := by decide +kernel
theorem dX4_does_86 : decode cX4_does 86 = .ok (.iload_n 1, 1) := by decide +kernel
theorem dX4_does_87 : decode cX4_does 87 = .ok (.bipush 45, 2) := by decide +kernel
theorem dX4_does_89 : decode cX4_does 89 = .ok (.if_icmp .ne 28, 3) := by decide +kernel
theorem dX4_does_92 : decode cX4_does 92 = .ok (.aload_n 0, 1) := by decide +kernel
theorem dX4_does_93 : decode cX4_does 93 = .ok (.getfield 7, 3) := by decide +kernel
theorem dX4_does_96 : decode cX4_does 96 = .ok (.bipush 44, 2) := by decide +kernel
theorem dX4_does_98 : decode cX4_does 98 = .ok (.iload_n 2, 1) := by decide +kernel
theorem dX4_does_99 : decode cX4_does 99 = .ok (.iadd, 1) := by decide +kernel
theorem dX4_does_100 : decode cX4_does 100 = .ok (.iaload, 1) := by decide +kernel
theorem dX4_does_101 : decode cX4_does 101 = .ok (.aload_n 0, 1) := by decide +kernel
theorem dX4_does_102 : decode cX4_does 102 = .ok (.iload_n 2, 1) := by decide +kernel
theorem dX4_does_103 : decode cX4_does 103 = .ok (.invokevirtual 86, 3) := by decide +kernel
theorem dX4_does_106 : decode cX4_does 106 = .ok (.if_icmp .le 7, 3) := by decide +kernel
theorem dX4_does_109 : decode cX4_does 109 = .ok (.iconst 1, 1) := by decide +kernel
theorem dX4_does_110 : decode cX4_does 110 = .ok (.goto 27, 3) := by decide +kernel
theorem dX4_does_113 : decode cX4_does 113 = .ok (.iconst 0, 1) := by decide +kernel
theorem dX4_does_114 : decode cX4_does 114 = .ok (.goto 23, 3) := by decide +kernel
theorem dX4_does_117 : decode cX4_does 117 = .ok (.aload_n 0, 1) := by decide +kernel
theorem dX4_does_118 : decode cX4_does 118 = .ok (.getfield 7, 3) := by decide +kernel
theorem dX4_does_121 : decode cX4_does 121 = .ok (.bipush 44, 2) := by decide +kernel
theorem dX4_does_123 : decode cX4_does 123 = .ok (.iload_n 2, 1) := by decide +kernel
theorem dX4_does_124 : decode cX4_does 124 = .ok (.iadd, 1) := by decide +kernel
theorem dX4_does_125 : decode cX4_does 125 = .ok (.iaload, 1) := by decide +kernel
theorem dX4_does_126 : decode cX4_does 126 = .ok (.sipush 999, 3) := by decide +kernel
theorem dX4_does_129 : decode cX4_does 129 = .ok (.if_icmp .ge 7, 3) := by decide +kernel
theorem dX4_does_132 : decode cX4_does 132 = .ok (.iconst 1, 1) := by decide +kernel
theorem dX4_does_133 : decode cX4_does 133 = .ok (.goto 4, 3) := by decide +kernel
theorem dX4_does_136 : decode cX4_does 136 = .ok (.iconst 0, 1) := by decide +kernel
theorem dX4_does_137 : decode cX4_does 137 = .ok (.istore_n 3, 1) := by decide +kernel
theorem dX4_does_138 : decode cX4_does 138 = .ok (.iload_n 3, 1) := by decide +kernel
theorem dX4_does_139 : decode cX4_does 139 = .ok (.ifCond .eq 18, 3) := by decide +kernel
theorem dX4_does_142 : decode cX4_does 142 = .ok (.iload_n 1, 1) := by decide +kernel
theorem dX4_does_143 : decode cX4_does 143 = .ok (.bipush 45, 2) := by decide +kernel
theorem dX4_does_145 : decode cX4_does 145 = .ok (.if_icmp .ne 12, 3) := by decide +kernel
theorem dX4_does_148 : decode cX4_does 148 = .ok (.aload_n 0, 1) := by decide +kernel
theorem dX4_does_149 : decode cX4_does 149 = .ok (.iload_n 2, 1) := by decide +kernel
theorem dX4_does_150 : decode cX4_does 150 = .ok (.invokevirtual 89, 3) := by decide +kernel
theorem dX4_does_153 : decode cX4_does 153 = .ok (.pop, 1) := by decide +kernel
theorem dX4_does_154 : decode cX4_does 154 = .ok (.goto 29, 3) := by decide +kernel
