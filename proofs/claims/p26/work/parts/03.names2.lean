theorem dX1_tagOf_0 : decode cX1_tagOf 0 = .ok (.iload_n 1, 1) := by decide +kernel
theorem dX1_tagOf_1 : decode cX1_tagOf 1 = .ok (.bipush 40, 2) := by decide +kernel
theorem dX1_tagOf_3 : decode cX1_tagOf 3 = .ok (.invokestatic 70, 3) := by decide +kernel
theorem dX1_tagOf_6 : decode cX1_tagOf 6 = .ok (.ifCond .eq 20, 3) := by decide +kernel
theorem dX1_tagOf_9 : decode cX1_tagOf 9 = .ok (.aload_n 0, 1) := by decide +kernel
theorem dX1_tagOf_10 : decode cX1_tagOf 10 = .ok (.getfield 60, 3) := by decide +kernel
theorem dX1_tagOf_13 : decode cX1_tagOf 13 = .ok (.aload_n 0, 1) := by decide +kernel
theorem dX1_tagOf_14 : decode cX1_tagOf 14 = .ok (.getfield 18, 3) := by decide +kernel
theorem dX1_tagOf_17 : decode cX1_tagOf 17 = .ok (.iload_n 1, 1) := by decide +kernel
theorem dX1_tagOf_18 : decode cX1_tagOf 18 = .ok (.iaload, 1) := by decide +kernel
theorem dX1_tagOf_19 : decode cX1_tagOf 19 = .ok (.iload_n 1, 1) := by decide +kernel
theorem dX1_tagOf_20 : decode cX1_tagOf 20 = .ok (.invokestatic 74, 3) := by decide +kernel
theorem dX1_tagOf_23 : decode cX1_tagOf 23 = .ok (.goto 5, 3) := by decide +kernel
theorem dX1_tagOf_26 : decode cX1_tagOf 26 = .ok (.ldc 78, 2) := by decide +kernel
theorem dX1_tagOf_28 : decode cX1_tagOf 28 = .ok (.ireturn, 1) := by decide +kernel
theorem dX1_tagIn_0 : decode cX1_tagIn 0 = .ok (.ldc 79, 2) := by decide +kernel
theorem dX1_tagIn_2 : decode cX1_tagIn 2 = .ok (.iload_n 0, 1) := by decide +kernel
theorem dX1_tagIn_3 : decode cX1_tagIn 3 = .ok (.imul, 1) := by decide +kernel
theorem dX1_tagIn_4 : decode cX1_tagIn 4 = .ok (.bipush 100, 2) := by decide +kernel
theorem dX1_tagIn_6 : decode cX1_tagIn 6 = .ok (.iload_n 1, 1) := by decide +kernel
theorem dX1_tagIn_7 : decode cX1_tagIn 7 = .ok (.imul, 1) := by decide +kernel
theorem dX1_tagIn_8 : decode cX1_tagIn 8 = .ok (.iadd, 1) := by decide +kernel
theorem dX1_tagIn_9 : decode cX1_tagIn 9 = .ok (.iload_n 2, 1) := by decide +kernel
theorem dX1_tagIn_10 : decode cX1_tagIn 10 = .ok (.iadd, 1) := by decide +kernel
theorem dX1_tagIn_11 : decode cX1_tagIn 11 = .ok (.ireturn, 1) := by decide +kernel
set_option maxRecDepth 20000 in
theorem ggX1_standing_X3_isBelow : GoodIn wsX1_standing wsX3_isBelow := goodIn_r _ [10] (by decide +kernel) (by decide +kernel)
set_option maxRecDepth 20000 in
theorem gX1_standing_X3_isBelow_n70 : GoodIn wsX1_standing (wsX3_isBelow) := ggX1_standing_X3_isBelow
theorem dX1_standing_0 : decode cX1_standing 0 = .ok (.iload_n 1, 1) := by decide +kernel
theorem dX1_standing_1 : decode cX1_standing 1 = .ok (.ldc 79, 2) := by decide +kernel
theorem dX1_standing_3 : decode cX1_standing 3 = .ok (.idiv, 1) := by decide +kernel
theorem dX1_standing_4 : decode cX1_standing 4 = .ok (.istore_n 2, 1) := by decide +kernel
theorem dX1_standing_5 : decode cX1_standing 5 = .ok (.iload_n 1, 1) := by decide +kernel
theorem dX1_standing_6 : decode cX1_standing 6 = .ok (.bipush 100, 2) := by decide +kernel
theorem dX1_standing_8 : decode cX1_standing 8 = .ok (.idiv, 1) := by decide +kernel
theorem dX1_standing_9 : decode cX1_standing 9 = .ok (.sipush 10000, 3) := by decide +kernel
theorem dX1_standing_12 : decode cX1_standing 12 = .ok (.irem, 1) := by decide +kernel
theorem dX1_standing_13 : decode cX1_standing 13 = .ok (.istore_n 3, 1) := by decide +kernel
theorem dX1_standing_14 : decode cX1_standing 14 = .ok (.iload_n 1, 1) := by decide +kernel
theorem dX1_standing_15 : decode cX1_standing 15 = .ok (.bipush 100, 2) := by decide +kernel
theorem dX1_standing_17 : decode cX1_standing 17 = .ok (.irem, 1) := by decide +kernel
theorem dX1_standing_18 : decode cX1_standing 18 = .ok (.istore 4, 2) := by decide +kernel
theorem dX1_standing_20 : decode cX1_standing 20 = .ok (.iload_n 1, 1) := by decide +kernel
theorem dX1_standing_21 : decode cX1_standing 21 = .ok (.ifCond .lt 18, 3) := by decide +kernel
theorem dX1_standing_24 : decode cX1_standing 24 = .ok (.iload 4, 2) := by decide +kernel
theorem dX1_standing_26 : decode cX1_standing 26 = .ok (.bipush 40, 2) := by decide +kernel
theorem dX1_standing_28 : decode cX1_standing 28 = .ok (.if_icmp .ge 11, 3) := by decide +kernel
theorem dX1_standing_31 : decode cX1_standing 31 = .ok (.iload_n 2, 1) := by decide +kernel
theorem dX1_standing_32 : decode cX1_standing 32 = .ok (.aload_n 0, 1) := by decide +kernel
theorem dX1_standing_33 : decode cX1_standing 33 = .ok (.getfield 60, 3) := by decide +kernel
theorem dX1_standing_36 : decode cX1_standing 36 = .ok (.if_icmp .le 5, 3) := by decide +kernel
theorem dX1_standing_39 : decode cX1_standing 39 = .ok (.iconst (-1), 1) := by decide +kernel
theorem dX1_standing_40 : decode cX1_standing 40 = .ok (.ireturn, 1) := by decide +kernel
theorem dX1_standing_41 : decode cX1_standing 41 = .ok (.iload_n 2, 1) := by decide +kernel
theorem dX1_standing_42 : decode cX1_standing 42 = .ok (.aload_n 0, 1) := by decide +kernel
theorem dX1_standing_43 : decode cX1_standing 43 = .ok (.getfield 60, 3) := by decide +kernel
theorem dX1_standing_46 : decode cX1_standing 46 = .ok (.iconst 3, 1) := by decide +kernel
theorem dX1_standing_47 : decode cX1_standing 47 = .ok (.isub, 1) := by decide +kernel
theorem dX1_standing_48 : decode cX1_standing 48 = .ok (.if_icmp .ge 6, 3) := by decide +kernel
theorem dX1_standing_51 : decode cX1_standing 51 = .ok (.bipush (-2), 2) := by decide +kernel
theorem dX1_standing_53 : decode cX1_standing 53 = .ok (.ireturn, 1) := by decide +kernel
theorem dX1_standing_54 : decode cX1_standing 54 = .ok (.iload_n 2, 1) := by decide +kernel
theorem dX1_standing_55 : decode cX1_standing 55 = .ok (.istore 5, 2) := by decide +kernel
theorem dX1_standing_57 : decode cX1_standing 57 = .ok (.iload 5, 2) := by decide +kernel
theorem dX1_standing_59 : decode cX1_standing 59 = .ok (.aload_n 0, 1) := by decide +kernel
theorem dX1_standing_60 : decode cX1_standing 60 = .ok (.getfield 60, 3) := by decide +kernel
theorem dX1_standing_63 : decode cX1_standing 63 = .ok (.if_icmp .ge 72, 3) := by decide +kernel
theorem dX1_standing_66 : decode cX1_standing 66 = .ok (.iload 5, 2) := by decide +kernel
theorem dX1_standing_68 : decode cX1_standing 68 = .ok (.iconst 3, 1) := by decide +kernel
theorem dX1_standing_69 : decode cX1_standing 69 = .ok (.irem, 1) := by decide +kernel
theorem dX1_standing_70 : decode cX1_standing 70 = .ok (.bipush 40, 2) := by decide +kernel
theorem dX1_standing_72 : decode cX1_standing 72 = .ok (.imul, 1) := by decide +kernel
theorem dX1_standing_73 : decode cX1_standing 73 = .ok (.istore 6, 2) := by decide +kernel
theorem dX1_standing_75 : decode cX1_standing 75 = .ok (.aload_n 0, 1) := by decide +kernel
theorem dX1_standing_76 : decode cX1_standing 76 = .ok (.getfield 36, 3) := by decide +kernel
theorem dX1_standing_79 : decode cX1_standing 79 = .ok (.iload 6, 2) := by decide +kernel
theorem dX1_standing_81 : decode cX1_standing 81 = .ok (.iload 4, 2) := by decide +kernel
theorem dX1_standing_83 : decode cX1_standing 83 = .ok (.iadd, 1) := by decide +kernel
theorem dX1_standing_84 : decode cX1_standing 84 = .ok (.iaload, 1) := by decide +kernel
theorem dX1_standing_85 : decode cX1_standing 85 = .ok (.istore 7, 2) := by decide +kernel
theorem dX1_standing_87 : decode cX1_standing 87 = .ok (.iload 7, 2) := by decide +kernel
theorem dX1_standing_89 : decode cX1_standing 89 = .ok (.bipush 40, 2) := by decide +kernel
theorem dX1_standing_91 : decode cX1_standing 91 = .ok (.invokestatic 70, 3) := by decide +kernel
theorem dX1_standing_94 : decode cX1_standing 94 = .ok (.ifCond .eq 17, 3) := by decide +kernel
theorem dX1_standing_97 : decode cX1_standing 97 = .ok (.aload_n 0, 1) := by decide +kernel
theorem dX1_standing_98 : decode cX1_standing 98 = .ok (.getfield 33, 3) := by decide +kernel
theorem dX1_standing_101 : decode cX1_standing 101 = .ok (.iload 6, 2) := by decide +kernel
theorem dX1_standing_103 : decode cX1_standing 103 = .ok (.iload 4, 2) := by decide +kernel
theorem dX1_standing_105 : decode cX1_standing 105 = .ok (.iadd, 1) := by decide +kernel
theorem dX1_standing_106 : decode cX1_standing 106 = .ok (.iaload, 1) := by decide +kernel
theorem dX1_standing_107 : decode cX1_standing 107 = .ok (.iload_n 3, 1) := by decide +kernel
theorem dX1_standing_108 : decode cX1_standing 108 = .ok (.if_icmp .eq 6, 3) := by decide +kernel
theorem dX1_standing_111 : decode cX1_standing 111 = .ok (.bipush (-3), 2) := by decide +kernel
theorem dX1_standing_113 : decode cX1_standing 113 = .ok (.ireturn, 1) := by decide +kernel
theorem dX1_standing_114 : decode cX1_standing 114 = .ok (.iload 7, 2) := by decide +kernel
theorem dX1_standing_116 : decode cX1_standing 116 = .ok (.istore 4, 2) := by decide +kernel
theorem dX1_standing_118 : decode cX1_standing 118 = .ok (.aload_n 0, 1) := by decide +kernel
theorem dX1_standing_119 : decode cX1_standing 119 = .ok (.getfield 39, 3) := by decide +kernel
theorem dX1_standing_122 : decode cX1_standing 122 = .ok (.iload 6, 2) := by decide +kernel
theorem dX1_standing_124 : decode cX1_standing 124 = .ok (.iload 7, 2) := by decide +kernel
theorem dX1_standing_126 : decode cX1_standing 126 = .ok (.iadd, 1) := by decide +kernel
theorem dX1_standing_127 : decode cX1_standing 127 = .ok (.iaload, 1) := by decide +kernel
theorem dX1_standing_128 : decode cX1_standing 128 = .ok (.istore_n 3, 1) := by decide +kernel
theorem dX1_standing_129 : decode cX1_standing 129 = .ok (.iinc 5 1, 3) := by decide +kernel
theorem dX1_standing_132 : decode cX1_standing 132 = .ok (.goto (-75), 3) := by decide +kernel
theorem dX1_standing_135 : decode cX1_standing 135 = .ok (.aload_n 0, 1) := by decide +kernel
theorem dX1_standing_136 : decode cX1_standing 136 = .ok (.getfield 9, 3) := by decide +kernel
theorem dX1_standing_139 : decode cX1_standing 139 = .ok (.iload 4, 2) := by decide +kernel
theorem dX1_standing_141 : decode cX1_standing 141 = .ok (.iaload, 1) := by decide +kernel
theorem dX1_standing_142 : decode cX1_standing 142 = .ok (.ifCond .eq 14, 3) := by decide +kernel
theorem dX1_standing_145 : decode cX1_standing 145 = .ok (.aload_n 0, 1) := by decide +kernel
theorem dX1_standing_146 : decode cX1_standing 146 = .ok (.getfield 18, 3) := by decide +kernel
theorem dX1_standing_149 : decode cX1_standing 149 = .ok (.iload 4, 2) := by decide +kernel
theorem dX1_standing_151 : decode cX1_standing 151 = .ok (.iaload, 1) := by decide +kernel
theorem dX1_standing_152 : decode cX1_standing 152 = .ok (.iload_n 3, 1) := by decide +kernel
theorem dX1_standing_153 : decode cX1_standing 153 = .ok (.if_icmp .eq 8, 3) := by decide +kernel
theorem dX1_standing_156 : decode cX1_standing 156 = .ok (.bipush (-4), 2) := by decide +kernel
theorem dX1_standing_158 : decode cX1_standing 158 = .ok (.goto 5, 3) := by decide +kernel
theorem dX1_standing_161 : decode cX1_standing 161 = .ok (.iload 4, 2) := by decide +kernel
theorem dX1_standing_163 : decode cX1_standing 163 = .ok (.ireturn, 1) := by decide +kernel
theorem dX1_numberWith_0 : decode cX1_numberWith 0 = .ok (.iconst 0, 1) := by decide +kernel
theorem dX1_numberWith_1 : decode cX1_numberWith 1 = .ok (.istore_n 2, 1) := by decide +kernel
theorem dX1_numberWith_2 : decode cX1_numberWith 2 = .ok (.iload_n 2, 1) := by decide +kernel
theorem dX1_numberWith_3 : decode cX1_numberWith 3 = .ok (.bipush 40, 2) := by decide +kernel
theorem dX1_numberWith_5 : decode cX1_numberWith 5 = .ok (.if_icmp .ge 21, 3) := by decide +kernel
theorem dX1_numberWith_8 : decode cX1_numberWith 8 = .ok (.aload_n 0, 1) := by decide +kernel
theorem dX1_numberWith_9 : decode cX1_numberWith 9 = .ok (.getfield 9, 3) := by decide +kernel
theorem dX1_numberWith_12 : decode cX1_numberWith 12 = .ok (.iload_n 2, 1) := by decide +kernel
theorem dX1_numberWith_13 : decode cX1_numberWith 13 = .ok (.iaload, 1) := by decide +kernel
theorem dX1_numberWith_14 : decode cX1_numberWith 14 = .ok (.iload_n 1, 1) := by decide +kernel
theorem dX1_numberWith_15 : decode cX1_numberWith 15 = .ok (.if_icmp .ne 5, 3) := by decide +kernel
theorem dX1_numberWith_18 : decode cX1_numberWith 18 = .ok (.iload_n 2, 1) := by decide +kernel
theorem dX1_numberWith_19 : decode cX1_numberWith 19 = .ok (.ireturn, 1) := by decide +kernel
theorem dX1_numberWith_20 : decode cX1_numberWith 20 = .ok (.iinc 2 1, 3) := by decide +kernel
theorem dX1_numberWith_23 : decode cX1_numberWith 23 = .ok (.goto (-21), 3) := by decide +kernel
theorem dX1_numberWith_26 : decode cX1_numberWith 26 = .ok (.iconst (-1), 1) := by decide +kernel
theorem dX1_numberWith_27 : decode cX1_numberWith 27 = .ok (.ireturn, 1) := by decide +kernel
set_option maxRecDepth 20000 in
theorem ggX1_hasRoomFor_X1_numberWith : GoodIn wsX1_hasRoomFor wsX1_numberWith := goodIn_r _ [5, 6, 15, 16, 17, 18, 19, 20, 21, 22, 23, 24, 25, 26, 27, 28, 29] (by decide +kernel) (by decide +kernel)
set_option maxRecDepth 20000 in
theorem gX1_hasRoomFor_X1_numberWith : GoodIn wsX1_hasRoomFor (wsV RX1 80 RX1 yX1_numberWith wsX1_numberWith) := goodIn_app (goodIn_of _ (by decide +kernel)) ggX1_hasRoomFor_X1_numberWith
set_option maxRecDepth 20000 in
theorem ggX1_hasRoomFor_X1_hasRoomForUser : GoodIn wsX1_hasRoomFor wsX1_hasRoomForUser := goodIn_r _ [10, 11, 12, 13, 14, 15, 16, 17, 18, 19, 20, 21, 22, 23, 24, 25, 26, 27, 28, 29] (by decide +kernel) (by decide +kernel)
set_option maxRecDepth 20000 in
theorem gX1_hasRoomFor_X1_hasRoomForUser : GoodIn wsX1_hasRoomFor (wsV RX1 84 RX1 yX1_hasRoomForUser wsX1_hasRoomForUser) := goodIn_app (goodIn_of _ (by decide +kernel)) ggX1_hasRoomFor_X1_hasRoomForUser
theorem dX1_hasRoomFor_0 : decode cX1_hasRoomFor 0 = .ok (.aload_n 0, 1) := by decide +kernel
theorem dX1_hasRoomFor_1 : decode cX1_hasRoomFor 1 = .ok (.iload_n 1, 1) := by decide +kernel
theorem dX1_hasRoomFor_2 : decode cX1_hasRoomFor 2 = .ok (.invokevirtual 80, 3) := by decide +kernel
theorem dX1_hasRoomFor_5 : decode cX1_hasRoomFor 5 = .ok (.istore_n 2, 1) := by decide +kernel
theorem dX1_hasRoomFor_6 : decode cX1_hasRoomFor 6 = .ok (.iload_n 2, 1) := by decide +kernel
theorem dX1_hasRoomFor_7 : decode cX1_hasRoomFor 7 = .ok (.iconst (-1), 1) := by decide +kernel
theorem dX1_hasRoomFor_8 : decode cX1_hasRoomFor 8 = .ok (.if_icmp .ne 20, 3) := by decide +kernel
theorem dX1_hasRoomFor_11 : decode cX1_hasRoomFor 11 = .ok (.aload_n 0, 1) := by decide +kernel
theorem dX1_hasRoomFor_12 : decode cX1_hasRoomFor 12 = .ok (.iconst 0, 1) := by decide +kernel
theorem dX1_hasRoomFor_13 : decode cX1_hasRoomFor 13 = .ok (.invokevirtual 80, 3) := by decide +kernel
theorem dX1_hasRoomFor_16 : decode cX1_hasRoomFor 16 = .ok (.iconst (-1), 1) := by decide +kernel
theorem dX1_hasRoomFor_17 : decode cX1_hasRoomFor 17 = .ok (.if_icmp .eq 7, 3) := by decide +kernel
theorem dX1_hasRoomFor_20 : decode cX1_hasRoomFor 20 = .ok (.iconst 1, 1) := by decide +kernel
theorem dX1_hasRoomFor_21 : decode cX1_hasRoomFor 21 = .ok (.goto 12, 3) := by decide +kernel
theorem dX1_hasRoomFor_24 : decode cX1_hasRoomFor 24 = .ok (.iconst 0, 1) := by decide +kernel
theorem dX1_hasRoomFor_25 : decode cX1_hasRoomFor 25 = .ok (.goto 8, 3) := by decide +kernel
theorem dX1_hasRoomFor_28 : decode cX1_hasRoomFor 28 = .ok (.aload_n 0, 1) := by decide +kernel
theorem dX1_hasRoomFor_29 : decode cX1_hasRoomFor 29 = .ok (.iload_n 2, 1) := by decide +kernel
theorem dX1_hasRoomFor_30 : decode cX1_hasRoomFor 30 = .ok (.invokevirtual 84, 3) := by decide +kernel
theorem dX1_hasRoomFor_33 : decode cX1_hasRoomFor 33 = .ok (.ireturn, 1) := by decide +kernel
set_option maxRecDepth 20000 in
theorem ggX1_enter_X1_numberWith : GoodIn wsX1_enter wsX1_numberWith := goodIn_r _ [7, 1, 16, 17, 18, 19, 20, 21, 22, 23, 24, 25, 26, 27, 28, 29, 30] (by decide +kernel) (by decide +kernel)
set_option maxRecDepth 20000 in
theorem gX1_enter_X1_numberWith : GoodIn wsX1_enter (wsV RX1 80 RX1 yX1_numberWith wsX1_numberWith) := goodIn_app (goodIn_of _ (by decide +kernel)) ggX1_enter_X1_numberWith
set_option maxRecDepth 20000 in
theorem ggX1_enter_X1_addUser : GoodIn wsX1_enter wsX1_addUser := goodIn_r _ [11, 12, 13, 14, 15, 16, 17, 18, 19, 20, 21, 22, 23, 24, 25, 26, 27, 28, 29, 30] (by decide +kernel) (by decide +kernel)
set_option maxRecDepth 20000 in
theorem gX1_enter_X1_addUser : GoodIn wsX1_enter (wsV RX1 88 RX1 yX1_addUser wsX1_addUser) := goodIn_app (goodIn_of _ (by decide +kernel)) ggX1_enter_X1_addUser
theorem dX1_enter_0 : decode cX1_enter 0 = .ok (.aload_n 0, 1) := by decide +kernel
theorem dX1_enter_1 : decode cX1_enter 1 = .ok (.iload_n 1, 1) := by decide +kernel
theorem dX1_enter_2 : decode cX1_enter 2 = .ok (.invokevirtual 80, 3) := by decide +kernel
theorem dX1_enter_5 : decode cX1_enter 5 = .ok (.istore_n 2, 1) := by decide +kernel
theorem dX1_enter_6 : decode cX1_enter 6 = .ok (.iload_n 2, 1) := by decide +kernel
theorem dX1_enter_7 : decode cX1_enter 7 = .ok (.iconst (-1), 1) := by decide +kernel
theorem dX1_enter_8 : decode cX1_enter 8 = .ok (.if_icmp .ne 33, 3) := by decide +kernel
theorem dX1_enter_11 : decode cX1_enter 11 = .ok (.aload_n 0, 1) := by decide +kernel
theorem dX1_enter_12 : decode cX1_enter 12 = .ok (.iconst 0, 1) := by decide +kernel
theorem dX1_enter_13 : decode cX1_enter 13 = .ok (.invokevirtual 80, 3) := by decide +kernel
theorem dX1_enter_16 : decode cX1_enter 16 = .ok (.istore_n 2, 1) := by decide +kernel
theorem dX1_enter_17 : decode cX1_enter 17 = .ok (.iload_n 2, 1) := by decide +kernel
theorem dX1_enter_18 : decode cX1_enter 18 = .ok (.iconst (-1), 1) := by decide +kernel
theorem dX1_enter_19 : decode cX1_enter 19 = .ok (.if_icmp .ne 5, 3) := by decide +kernel
theorem dX1_enter_22 : decode cX1_enter 22 = .ok (.iconst (-1), 1) := by decide +kernel
theorem dX1_enter_23 : decode cX1_enter 23 = .ok (.ireturn, 1) := by decide +kernel
theorem dX1_enter_24 : decode cX1_enter 24 = .ok (.aload_n 0, 1) := by decide +kernel
theorem dX1_enter_25 : decode cX1_enter 25 = .ok (.getfield 9, 3) := by decide +kernel
theorem dX1_enter_28 : decode cX1_enter 28 = .ok (.iload_n 2, 1) := by decide +kernel
theorem dX1_enter_29 : decode cX1_enter 29 = .ok (.iload_n 1, 1) := by decide +kernel
theorem dX1_enter_30 : decode cX1_enter 30 = .ok (.iastore, 1) := by decide +kernel
theorem dX1_enter_31 : decode cX1_enter 31 = .ok (.aload_n 0, 1) := by decide +kernel
theorem dX1_enter_32 : decode cX1_enter 32 = .ok (.dup, 1) := by decide +kernel
theorem dX1_enter_33 : decode cX1_enter 33 = .ok (.getfield 64, 3) := by decide +kernel
theorem dX1_enter_36 : decode cX1_enter 36 = .ok (.iconst 1, 1) := by decide +kernel
theorem dX1_enter_37 : decode cX1_enter 37 = .ok (.iadd, 1) := by decide +kernel
theorem dX1_enter_38 : decode cX1_enter 38 = .ok (.putfield 64, 3) := by decide +kernel
theorem dX1_enter_41 : decode cX1_enter 41 = .ok (.aload_n 0, 1) := by decide +kernel
theorem dX1_enter_42 : decode cX1_enter 42 = .ok (.iload_n 2, 1) := by decide +kernel
theorem dX1_enter_43 : decode cX1_enter 43 = .ok (.invokevirtual 88, 3) := by decide +kernel
theorem dX1_enter_46 : decode cX1_enter 46 = .ok (.pop, 1) := by decide +kernel
theorem dX1_enter_47 : decode cX1_enter 47 = .ok (.iload_n 2, 1) := by decide +kernel
theorem dX1_enter_48 : decode cX1_enter 48 = .ok (.ireturn, 1) := by decide +kernel
set_option maxRecDepth 20000 in
theorem ggX1_hasRoomForUser_X3_isBelow : GoodIn wsX1_hasRoomForUser wsX3_isBelow := goodIn_r _ [4] (by decide +kernel) (by decide +kernel)
set_option maxRecDepth 20000 in
theorem gX1_hasRoomForUser_X3_isBelow_n70 : GoodIn wsX1_hasRoomForUser (wsX3_isBelow) := ggX1_hasRoomForUser_X3_isBelow
theorem dX1_hasRoomForUser_0 : decode cX1_hasRoomForUser 0 = .ok (.iload_n 1, 1) := by decide +kernel
theorem dX1_hasRoomForUser_1 : decode cX1_hasRoomForUser 1 = .ok (.bipush 40, 2) := by decide +kernel
theorem dX1_hasRoomForUser_3 : decode cX1_hasRoomForUser 3 = .ok (.invokestatic 70, 3) := by decide +kernel
theorem dX1_hasRoomForUser_6 : decode cX1_hasRoomForUser 6 = .ok (.ifCond .eq 19, 3) := by decide +kernel
theorem dX1_hasRoomForUser_9 : decode cX1_hasRoomForUser 9 = .ok (.aload_n 0, 1) := by decide +kernel
theorem dX1_hasRoomForUser_10 : decode cX1_hasRoomForUser 10 = .ok (.getfield 15, 3) := by decide +kernel
theorem dX1_hasRoomForUser_13 : decode cX1_hasRoomForUser 13 = .ok (.iload_n 1, 1) := by decide +kernel
theorem dX1_hasRoomForUser_14 : decode cX1_hasRoomForUser 14 = .ok (.iaload, 1) := by decide +kernel
theorem dX1_hasRoomForUser_15 : decode cX1_hasRoomForUser 15 = .ok (.sipush 999, 3) := by decide +kernel
theorem dX1_hasRoomForUser_18 : decode cX1_hasRoomForUser 18 = .ok (.if_icmp .ge 7, 3) := by decide +kernel
theorem dX1_hasRoomForUser_21 : decode cX1_hasRoomForUser 21 = .ok (.iconst 1, 1) := by decide +kernel
theorem dX1_hasRoomForUser_22 : decode cX1_hasRoomForUser 22 = .ok (.goto 4, 3) := by decide +kernel
theorem dX1_hasRoomForUser_25 : decode cX1_hasRoomForUser 25 = .ok (.iconst 0, 1) := by decide +kernel
theorem dX1_hasRoomForUser_26 : decode cX1_hasRoomForUser 26 = .ok (.ireturn, 1) := by decide +kernel
set_option maxRecDepth 20000 in
theorem ggX1_addUser_X3_isBelow : GoodIn wsX1_addUser wsX3_isBelow := goodIn_r _ [4] (by decide +kernel) (by decide +kernel)
set_option maxRecDepth 20000 in
theorem gX1_addUser_X3_isBelow_n70 : GoodIn wsX1_addUser (wsX3_isBelow) := ggX1_addUser_X3_isBelow
theorem dX1_addUser_0 : decode cX1_addUser 0 = .ok (.iload_n 1, 1) := by decide +kernel
theorem dX1_addUser_1 : decode cX1_addUser 1 = .ok (.bipush 40, 2) := by decide +kernel
theorem dX1_addUser_3 : decode cX1_addUser 3 = .ok (.invokestatic 70, 3) := by decide +kernel
theorem dX1_addUser_6 : decode cX1_addUser 6 = .ok (.ifCond .ne 5, 3) := by decide +kernel
theorem dX1_addUser_9 : decode cX1_addUser 9 = .ok (.iconst 0, 1) := by decide +kernel
theorem dX1_addUser_10 : decode cX1_addUser 10 = .ok (.ireturn, 1) := by decide +kernel
theorem dX1_addUser_11 : decode cX1_addUser 11 = .ok (.aload_n 0, 1) := by decide +kernel
theorem dX1_addUser_12 : decode cX1_addUser 12 = .ok (.getfield 15, 3) := by decide +kernel
theorem dX1_addUser_15 : decode cX1_addUser 15 = .ok (.iload_n 1, 1) := by decide +kernel
theorem dX1_addUser_16 : decode cX1_addUser 16 = .ok (.dup2, 1) := by decide +kernel
theorem dX1_addUser_17 : decode cX1_addUser 17 = .ok (.iaload, 1) := by decide +kernel
theorem dX1_addUser_18 : decode cX1_addUser 18 = .ok (.iconst 1, 1) := by decide +kernel
theorem dX1_addUser_19 : decode cX1_addUser 19 = .ok (.iadd, 1) := by decide +kernel
theorem dX1_addUser_20 : decode cX1_addUser 20 = .ok (.iastore, 1) := by decide +kernel
theorem dX1_addUser_21 : decode cX1_addUser 21 = .ok (.aload_n 0, 1) := by decide +kernel
theorem dX1_addUser_22 : decode cX1_addUser 22 = .ok (.getfield 15, 3) := by decide +kernel
theorem dX1_addUser_25 : decode cX1_addUser 25 = .ok (.iload_n 1, 1) := by decide +kernel
theorem dX1_addUser_26 : decode cX1_addUser 26 = .ok (.iaload, 1) := by decide +kernel
theorem dX1_addUser_27 : decode cX1_addUser 27 = .ok (.ireturn, 1) := by decide +kernel
set_option maxRecDepth 20000 in
theorem ggX1_hasFreeUser_X3_isBelow : GoodIn wsX1_hasFreeUser wsX3_isBelow := goodIn_r _ [4] (by decide +kernel) (by decide +kernel)
set_option maxRecDepth 20000 in
theorem gX1_hasFreeUser_X3_isBelow_n70 : GoodIn wsX1_hasFreeUser (wsX3_isBelow) := ggX1_hasFreeUser_X3_isBelow
set_option maxRecDepth 20000 in
theorem ggX1_hasFreeUser_X1_cellsWith : GoodIn wsX1_hasFreeUser wsX1_cellsWith := goodIn_r _ [9, 10, 11, 12, 13, 14, 15, 16, 17, 18, 19, 20, 21, 22, 23, 24, 25] (by decide +kernel) (by decide +kernel)
set_option maxRecDepth 20000 in
theorem gX1_hasFreeUser_X1_cellsWith : GoodIn wsX1_hasFreeUser (wsV RX1 91 RX1 yX1_cellsWith wsX1_cellsWith) := goodIn_app (goodIn_of _ (by decide +kernel)) ggX1_hasFreeUser_X1_cellsWith
theorem dX1_hasFreeUser_0 : decode cX1_hasFreeUser 0 = .ok (.iload_n 1, 1) := by decide +kernel
theorem dX1_hasFreeUser_1 : decode cX1_hasFreeUser 1 = .ok (.bipush 40, 2) := by decide +kernel
theorem dX1_hasFreeUser_3 : decode cX1_hasFreeUser 3 = .ok (.invokestatic 70, 3) := by decide +kernel
theorem dX1_hasFreeUser_6 : decode cX1_hasFreeUser 6 = .ok (.ifCond .eq 21, 3) := by decide +kernel
theorem dX1_hasFreeUser_9 : decode cX1_hasFreeUser 9 = .ok (.aload_n 0, 1) := by decide +kernel
theorem dX1_hasFreeUser_10 : decode cX1_hasFreeUser 10 = .ok (.getfield 15, 3) := by decide +kernel
theorem dX1_hasFreeUser_13 : decode cX1_hasFreeUser 13 = .ok (.iload_n 1, 1) := by decide +kernel
theorem dX1_hasFreeUser_14 : decode cX1_hasFreeUser 14 = .ok (.iaload, 1) := by decide +kernel
theorem dX1_hasFreeUser_15 : decode cX1_hasFreeUser 15 = .ok (.aload_n 0, 1) := by decide +kernel
theorem dX1_hasFreeUser_16 : decode cX1_hasFreeUser 16 = .ok (.iload_n 1, 1) := by decide +kernel
theorem dX1_hasFreeUser_17 : decode cX1_hasFreeUser 17 = .ok (.invokevirtual 91, 3) := by decide +kernel
theorem dX1_hasFreeUser_20 : decode cX1_hasFreeUser 20 = .ok (.if_icmp .le 7, 3) := by decide +kernel
theorem dX1_hasFreeUser_23 : decode cX1_hasFreeUser 23 = .ok (.iconst 1, 1) := by decide +kernel
theorem dX1_hasFreeUser_24 : decode cX1_hasFreeUser 24 = .ok (.goto 4, 3) := by decide +kernel
theorem dX1_hasFreeUser_27 : decode cX1_hasFreeUser 27 = .ok (.iconst 0, 1) := by decide +kernel
theorem dX1_hasFreeUser_28 : decode cX1_hasFreeUser 28 = .ok (.ireturn, 1) := by decide +kernel
set_option maxRecDepth 20000 in
theorem ggX1_giveBack_X3_isBelow : GoodIn wsX1_giveBack wsX3_isBelow := goodIn_r _ [7] (by decide +kernel) (by decide +kernel)
set_option maxRecDepth 20000 in
theorem gX1_giveBack_X3_isBelow_n70 : GoodIn wsX1_giveBack (wsX3_isBelow) := ggX1_giveBack_X3_isBelow
theorem dX1_giveBack_0 : decode cX1_giveBack 0 = .ok (.iload_n 1, 1) := by decide +kernel
theorem dX1_giveBack_1 : decode cX1_giveBack 1 = .ok (.bipush 40, 2) := by decide +kernel
theorem dX1_giveBack_3 : decode cX1_giveBack 3 = .ok (.invokestatic 70, 3) := by decide +kernel
theorem dX1_giveBack_6 : decode cX1_giveBack 6 = .ok (.ifCond .eq 12, 3) := by decide +kernel
theorem dX1_giveBack_9 : decode cX1_giveBack 9 = .ok (.aload_n 0, 1) := by decide +kernel
theorem dX1_giveBack_10 : decode cX1_giveBack 10 = .ok (.getfield 15, 3) := by decide +kernel
theorem dX1_giveBack_13 : decode cX1_giveBack 13 = .ok (.iload_n 1, 1) := by decide +kernel
theorem dX1_giveBack_14 : decode cX1_giveBack 14 = .ok (.iaload, 1) := by decide +kernel
theorem dX1_giveBack_15 : decode cX1_giveBack 15 = .ok (.ifCond .gt 5, 3) := by decide +kernel
theorem dX1_giveBack_18 : decode cX1_giveBack 18 = .ok (.iconst 0, 1) := by decide +kernel
theorem dX1_giveBack_19 : decode cX1_giveBack 19 = .ok (.ireturn, 1) := by decide +kernel
theorem dX1_giveBack_20 : decode cX1_giveBack 20 = .ok (.aload_n 0, 1) := by decide +kernel
theorem dX1_giveBack_21 : decode cX1_giveBack 21 = .ok (.getfield 15, 3) := by decide +kernel
theorem dX1_giveBack_24 : decode cX1_giveBack 24 = .ok (.iload_n 1, 1) := by decide +kernel
theorem dX1_giveBack_25 : decode cX1_giveBack 25 = .ok (.dup2, 1) := by decide +kernel
theorem dX1_giveBack_26 : decode cX1_giveBack 26 = .ok (.iaload, 1) := by decide +kernel
theorem dX1_giveBack_27 : decode cX1_giveBack 27 = .ok (.iconst 1, 1) := by decide +kernel
theorem dX1_giveBack_28 : decode cX1_giveBack 28 = .ok (.isub, 1) := by decide +kernel
theorem dX1_giveBack_29 : decode cX1_giveBack 29 = .ok (.iastore, 1) := by decide +kernel
theorem dX1_giveBack_30 : decode cX1_giveBack 30 = .ok (.aload_n 0, 1) := by decide +kernel
theorem dX1_giveBack_31 : decode cX1_giveBack 31 = .ok (.getfield 15, 3) := by decide +kernel
theorem dX1_giveBack_34 : decode cX1_giveBack 34 = .ok (.iload_n 1, 1) := by decide +kernel
theorem dX1_giveBack_35 : decode cX1_giveBack 35 = .ok (.iaload, 1) := by decide +kernel
theorem dX1_giveBack_36 : decode cX1_giveBack 36 = .ok (.ifCond .ne 30, 3) := by decide +kernel
theorem dX1_giveBack_39 : decode cX1_giveBack 39 = .ok (.aload_n 0, 1) := by decide +kernel
theorem dX1_giveBack_40 : decode cX1_giveBack 40 = .ok (.getfield 9, 3) := by decide +kernel
theorem dX1_giveBack_43 : decode cX1_giveBack 43 = .ok (.iload_n 1, 1) := by decide +kernel
theorem dX1_giveBack_44 : decode cX1_giveBack 44 = .ok (.iconst 0, 1) := by decide +kernel
theorem dX1_giveBack_45 : decode cX1_giveBack 45 = .ok (.iastore, 1) := by decide +kernel
theorem dX1_giveBack_46 : decode cX1_giveBack 46 = .ok (.aload_n 0, 1) := by decide +kernel
theorem dX1_giveBack_47 : decode cX1_giveBack 47 = .ok (.getfield 18, 3) := by decide +kernel
theorem dX1_giveBack_50 : decode cX1_giveBack 50 = .ok (.iload_n 1, 1) := by decide +kernel
theorem dX1_giveBack_51 : decode cX1_giveBack 51 = .ok (.dup2, 1) := by decide +kernel
theorem dX1_giveBack_52 : decode cX1_giveBack 52 = .ok (.iaload, 1) := by decide +kernel
theorem dX1_giveBack_53 : decode cX1_giveBack 53 = .ok (.iconst 1, 1) := by decide +kernel
theorem dX1_giveBack_54 : decode cX1_giveBack 54 = .ok (.iadd, 1) := by decide +kernel
theorem dX1_giveBack_55 : decode cX1_giveBack 55 = .ok (.iastore, 1) := by decide +kernel
theorem dX1_giveBack_56 : decode cX1_giveBack 56 = .ok (.aload_n 0, 1) := by decide +kernel
theorem dX1_giveBack_57 : decode cX1_giveBack 57 = .ok (.dup, 1) := by decide +kernel
theorem dX1_giveBack_58 : decode cX1_giveBack 58 = .ok (.getfield 67, 3) := by decide +kernel
theorem dX1_giveBack_61 : decode cX1_giveBack 61 = .ok (.iconst 1, 1) := by decide +kernel
theorem dX1_giveBack_62 : decode cX1_giveBack 62 = .ok (.iadd, 1) := by decide +kernel
theorem dX1_giveBack_63 : decode cX1_giveBack 63 = .ok (.putfield 67, 3) := by decide +kernel
theorem dX1_giveBack_66 : decode cX1_giveBack 66 = .ok (.aload_n 0, 1) := by decide +kernel
theorem dX1_giveBack_67 : decode cX1_giveBack 67 = .ok (.getfield 15, 3) := by decide +kernel
theorem dX1_giveBack_70 : decode cX1_giveBack 70 = .ok (.iload_n 1, 1) := by decide +kernel
theorem dX1_giveBack_71 : decode cX1_giveBack 71 = .ok (.iaload, 1) := by decide +kernel
theorem dX1_giveBack_72 : decode cX1_giveBack 72 = .ok (.ireturn, 1) := by decide +kernel
set_option maxRecDepth 20000 in
theorem ggX1_fillCell_X3_isBelow : GoodIn wsX1_fillCell wsX3_isBelow := goodIn_r _ [5] (by decide +kernel) (by decide +kernel)
set_option maxRecDepth 20000 in
theorem gX1_fillCell_X3_isBelow_n70 : GoodIn wsX1_fillCell (wsX3_isBelow) := ggX1_fillCell_X3_isBelow
set_option maxRecDepth 20000 in
theorem ggX1_fillCell_X1_addUser : GoodIn wsX1_fillCell wsX1_addUser := goodIn_r _ [10, 2, 3, 4, 5, 18, 19, 20, 21, 22, 23, 24, 25, 26, 27, 28, 29, 30, 31, 32] (by decide +kernel) (by decide +kernel)
set_option maxRecDepth 20000 in
theorem gX1_fillCell_X1_addUser : GoodIn wsX1_fillCell (wsV RX1 88 RX1 yX1_addUser wsX1_addUser) := goodIn_app (goodIn_of _ (by decide +kernel)) ggX1_fillCell_X1_addUser
set_option maxRecDepth 20000 in
theorem ggX1_fillCell_X1_giveBack : GoodIn wsX1_fillCell wsX1_giveBack := goodIn_r _ [14, 2, 15, 16, 17, 3, 4, 5, 18, 19, 20, 21, 22, 23, 24, 25, 26, 27, 28, 29, 30, 31, 32] (by decide +kernel) (by decide +kernel)
set_option maxRecDepth 20000 in
theorem gX1_fillCell_X1_giveBack : GoodIn wsX1_fillCell (wsV RX1 94 RX1 yX1_giveBack wsX1_giveBack) := goodIn_app (goodIn_of _ (by decide +kernel)) ggX1_fillCell_X1_giveBack
theorem dX1_fillCell_0 : decode cX1_fillCell 0 = .ok (.iload_n 1, 1) := by decide +kernel
theorem dX1_fillCell_1 : decode cX1_fillCell 1 = .ok (.aload_n 0, 1) := by decide +kernel
theorem dX1_fillCell_2 : decode cX1_fillCell 2 = .ok (.getfield 21, 3) := by decide +kernel
theorem dX1_fillCell_5 : decode cX1_fillCell 5 = .ok (.arraylength, 1) := by decide +kernel
theorem dX1_fillCell_6 : decode cX1_fillCell 6 = .ok (.invokestatic 70, 3) := by decide +kernel
theorem dX1_fillCell_9 : decode cX1_fillCell 9 = .ok (.ifCond .eq 12, 3) := by decide +kernel
theorem dX1_fillCell_12 : decode cX1_fillCell 12 = .ok (.iload_n 2, 1) := by decide +kernel
theorem dX1_fillCell_13 : decode cX1_fillCell 13 = .ok (.bipush 40, 2) := by decide +kernel
theorem dX1_fillCell_15 : decode cX1_fillCell 15 = .ok (.invokestatic 70, 3) := by decide +kernel
theorem dX1_fillCell_18 : decode cX1_fillCell 18 = .ok (.ifCond .ne 5, 3) := by decide +kernel
theorem dX1_fillCell_21 : decode cX1_fillCell 21 = .ok (.iconst 0, 1) := by decide +kernel
theorem dX1_fillCell_22 : decode cX1_fillCell 22 = .ok (.ireturn, 1) := by decide +kernel
theorem dX1_fillCell_23 : decode cX1_fillCell 23 = .ok (.aload_n 0, 1) := by decide +kernel
theorem dX1_fillCell_24 : decode cX1_fillCell 24 = .ok (.iload_n 2, 1) := by decide +kernel
theorem dX1_fillCell_25 : decode cX1_fillCell 25 = .ok (.invokevirtual 88, 3) := by decide +kernel
theorem dX1_fillCell_28 : decode cX1_fillCell 28 = .ok (.pop, 1) := by decide +kernel
theorem dX1_fillCell_29 : decode cX1_fillCell 29 = .ok (.aload_n 0, 1) := by decide +kernel
theorem dX1_fillCell_30 : decode cX1_fillCell 30 = .ok (.aload_n 0, 1) := by decide +kernel
theorem dX1_fillCell_31 : decode cX1_fillCell 31 = .ok (.getfield 21, 3) := by decide +kernel
theorem dX1_fillCell_34 : decode cX1_fillCell 34 = .ok (.iload_n 1, 1) := by decide +kernel
theorem dX1_fillCell_35 : decode cX1_fillCell 35 = .ok (.iaload, 1) := by decide +kernel
theorem dX1_fillCell_36 : decode cX1_fillCell 36 = .ok (.invokevirtual 94, 3) := by decide +kernel
theorem dX1_fillCell_39 : decode cX1_fillCell 39 = .ok (.pop, 1) := by decide +kernel
theorem dX1_fillCell_40 : decode cX1_fillCell 40 = .ok (.aload_n 0, 1) := by decide +kernel
theorem dX1_fillCell_41 : decode cX1_fillCell 41 = .ok (.getfield 21, 3) := by decide +kernel
theorem dX1_fillCell_44 : decode cX1_fillCell 44 = .ok (.iload_n 1, 1) := by decide +kernel
theorem dX1_fillCell_45 : decode cX1_fillCell 45 = .ok (.iload_n 2, 1) := by decide +kernel
theorem dX1_fillCell_46 : decode cX1_fillCell 46 = .ok (.iastore, 1) := by decide +kernel
theorem dX1_fillCell_47 : decode cX1_fillCell 47 = .ok (.aload_n 0, 1) := by decide +kernel
theorem dX1_fillCell_48 : decode cX1_fillCell 48 = .ok (.getfield 15, 3) := by decide +kernel
theorem dX1_fillCell_51 : decode cX1_fillCell 51 = .ok (.iload_n 2, 1) := by decide +kernel
theorem dX1_fillCell_52 : decode cX1_fillCell 52 = .ok (.iaload, 1) := by decide +kernel
theorem dX1_fillCell_53 : decode cX1_fillCell 53 = .ok (.ireturn, 1) := by decide +kernel
set_option maxRecDepth 20000 in
theorem ggX1_emptyCell_X3_isBelow : GoodIn wsX1_emptyCell wsX3_isBelow := goodIn_r _ [4] (by decide +kernel) (by decide +kernel)
set_option maxRecDepth 20000 in
theorem gX1_emptyCell_X3_isBelow_n70 : GoodIn wsX1_emptyCell (wsX3_isBelow) := ggX1_emptyCell_X3_isBelow
set_option maxRecDepth 20000 in
theorem ggX1_emptyCell_X1_giveBack : GoodIn wsX1_emptyCell wsX1_giveBack := goodIn_r _ [9, 10, 11, 12, 13, 2, 3, 4, 14, 15, 16, 17, 18, 19, 20, 21, 22, 23, 24, 25, 26, 27, 28] (by decide +kernel) (by decide +kernel)
set_option maxRecDepth 20000 in
theorem gX1_emptyCell_X1_giveBack : GoodIn wsX1_emptyCell (wsV RX1 94 RX1 yX1_giveBack wsX1_giveBack) := goodIn_app (goodIn_of _ (by decide +kernel)) ggX1_emptyCell_X1_giveBack
theorem dX1_emptyCell_0 : decode cX1_emptyCell 0 = .ok (.iload_n 1, 1) := by decide +kernel
theorem dX1_emptyCell_1 : decode cX1_emptyCell 1 = .ok (.aload_n 0, 1) := by decide +kernel
theorem dX1_emptyCell_2 : decode cX1_emptyCell 2 = .ok (.getfield 21, 3) := by decide +kernel
theorem dX1_emptyCell_5 : decode cX1_emptyCell 5 = .ok (.arraylength, 1) := by decide +kernel
theorem dX1_emptyCell_6 : decode cX1_emptyCell 6 = .ok (.invokestatic 70, 3) := by decide +kernel
theorem dX1_emptyCell_9 : decode cX1_emptyCell 9 = .ok (.ifCond .ne 5, 3) := by decide +kernel
theorem dX1_emptyCell_12 : decode cX1_emptyCell 12 = .ok (.iconst 0, 1) := by decide +kernel
theorem dX1_emptyCell_13 : decode cX1_emptyCell 13 = .ok (.ireturn, 1) := by decide +kernel
theorem dX1_emptyCell_14 : decode cX1_emptyCell 14 = .ok (.aload_n 0, 1) := by decide +kernel
theorem dX1_emptyCell_15 : decode cX1_emptyCell 15 = .ok (.getfield 21, 3) := by decide +kernel
theorem dX1_emptyCell_18 : decode cX1_emptyCell 18 = .ok (.iload_n 1, 1) := by decide +kernel
theorem dX1_emptyCell_19 : decode cX1_emptyCell 19 = .ok (.iaload, 1) := by decide +kernel
theorem dX1_emptyCell_20 : decode cX1_emptyCell 20 = .ok (.istore_n 2, 1) := by decide +kernel
theorem dX1_emptyCell_21 : decode cX1_emptyCell 21 = .ok (.aload_n 0, 1) := by decide +kernel
theorem dX1_emptyCell_22 : decode cX1_emptyCell 22 = .ok (.getfield 21, 3) := by decide +kernel
theorem dX1_emptyCell_25 : decode cX1_emptyCell 25 = .ok (.iload_n 1, 1) := by decide +kernel
theorem dX1_emptyCell_26 : decode cX1_emptyCell 26 = .ok (.iconst (-1), 1) := by decide +kernel
theorem dX1_emptyCell_27 : decode cX1_emptyCell 27 = .ok (.iastore, 1) := by decide +kernel
theorem dX1_emptyCell_28 : decode cX1_emptyCell 28 = .ok (.aload_n 0, 1) := by decide +kernel
theorem dX1_emptyCell_29 : decode cX1_emptyCell 29 = .ok (.iload_n 2, 1) := by decide +kernel
theorem dX1_emptyCell_30 : decode cX1_emptyCell 30 = .ok (.invokevirtual 94, 3) := by decide +kernel
theorem dX1_emptyCell_33 : decode cX1_emptyCell 33 = .ok (.ireturn, 1) := by decide +kernel
theorem dX1_cellsWith_0 : decode cX1_cellsWith 0 = .ok (.iconst 0, 1) := by decide +kernel
theorem dX1_cellsWith_1 : decode cX1_cellsWith 1 = .ok (.istore_n 2, 1) := by decide +kernel
theorem dX1_cellsWith_2 : decode cX1_cellsWith 2 = .ok (.iconst 0, 1) := by decide +kernel
theorem dX1_cellsWith_3 : decode cX1_cellsWith 3 = .ok (.istore_n 3, 1) := by decide +kernel
theorem dX1_cellsWith_4 : decode cX1_cellsWith 4 = .ok (.iload_n 3, 1) := by decide +kernel
theorem dX1_cellsWith_5 : decode cX1_cellsWith 5 = .ok (.aload_n 0, 1) := by decide +kernel
theorem dX1_cellsWith_6 : decode cX1_cellsWith 6 = .ok (.getfield 21, 3) := by decide +kernel
theorem dX1_cellsWith_9 : decode cX1_cellsWith 9 = .ok (.arraylength, 1) := by decide +kernel
theorem dX1_cellsWith_10 : decode cX1_cellsWith 10 = .ok (.if_icmp .ge 22, 3) := by decide +kernel
theorem dX1_cellsWith_13 : decode cX1_cellsWith 13 = .ok (.aload_n 0, 1) := by decide +kernel
theorem dX1_cellsWith_14 : decode cX1_cellsWith 14 = .ok (.getfield 21, 3) := by decide +kernel
theorem dX1_cellsWith_17 : decode cX1_cellsWith 17 = .ok (.iload_n 3, 1) := by decide +kernel
theorem dX1_cellsWith_18 : decode cX1_cellsWith 18 = .ok (.iaload, 1) := by decide +kernel
theorem dX1_cellsWith_19 : decode cX1_cellsWith 19 = .ok (.iload_n 1, 1) := by decide +kernel
theorem dX1_cellsWith_20 : decode cX1_cellsWith 20 = .ok (.if_icmp .ne 6, 3) := by decide +kernel
theorem dX1_cellsWith_23 : decode cX1_cellsWith 23 = .ok (.iinc 2 1, 3) := by decide +kernel
theorem dX1_cellsWith_26 : decode cX1_cellsWith 26 = .ok (.iinc 3 1, 3) := by decide +kernel
theorem dX1_cellsWith_29 : decode cX1_cellsWith 29 = .ok (.goto (-25), 3) := by decide +kernel
theorem dX1_cellsWith_32 : decode cX1_cellsWith 32 = .ok (.iload_n 2, 1) := by decide +kernel
theorem dX1_cellsWith_33 : decode cX1_cellsWith 33 = .ok (.ireturn, 1) := by decide +kernel
set_option maxRecDepth 20000 in
theorem ggX1_placeOf_X1_isAhead : GoodIn wsX1_placeOf wsX1_isAhead := goodIn_r _ [6, 1, 7, 8, 9, 10, 11, 12, 13, 14, 15, 16, 17, 18, 19, 20, 21, 22, 23, 24, 25, 26, 27, 28] (by decide +kernel) (by decide +kernel)
set_option maxRecDepth 20000 in
theorem gX1_placeOf_X1_isAhead : GoodIn wsX1_placeOf (wsV RX1 97 RX1 yX1_isAhead wsX1_isAhead) := goodIn_app (goodIn_of _ (by decide +kernel)) ggX1_placeOf_X1_isAhead
theorem dX1_placeOf_0 : decode cX1_placeOf 0 = .ok (.iconst 0, 1) := by decide +kernel
theorem dX1_placeOf_1 : decode cX1_placeOf 1 = .ok (.istore_n 3, 1) := by decide +kernel
theorem dX1_placeOf_2 : decode cX1_placeOf 2 = .ok (.iconst 0, 1) := by decide +kernel
theorem dX1_placeOf_3 : decode cX1_placeOf 3 = .ok (.istore 4, 2) := by decide +kernel
theorem dX1_placeOf_5 : decode cX1_placeOf 5 = .ok (.iload 4, 2) := by decide +kernel
theorem dX1_placeOf_7 : decode cX1_placeOf 7 = .ok (.bipush 40, 2) := by decide +kernel
theorem dX1_placeOf_9 : decode cX1_placeOf 9 = .ok (.if_icmp .ge 33, 3) := by decide +kernel
theorem dX1_placeOf_12 : decode cX1_placeOf 12 = .ok (.aload_n 0, 1) := by decide +kernel
theorem dX1_placeOf_13 : decode cX1_placeOf 13 = .ok (.getfield 9, 3) := by decide +kernel
theorem dX1_placeOf_16 : decode cX1_placeOf 16 = .ok (.iload 4, 2) := by decide +kernel
theorem dX1_placeOf_18 : decode cX1_placeOf 18 = .ok (.iaload, 1) := by decide +kernel
theorem dX1_placeOf_19 : decode cX1_placeOf 19 = .ok (.ifCond .eq 17, 3) := by decide +kernel
theorem dX1_placeOf_22 : decode cX1_placeOf 22 = .ok (.aload_n 0, 1) := by decide +kernel
theorem dX1_placeOf_23 : decode cX1_placeOf 23 = .ok (.iload 4, 2) := by decide +kernel
theorem dX1_placeOf_25 : decode cX1_placeOf 25 = .ok (.iload_n 1, 1) := by decide +kernel
theorem dX1_placeOf_26 : decode cX1_placeOf 26 = .ok (.iload_n 2, 1) := by decide +kernel
theorem dX1_placeOf_27 : decode cX1_placeOf 27 = .ok (.invokevirtual 97, 3) := by decide +kernel
theorem dX1_placeOf_30 : decode cX1_placeOf 30 = .ok (.ifCond .eq 6, 3) := by decide +kernel
theorem dX1_placeOf_33 : decode cX1_placeOf 33 = .ok (.iinc 3 1, 3) := by decide +kernel
theorem dX1_placeOf_36 : decode cX1_placeOf 36 = .ok (.iinc 4 1, 3) := by decide +kernel
theorem dX1_placeOf_39 : decode cX1_placeOf 39 = .ok (.goto (-34), 3) := by decide +kernel
theorem dX1_placeOf_42 : decode cX1_placeOf 42 = .ok (.iload_n 3, 1) := by decide +kernel
theorem dX1_placeOf_43 : decode cX1_placeOf 43 = .ok (.ireturn, 1) := by decide +kernel
set_option maxRecDepth 20000 in
theorem ggX1_isAhead_X3_isBelow : GoodIn wsX1_isAhead wsX3_isBelow := goodIn_r _ [5] (by decide +kernel) (by decide +kernel)
set_option maxRecDepth 20000 in
theorem gX1_isAhead_X3_isBelow_n70 : GoodIn wsX1_isAhead (wsX3_isBelow) := ggX1_isAhead_X3_isBelow
set_option maxRecDepth 20000 in
theorem ggX1_isAhead_X3_orderKey : GoodIn wsX1_isAhead wsX3_orderKey := goodIn_r _ [7, 8] (by decide +kernel) (by decide +kernel)
set_option maxRecDepth 20000 in
theorem gX1_isAhead_X3_orderKey_n101 : GoodIn wsX1_isAhead (wsX3_orderKey) := ggX1_isAhead_X3_orderKey
theorem dX1_isAhead_0 : decode cX1_isAhead 0 = .ok (.iload_n 1, 1) := by decide +kernel
theorem dX1_isAhead_1 : decode cX1_isAhead 1 = .ok (.bipush 40, 2) := by decide +kernel
theorem dX1_isAhead_3 : decode cX1_isAhead 3 = .ok (.invokestatic 70, 3) := by decide +kernel
theorem dX1_isAhead_6 : decode cX1_isAhead 6 = .ok (.ifCond .eq 12, 3) := by decide +kernel
theorem dX1_isAhead_9 : decode cX1_isAhead 9 = .ok (.iload_n 2, 1) := by decide +kernel
theorem dX1_isAhead_10 : decode cX1_isAhead 10 = .ok (.bipush 40, 2) := by decide +kernel
theorem dX1_isAhead_12 : decode cX1_isAhead 12 = .ok (.invokestatic 70, 3) := by decide +kernel
theorem dX1_isAhead_15 : decode cX1_isAhead 15 = .ok (.ifCond .ne 5, 3) := by decide +kernel
theorem dX1_isAhead_18 : decode cX1_isAhead 18 = .ok (.iconst 0, 1) := by decide +kernel
theorem dX1_isAhead_19 : decode cX1_isAhead 19 = .ok (.ireturn, 1) := by decide +kernel
theorem dX1_isAhead_20 : decode cX1_isAhead 20 = .ok (.iload_n 3, 1) := by decide +kernel
theorem dX1_isAhead_21 : decode cX1_isAhead 21 = .ok (.iconst 1, 1) := by decide +kernel
theorem dX1_isAhead_22 : decode cX1_isAhead 22 = .ok (.if_icmp .ne 30, 3) := by decide +kernel
theorem dX1_isAhead_25 : decode cX1_isAhead 25 = .ok (.aload_n 0, 1) := by decide +kernel
theorem dX1_isAhead_26 : decode cX1_isAhead 26 = .ok (.getfield 9, 3) := by decide +kernel
theorem dX1_isAhead_29 : decode cX1_isAhead 29 = .ok (.iload_n 1, 1) := by decide +kernel
theorem dX1_isAhead_30 : decode cX1_isAhead 30 = .ok (.iaload, 1) := by decide +kernel
theorem dX1_isAhead_31 : decode cX1_isAhead 31 = .ok (.invokestatic 101, 3) := by decide +kernel
theorem dX1_isAhead_34 : decode cX1_isAhead 34 = .ok (.aload_n 0, 1) := by decide +kernel
theorem dX1_isAhead_35 : decode cX1_isAhead 35 = .ok (.getfield 9, 3) := by decide +kernel
theorem dX1_isAhead_38 : decode cX1_isAhead 38 = .ok (.iload_n 2, 1) := by decide +kernel
theorem dX1_isAhead_39 : decode cX1_isAhead 39 = .ok (.iaload, 1) := by decide +kernel
theorem dX1_isAhead_40 : decode cX1_isAhead 40 = .ok (.invokestatic 101, 3) := by decide +kernel
theorem dX1_isAhead_43 : decode cX1_isAhead 43 = .ok (.if_icmp .ge 7, 3) := by decide +kernel
theorem dX1_isAhead_46 : decode cX1_isAhead 46 = .ok (.iconst 1, 1) := by decide +kernel
theorem dX1_isAhead_47 : decode cX1_isAhead 47 = .ok (.goto 4, 3) := by decide +kernel
theorem dX1_isAhead_50 : decode cX1_isAhead 50 = .ok (.iconst 0, 1) := by decide +kernel
theorem dX1_isAhead_51 : decode cX1_isAhead 51 = .ok (.ireturn, 1) := by decide +kernel
theorem dX1_isAhead_52 : decode cX1_isAhead 52 = .ok (.iload_n 3, 1) := by decide +kernel
theorem dX1_isAhead_53 : decode cX1_isAhead 53 = .ok (.iconst 2, 1) := by decide +kernel
theorem dX1_isAhead_54 : decode cX1_isAhead 54 = .ok (.if_icmp .ne 39, 3) := by decide +kernel
theorem dX1_isAhead_57 : decode cX1_isAhead 57 = .ok (.aload_n 0, 1) := by decide +kernel
theorem dX1_isAhead_58 : decode cX1_isAhead 58 = .ok (.getfield 15, 3) := by decide +kernel
theorem dX1_isAhead_61 : decode cX1_isAhead 61 = .ok (.iload_n 1, 1) := by decide +kernel
theorem dX1_isAhead_62 : decode cX1_isAhead 62 = .ok (.iaload, 1) := by decide +kernel
theorem dX1_isAhead_63 : decode cX1_isAhead 63 = .ok (.aload_n 0, 1) := by decide +kernel
theorem dX1_isAhead_64 : decode cX1_isAhead 64 = .ok (.getfield 15, 3) := by decide +kernel
theorem dX1_isAhead_67 : decode cX1_isAhead 67 = .ok (.iload_n 2, 1) := by decide +kernel
theorem dX1_isAhead_68 : decode cX1_isAhead 68 = .ok (.iaload, 1) := by decide +kernel
theorem dX1_isAhead_69 : decode cX1_isAhead 69 = .ok (.if_icmp .eq 24, 3) := by decide +kernel
theorem dX1_isAhead_72 : decode cX1_isAhead 72 = .ok (.aload_n 0, 1) := by decide +kernel
theorem dX1_isAhead_73 : decode cX1_isAhead 73 = .ok (.getfield 15, 3) := by decide +kernel
theorem dX1_isAhead_76 : decode cX1_isAhead 76 = .ok (.iload_n 1, 1) := by decide +kernel
theorem dX1_isAhead_77 : decode cX1_isAhead 77 = .ok (.iaload, 1) := by decide +kernel
theorem dX1_isAhead_78 : decode cX1_isAhead 78 = .ok (.aload_n 0, 1) := by decide +kernel
theorem dX1_isAhead_79 : decode cX1_isAhead 79 = .ok (.getfield 15, 3) := by decide +kernel
theorem dX1_isAhead_82 : decode cX1_isAhead 82 = .ok (.iload_n 2, 1) := by decide +kernel
theorem dX1_isAhead_83 : decode cX1_isAhead 83 = .ok (.iaload, 1) := by decide +kernel
theorem dX1_isAhead_84 : decode cX1_isAhead 84 = .ok (.if_icmp .le 7, 3) := by decide +kernel
theorem dX1_isAhead_87 : decode cX1_isAhead 87 = .ok (.iconst 1, 1) := by decide +kernel
theorem dX1_isAhead_88 : decode cX1_isAhead 88 = .ok (.goto 4, 3) := by decide +kernel
theorem dX1_isAhead_91 : decode cX1_isAhead 91 = .ok (.iconst 0, 1) := by decide +kernel
theorem dX1_isAhead_92 : decode cX1_isAhead 92 = .ok (.ireturn, 1) := by decide +kernel
theorem dX1_isAhead_93 : decode cX1_isAhead 93 = .ok (.iload_n 1, 1) := by decide +kernel
theorem dX1_isAhead_94 : decode cX1_isAhead 94 = .ok (.iload_n 2, 1) := by decide +kernel
theorem dX1_isAhead_95 : decode cX1_isAhead 95 = .ok (.if_icmp .ge 7, 3) := by decide +kernel
theorem dX1_isAhead_98 : decode cX1_isAhead 98 = .ok (.iconst 1, 1) := by decide +kernel
theorem dX1_isAhead_99 : decode cX1_isAhead 99 = .ok (.goto 4, 3) := by decide +kernel
theorem dX1_isAhead_102 : decode cX1_isAhead 102 = .ok (.iconst 0, 1) := by decide +kernel
theorem dX1_isAhead_103 : decode cX1_isAhead 103 = .ok (.ireturn, 1) := by decide +kernel
theorem dX1_hasNextEpoch_0 : decode cX1_hasNextEpoch 0 = .ok (.aload_n 0, 1) := by decide +kernel
theorem dX1_hasNextEpoch_1 : decode cX1_hasNextEpoch 1 = .ok (.getfield 60, 3) := by decide +kernel
theorem dX1_hasNextEpoch_4 : decode cX1_hasNextEpoch 4 = .ok (.sipush 999, 3) := by decide +kernel
theorem dX1_hasNextEpoch_7 : decode cX1_hasNextEpoch 7 = .ok (.if_icmp .ge 7, 3) := by decide +kernel
theorem dX1_hasNextEpoch_10 : decode cX1_hasNextEpoch 10 = .ok (.iconst 1, 1) := by decide +kernel
theorem dX1_hasNextEpoch_11 : decode cX1_hasNextEpoch 11 = .ok (.goto 4, 3) := by decide +kernel
theorem dX1_hasNextEpoch_14 : decode cX1_hasNextEpoch 14 = .ok (.iconst 0, 1) := by decide +kernel
theorem dX1_hasNextEpoch_15 : decode cX1_hasNextEpoch 15 = .ok (.ireturn, 1) := by decide +kernel
set_option maxRecDepth 20000 in
theorem ggX1_giveAnew_X1_placeOf : GoodIn wsX1_giveAnew wsX1_placeOf := goodIn_r _ [18, 2, 19, 20, 21, 17, 22, 23, 24, 25, 26, 27, 28, 29, 49, 50, 51, 52, 53, 54, 55, 56, 57, 58, 59, 60, 61, 62, 63] (by decide +kernel) (by decide +kernel)
set_option maxRecDepth 20000 in
theorem gX1_giveAnew_X1_placeOf : GoodIn wsX1_giveAnew (wsV RX1 104 RX1 yX1_placeOf wsX1_placeOf) := goodIn_app (goodIn_of _ (by decide +kernel)) ggX1_giveAnew_X1_placeOf
set_option maxRecDepth 20000 in
theorem ggX1_giveAnew_X1_namesBelow : GoodIn wsX1_giveAnew wsX1_namesBelow := goodIn_r _ [33, 2, 49, 50, 51, 52, 53, 54, 55, 56, 57, 58, 59, 60, 61, 62, 63] (by decide +kernel) (by decide +kernel)
set_option maxRecDepth 20000 in
theorem gX1_giveAnew_X1_namesBelow : GoodIn wsX1_giveAnew (wsV RX1 108 RX1 yX1_namesBelow wsX1_namesBelow) := goodIn_app (goodIn_of _ (by decide +kernel)) ggX1_giveAnew_X1_namesBelow
set_option maxRecDepth 20000 in
theorem ggX1_giveAnew_X1_moveNames : GoodIn wsX1_giveAnew wsX1_moveNames := goodIn_r _ [37, 2, 38, 9, 10, 11, 12, 23, 39, 3, 7, 40, 41, 42, 43, 24, 25, 26, 49, 50, 51, 52, 53, 54, 55, 56, 57, 58, 59, 60, 61, 62, 63] (by decide +kernel) (by decide +kernel)
set_option maxRecDepth 20000 in
theorem gX1_giveAnew_X1_moveNames : GoodIn wsX1_giveAnew (wsV RX1 111 RX1 yX1_moveNames wsX1_moveNames) := goodIn_app (goodIn_of _ (by decide +kernel)) ggX1_giveAnew_X1_moveNames
set_option maxRecDepth 20000 in
theorem ggX1_giveAnew_X1_moveCells : GoodIn wsX1_giveAnew wsX1_moveCells := goodIn_r _ [47, 48, 3, 24, 25, 26, 49, 50, 51, 52, 53, 54, 55, 56, 57, 58, 59, 60, 61, 62, 63] (by decide +kernel) (by decide +kernel)
set_option maxRecDepth 20000 in
theorem gX1_giveAnew_X1_moveCells : GoodIn wsX1_giveAnew (wsV RX1 115 RX1 yX1_moveCells wsX1_moveCells) := goodIn_app (goodIn_of _ (by decide +kernel)) ggX1_giveAnew_X1_moveCells
theorem dX1_giveAnew_0 : decode cX1_giveAnew 0 = .ok (.aload_n 0, 1) := by decide +kernel
theorem dX1_giveAnew_1 : decode cX1_giveAnew 1 = .ok (.getfield 60, 3) := by decide +kernel
theorem dX1_giveAnew_4 : decode cX1_giveAnew 4 = .ok (.iconst 3, 1) := by decide +kernel
theorem dX1_giveAnew_5 : decode cX1_giveAnew 5 = .ok (.irem, 1) := by decide +kernel
theorem dX1_giveAnew_6 : decode cX1_giveAnew 6 = .ok (.istore_n 2, 1) := by decide +kernel
theorem dX1_giveAnew_7 : decode cX1_giveAnew 7 = .ok (.iload_n 2, 1) := by decide +kernel
theorem dX1_giveAnew_8 : decode cX1_giveAnew 8 = .ok (.bipush 40, 2) := by decide +kernel
theorem dX1_giveAnew_10 : decode cX1_giveAnew 10 = .ok (.imul, 1) := by decide +kernel
theorem dX1_giveAnew_11 : decode cX1_giveAnew 11 = .ok (.istore_n 3, 1) := by decide +kernel
theorem dX1_giveAnew_12 : decode cX1_giveAnew 12 = .ok (.iconst 0, 1) := by decide +kernel
theorem dX1_giveAnew_13 : decode cX1_giveAnew 13 = .ok (.istore 4, 2) := by decide +kernel
theorem dX1_giveAnew_15 : decode cX1_giveAnew 15 = .ok (.iconst 0, 1) := by decide +kernel
theorem dX1_giveAnew_16 : decode cX1_giveAnew 16 = .ok (.istore 5, 2) := by decide +kernel
theorem dX1_giveAnew_18 : decode cX1_giveAnew 18 = .ok (.iload 5, 2) := by decide +kernel
theorem dX1_giveAnew_20 : decode cX1_giveAnew 20 = .ok (.bipush 40, 2) := by decide +kernel
theorem dX1_giveAnew_22 : decode cX1_giveAnew 22 = .ok (.if_icmp .ge 59, 3) := by decide +kernel
theorem dX1_giveAnew_25 : decode cX1_giveAnew 25 = .ok (.aload_n 0, 1) := by decide +kernel
theorem dX1_giveAnew_26 : decode cX1_giveAnew 26 = .ok (.getfield 9, 3) := by decide +kernel
theorem dX1_giveAnew_29 : decode cX1_giveAnew 29 = .ok (.iload 5, 2) := by decide +kernel
theorem dX1_giveAnew_31 : decode cX1_giveAnew 31 = .ok (.iaload, 1) := by decide +kernel
theorem dX1_giveAnew_32 : decode cX1_giveAnew 32 = .ok (.ifCond .ne 7, 3) := by decide +kernel
theorem dX1_giveAnew_35 : decode cX1_giveAnew 35 = .ok (.iconst (-1), 1) := by decide +kernel
theorem dX1_giveAnew_36 : decode cX1_giveAnew 36 = .ok (.goto 10, 3) := by decide +kernel
theorem dX1_giveAnew_39 : decode cX1_giveAnew 39 = .ok (.aload_n 0, 1) := by decide +kernel
theorem dX1_giveAnew_40 : decode cX1_giveAnew 40 = .ok (.iload 5, 2) := by decide +kernel
theorem dX1_giveAnew_42 : decode cX1_giveAnew 42 = .ok (.iload_n 1, 1) := by decide +kernel
theorem dX1_giveAnew_43 : decode cX1_giveAnew 43 = .ok (.invokevirtual 104, 3) := by decide +kernel
theorem dX1_giveAnew_46 : decode cX1_giveAnew 46 = .ok (.istore 6, 2) := by decide +kernel
theorem dX1_giveAnew_48 : decode cX1_giveAnew 48 = .ok (.aload_n 0, 1) := by decide +kernel
theorem dX1_giveAnew_49 : decode cX1_giveAnew 49 = .ok (.getfield 36, 3) := by decide +kernel
theorem dX1_giveAnew_52 : decode cX1_giveAnew 52 = .ok (.iload_n 3, 1) := by decide +kernel
theorem dX1_giveAnew_53 : decode cX1_giveAnew 53 = .ok (.iload 5, 2) := by decide +kernel
theorem dX1_giveAnew_55 : decode cX1_giveAnew 55 = .ok (.iadd, 1) := by decide +kernel
theorem dX1_giveAnew_56 : decode cX1_giveAnew 56 = .ok (.iload 6, 2) := by decide +kernel
theorem dX1_giveAnew_58 : decode cX1_giveAnew 58 = .ok (.iastore, 1) := by decide +kernel
theorem dX1_giveAnew_59 : decode cX1_giveAnew 59 = .ok (.iload 6, 2) := by decide +kernel
theorem dX1_giveAnew_61 : decode cX1_giveAnew 61 = .ok (.iconst (-1), 1) := by decide +kernel
theorem dX1_giveAnew_62 : decode cX1_giveAnew 62 = .ok (.if_icmp .eq 13, 3) := by decide +kernel
theorem dX1_giveAnew_65 : decode cX1_giveAnew 65 = .ok (.iload 6, 2) := by decide +kernel
theorem dX1_giveAnew_67 : decode cX1_giveAnew 67 = .ok (.iload 5, 2) := by decide +kernel
theorem dX1_giveAnew_69 : decode cX1_giveAnew 69 = .ok (.if_icmp .eq 6, 3) := by decide +kernel
theorem dX1_giveAnew_72 : decode cX1_giveAnew 72 = .ok (.iinc 4 1, 3) := by decide +kernel
theorem dX1_giveAnew_75 : decode cX1_giveAnew 75 = .ok (.iinc 5 1, 3) := by decide +kernel
theorem dX1_giveAnew_78 : decode cX1_giveAnew 78 = .ok (.goto (-60), 3) := by decide +kernel
theorem dX1_giveAnew_81 : decode cX1_giveAnew 81 = .ok (.aload_n 0, 1) := by decide +kernel
theorem dX1_giveAnew_82 : decode cX1_giveAnew 82 = .ok (.getfield 24, 3) := by decide +kernel
theorem dX1_giveAnew_85 : decode cX1_giveAnew 85 = .ok (.iload_n 2, 1) := by decide +kernel
theorem dX1_giveAnew_86 : decode cX1_giveAnew 86 = .ok (.iload_n 1, 1) := by decide +kernel
theorem dX1_giveAnew_87 : decode cX1_giveAnew 87 = .ok (.iastore, 1) := by decide +kernel
theorem dX1_giveAnew_88 : decode cX1_giveAnew 88 = .ok (.aload_n 0, 1) := by decide +kernel
theorem dX1_giveAnew_89 : decode cX1_giveAnew 89 = .ok (.getfield 27, 3) := by decide +kernel
theorem dX1_giveAnew_92 : decode cX1_giveAnew 92 = .ok (.iload_n 2, 1) := by decide +kernel
theorem dX1_giveAnew_93 : decode cX1_giveAnew 93 = .ok (.aload_n 0, 1) := by decide +kernel
theorem dX1_giveAnew_94 : decode cX1_giveAnew 94 = .ok (.bipush 40, 2) := by decide +kernel
theorem dX1_giveAnew_96 : decode cX1_giveAnew 96 = .ok (.invokevirtual 108, 3) := by decide +kernel
theorem dX1_giveAnew_99 : decode cX1_giveAnew 99 = .ok (.iastore, 1) := by decide +kernel
theorem dX1_giveAnew_100 : decode cX1_giveAnew 100 = .ok (.aload_n 0, 1) := by decide +kernel
theorem dX1_giveAnew_101 : decode cX1_giveAnew 101 = .ok (.getfield 30, 3) := by decide +kernel
theorem dX1_giveAnew_104 : decode cX1_giveAnew 104 = .ok (.iload_n 2, 1) := by decide +kernel
theorem dX1_giveAnew_105 : decode cX1_giveAnew 105 = .ok (.iload 4, 2) := by decide +kernel
theorem dX1_giveAnew_107 : decode cX1_giveAnew 107 = .ok (.iastore, 1) := by decide +kernel
theorem dX1_giveAnew_108 : decode cX1_giveAnew 108 = .ok (.aload_n 0, 1) := by decide +kernel
theorem dX1_giveAnew_109 : decode cX1_giveAnew 109 = .ok (.getfield 18, 3) := by decide +kernel
theorem dX1_giveAnew_112 : decode cX1_giveAnew 112 = .ok (.iconst 0, 1) := by decide +kernel
theorem dX1_giveAnew_113 : decode cX1_giveAnew 113 = .ok (.aload_n 0, 1) := by decide +kernel
theorem dX1_giveAnew_114 : decode cX1_giveAnew 114 = .ok (.getfield 33, 3) := by decide +kernel
theorem dX1_giveAnew_117 : decode cX1_giveAnew 117 = .ok (.iload_n 3, 1) := by decide +kernel
theorem dX1_giveAnew_118 : decode cX1_giveAnew 118 = .ok (.bipush 40, 2) := by decide +kernel
theorem dX1_giveAnew_120 : decode cX1_giveAnew 120 = .ok (.invokestatic 54, 3) := by decide +kernel
theorem dX1_giveAnew_123 : decode cX1_giveAnew 123 = .ok (.aload_n 0, 1) := by decide +kernel
theorem dX1_giveAnew_124 : decode cX1_giveAnew 124 = .ok (.iload_n 3, 1) := by decide +kernel
theorem dX1_giveAnew_125 : decode cX1_giveAnew 125 = .ok (.invokevirtual 111, 3) := by decide +kernel
theorem dX1_giveAnew_128 : decode cX1_giveAnew 128 = .ok (.aload_n 0, 1) := by decide +kernel
theorem dX1_giveAnew_129 : decode cX1_giveAnew 129 = .ok (.iload_n 3, 1) := by decide +kernel
theorem dX1_giveAnew_130 : decode cX1_giveAnew 130 = .ok (.invokevirtual 115, 3) := by decide +kernel
theorem dX1_giveAnew_133 : decode cX1_giveAnew 133 = .ok (.aload_n 0, 1) := by decide +kernel
theorem dX1_giveAnew_134 : decode cX1_giveAnew 134 = .ok (.getfield 18, 3) := by decide +kernel
theorem dX1_giveAnew_137 : decode cX1_giveAnew 137 = .ok (.iconst 0, 1) := by decide +kernel
theorem dX1_giveAnew_138 : decode cX1_giveAnew 138 = .ok (.aload_n 0, 1) := by decide +kernel
theorem dX1_giveAnew_139 : decode cX1_giveAnew 139 = .ok (.getfield 39, 3) := by decide +kernel
theorem dX1_giveAnew_142 : decode cX1_giveAnew 142 = .ok (.iload_n 3, 1) := by decide +kernel
theorem dX1_giveAnew_143 : decode cX1_giveAnew 143 = .ok (.bipush 40, 2) := by decide +kernel
theorem dX1_giveAnew_145 : decode cX1_giveAnew 145 = .ok (.invokestatic 54, 3) := by decide +kernel
theorem dX1_giveAnew_148 : decode cX1_giveAnew 148 = .ok (.aload_n 0, 1) := by decide +kernel
theorem dX1_giveAnew_149 : decode cX1_giveAnew 149 = .ok (.dup, 1) := by decide +kernel
theorem dX1_giveAnew_150 : decode cX1_giveAnew 150 = .ok (.getfield 60, 3) := by decide +kernel
theorem dX1_giveAnew_153 : decode cX1_giveAnew 153 = .ok (.iconst 1, 1) := by decide +kernel
theorem dX1_giveAnew_154 : decode cX1_giveAnew 154 = .ok (.iadd, 1) := by decide +kernel
theorem dX1_giveAnew_155 : decode cX1_giveAnew 155 = .ok (.putfield 60, 3) := by decide +kernel
theorem dX1_giveAnew_158 : decode cX1_giveAnew 158 = .ok (.iload 4, 2) := by decide +kernel
theorem dX1_giveAnew_160 : decode cX1_giveAnew 160 = .ok (.ireturn, 1) := by decide +kernel
set_option maxRecDepth 20000 in
theorem ggX1_moveNames_J7_fill_53178 : GoodIn wsX1_moveNames wsJ7_fill_53178 := goodIn_r _ [14] (by decide +kernel) (by decide +kernel)
set_option maxRecDepth 20000 in
theorem gX1_moveNames_J7_fill_53178 : GoodIn wsX1_moveNames (va_wsS RX1 48 yJ7_fill_53178 wsJ7_fill_53178) := goodIn_app (goodIn_of _ (by decide +kernel)) ggX1_moveNames_J7_fill_53178
set_option maxRecDepth 20000 in
theorem ggX1_moveNames_X3_isBelow : GoodIn wsX1_moveNames wsX3_isBelow := goodIn_r _ [17] (by decide +kernel) (by decide +kernel)
set_option maxRecDepth 20000 in
theorem gX1_moveNames_X3_isBelow_n70 : GoodIn wsX1_moveNames (wsX3_isBelow) := ggX1_moveNames_X3_isBelow
theorem dX1_moveNames_0 : decode cX1_moveNames 0 = .ok (.aload_n 0, 1) := by decide +kernel
theorem dX1_moveNames_1 : decode cX1_moveNames 1 = .ok (.getfield 9, 3) := by decide +kernel
theorem dX1_moveNames_4 : decode cX1_moveNames 4 = .ok (.iconst 0, 1) := by decide +kernel
theorem dX1_moveNames_5 : decode cX1_moveNames 5 = .ok (.aload_n 0, 1) := by decide +kernel
theorem dX1_moveNames_6 : decode cX1_moveNames 6 = .ok (.getfield 42, 3) := by decide +kernel
theorem dX1_moveNames_9 : decode cX1_moveNames 9 = .ok (.iconst 0, 1) := by decide +kernel
theorem dX1_moveNames_10 : decode cX1_moveNames 10 = .ok (.bipush 40, 2) := by decide +kernel
theorem dX1_moveNames_12 : decode cX1_moveNames 12 = .ok (.invokestatic 54, 3) := by decide +kernel
theorem dX1_moveNames_15 : decode cX1_moveNames 15 = .ok (.aload_n 0, 1) := by decide +kernel
theorem dX1_moveNames_16 : decode cX1_moveNames 16 = .ok (.getfield 15, 3) := by decide +kernel
theorem dX1_moveNames_19 : decode cX1_moveNames 19 = .ok (.iconst 0, 1) := by decide +kernel
theorem dX1_moveNames_20 : decode cX1_moveNames 20 = .ok (.aload_n 0, 1) := by decide +kernel
theorem dX1_moveNames_21 : decode cX1_moveNames 21 = .ok (.getfield 45, 3) := by decide +kernel
theorem dX1_moveNames_24 : decode cX1_moveNames 24 = .ok (.iconst 0, 1) := by decide +kernel
theorem dX1_moveNames_25 : decode cX1_moveNames 25 = .ok (.bipush 40, 2) := by decide +kernel
theorem dX1_moveNames_27 : decode cX1_moveNames 27 = .ok (.invokestatic 54, 3) := by decide +kernel
theorem dX1_moveNames_30 : decode cX1_moveNames 30 = .ok (.aload_n 0, 1) := by decide +kernel
theorem dX1_moveNames_31 : decode cX1_moveNames 31 = .ok (.getfield 9, 3) := by decide +kernel
theorem dX1_moveNames_34 : decode cX1_moveNames 34 = .ok (.iconst 0, 1) := by decide +kernel
theorem dX1_moveNames_35 : decode cX1_moveNames 35 = .ok (.invokestatic 48, 3) := by decide +kernel
theorem dX1_moveNames_38 : decode cX1_moveNames 38 = .ok (.aload_n 0, 1) := by decide +kernel
theorem dX1_moveNames_39 : decode cX1_moveNames 39 = .ok (.getfield 15, 3) := by decide +kernel
theorem dX1_moveNames_42 : decode cX1_moveNames 42 = .ok (.iconst 0, 1) := by decide +kernel
theorem dX1_moveNames_43 : decode cX1_moveNames 43 = .ok (.invokestatic 48, 3) := by decide +kernel
theorem dX1_moveNames_46 : decode cX1_moveNames 46 = .ok (.iconst 0, 1) := by decide +kernel
theorem dX1_moveNames_47 : decode cX1_moveNames 47 = .ok (.istore_n 2, 1) := by decide +kernel
theorem dX1_moveNames_48 : decode cX1_moveNames 48 = .ok (.iload_n 2, 1) := by decide +kernel
theorem dX1_moveNames_49 : decode cX1_moveNames 49 = .ok (.bipush 40, 2) := by decide +kernel
theorem dX1_moveNames_51 : decode cX1_moveNames 51 = .ok (.if_icmp .ge 51, 3) := by decide +kernel
theorem dX1_moveNames_54 : decode cX1_moveNames 54 = .ok (.aload_n 0, 1) := by decide +kernel
theorem dX1_moveNames_55 : decode cX1_moveNames 55 = .ok (.getfield 36, 3) := by decide +kernel
theorem dX1_moveNames_58 : decode cX1_moveNames 58 = .ok (.iload_n 1, 1) := by decide +kernel
theorem dX1_moveNames_59 : decode cX1_moveNames 59 = .ok (.iload_n 2, 1) := by decide +kernel
theorem dX1_moveNames_60 : decode cX1_moveNames 60 = .ok (.iadd, 1) := by decide +kernel
theorem dX1_moveNames_61 : decode cX1_moveNames 61 = .ok (.iaload, 1) := by decide +kernel
theorem dX1_moveNames_62 : decode cX1_moveNames 62 = .ok (.istore_n 3, 1) := by decide +kernel
theorem dX1_moveNames_63 : decode cX1_moveNames 63 = .ok (.iload_n 3, 1) := by decide +kernel
theorem dX1_moveNames_64 : decode cX1_moveNames 64 = .ok (.bipush 40, 2) := by decide +kernel
theorem dX1_moveNames_66 : decode cX1_moveNames 66 = .ok (.invokestatic 70, 3) := by decide +kernel
theorem dX1_moveNames_69 : decode cX1_moveNames 69 = .ok (.ifCond .eq 27, 3) := by decide +kernel
theorem dX1_moveNames_72 : decode cX1_moveNames 72 = .ok (.aload_n 0, 1) := by decide +kernel
theorem dX1_moveNames_73 : decode cX1_moveNames 73 = .ok (.getfield 9, 3) := by decide +kernel
theorem dX1_moveNames_76 : decode cX1_moveNames 76 = .ok (.iload_n 3, 1) := by decide +kernel
theorem dX1_moveNames_77 : decode cX1_moveNames 77 = .ok (.aload_n 0, 1) := by decide +kernel
theorem dX1_moveNames_78 : decode cX1_moveNames 78 = .ok (.getfield 42, 3) := by decide +kernel
theorem dX1_moveNames_81 : decode cX1_moveNames 81 = .ok (.iload_n 2, 1) := by decide +kernel
theorem dX1_moveNames_82 : decode cX1_moveNames 82 = .ok (.iaload, 1) := by decide +kernel
theorem dX1_moveNames_83 : decode cX1_moveNames 83 = .ok (.iastore, 1) := by decide +kernel
theorem dX1_moveNames_84 : decode cX1_moveNames 84 = .ok (.aload_n 0, 1) := by decide +kernel
theorem dX1_moveNames_85 : decode cX1_moveNames 85 = .ok (.getfield 15, 3) := by decide +kernel
theorem dX1_moveNames_88 : decode cX1_moveNames 88 = .ok (.iload_n 3, 1) := by decide +kernel
theorem dX1_moveNames_89 : decode cX1_moveNames 89 = .ok (.aload_n 0, 1) := by decide +kernel
theorem dX1_moveNames_90 : decode cX1_moveNames 90 = .ok (.getfield 45, 3) := by decide +kernel
theorem dX1_moveNames_93 : decode cX1_moveNames 93 = .ok (.iload_n 2, 1) := by decide +kernel
theorem dX1_moveNames_94 : decode cX1_moveNames 94 = .ok (.iaload, 1) := by decide +kernel
theorem dX1_moveNames_95 : decode cX1_moveNames 95 = .ok (.iastore, 1) := by decide +kernel
theorem dX1_moveNames_96 : decode cX1_moveNames 96 = .ok (.iinc 2 1, 3) := by decide +kernel
theorem dX1_moveNames_99 : decode cX1_moveNames 99 = .ok (.goto (-51), 3) := by decide +kernel
theorem dX1_moveNames_102 : decode cX1_moveNames 102 = .ok (.iconst 0, 1) := by decide +kernel
theorem dX1_moveNames_103 : decode cX1_moveNames 103 = .ok (.istore_n 2, 1) := by decide +kernel
theorem dX1_moveNames_104 : decode cX1_moveNames 104 = .ok (.iload_n 2, 1) := by decide +kernel
theorem dX1_moveNames_105 : decode cX1_moveNames 105 = .ok (.bipush 40, 2) := by decide +kernel
theorem dX1_moveNames_107 : decode cX1_moveNames 107 = .ok (.if_icmp .ge 34, 3) := by decide +kernel
theorem dX1_moveNames_110 : decode cX1_moveNames 110 = .ok (.aload_n 0, 1) := by decide +kernel
theorem dX1_moveNames_111 : decode cX1_moveNames 111 = .ok (.getfield 9, 3) := by decide +kernel
theorem dX1_moveNames_114 : decode cX1_moveNames 114 = .ok (.iload_n 2, 1) := by decide +kernel
theorem dX1_moveNames_115 : decode cX1_moveNames 115 = .ok (.iaload, 1) := by decide +kernel
theorem dX1_moveNames_116 : decode cX1_moveNames 116 = .ok (.aload_n 0, 1) := by decide +kernel
theorem dX1_moveNames_117 : decode cX1_moveNames 117 = .ok (.getfield 42, 3) := by decide +kernel
theorem dX1_moveNames_120 : decode cX1_moveNames 120 = .ok (.iload_n 2, 1) := by decide +kernel
theorem dX1_moveNames_121 : decode cX1_moveNames 121 = .ok (.iaload, 1) := by decide +kernel
theorem dX1_moveNames_122 : decode cX1_moveNames 122 = .ok (.if_icmp .eq 13, 3) := by decide +kernel
theorem dX1_moveNames_125 : decode cX1_moveNames 125 = .ok (.aload_n 0, 1) := by decide +kernel
theorem dX1_moveNames_126 : decode cX1_moveNames 126 = .ok (.getfield 18, 3) := by decide +kernel
theorem dX1_moveNames_129 : decode cX1_moveNames 129 = .ok (.iload_n 2, 1) := by decide +kernel
theorem dX1_moveNames_130 : decode cX1_moveNames 130 = .ok (.dup2, 1) := by decide +kernel
theorem dX1_moveNames_131 : decode cX1_moveNames 131 = .ok (.iaload, 1) := by decide +kernel
theorem dX1_moveNames_132 : decode cX1_moveNames 132 = .ok (.iconst 1, 1) := by decide +kernel
theorem dX1_moveNames_133 : decode cX1_moveNames 133 = .ok (.iadd, 1) := by decide +kernel
theorem dX1_moveNames_134 : decode cX1_moveNames 134 = .ok (.iastore, 1) := by decide +kernel
theorem dX1_moveNames_135 : decode cX1_moveNames 135 = .ok (.iinc 2 1, 3) := by decide +kernel
theorem dX1_moveNames_138 : decode cX1_moveNames 138 = .ok (.goto (-34), 3) := by decide +kernel
theorem dX1_moveNames_141 : decode cX1_moveNames 141 = .ok (.return_, 1) := by decide +kernel
set_option maxRecDepth 20000 in
theorem ggX1_moveCells_X3_isBelow : GoodIn wsX1_moveCells wsX3_isBelow := goodIn_r _ [5] (by decide +kernel) (by decide +kernel)
set_option maxRecDepth 20000 in
theorem gX1_moveCells_X3_isBelow_n70 : GoodIn wsX1_moveCells (wsX3_isBelow) := ggX1_moveCells_X3_isBelow
theorem dX1_moveCells_0 : decode cX1_moveCells 0 = .ok (.iconst 0, 1) := by decide +kernel
theorem dX1_moveCells_1 : decode cX1_moveCells 1 = .ok (.istore_n 2, 1) := by decide +kernel
theorem dX1_moveCells_2 : decode cX1_moveCells 2 = .ok (.iload_n 2, 1) := by decide +kernel
theorem dX1_moveCells_3 : decode cX1_moveCells 3 = .ok (.aload_n 0, 1) := by decide +kernel
theorem dX1_moveCells_4 : decode cX1_moveCells 4 = .ok (.getfield 21, 3) := by decide +kernel
theorem dX1_moveCells_7 : decode cX1_moveCells 7 = .ok (.arraylength, 1) := by decide +kernel
theorem dX1_moveCells_8 : decode cX1_moveCells 8 = .ok (.if_icmp .ge 42, 3) := by decide +kernel
theorem dX1_moveCells_11 : decode cX1_moveCells 11 = .ok (.aload_n 0, 1) := by decide +kernel
theorem dX1_moveCells_12 : decode cX1_moveCells 12 = .ok (.getfield 21, 3) := by decide +kernel
theorem dX1_moveCells_15 : decode cX1_moveCells 15 = .ok (.iload_n 2, 1) := by decide +kernel
theorem dX1_moveCells_16 : decode cX1_moveCells 16 = .ok (.iaload, 1) := by decide +kernel
theorem dX1_moveCells_17 : decode cX1_moveCells 17 = .ok (.bipush 40, 2) := by decide +kernel
theorem dX1_moveCells_19 : decode cX1_moveCells 19 = .ok (.invokestatic 70, 3) := by decide +kernel
theorem dX1_moveCells_22 : decode cX1_moveCells 22 = .ok (.ifCond .eq 22, 3) := by decide +kernel
theorem dX1_moveCells_25 : decode cX1_moveCells 25 = .ok (.aload_n 0, 1) := by decide +kernel
theorem dX1_moveCells_26 : decode cX1_moveCells 26 = .ok (.getfield 21, 3) := by decide +kernel
theorem dX1_moveCells_29 : decode cX1_moveCells 29 = .ok (.iload_n 2, 1) := by decide +kernel
theorem dX1_moveCells_30 : decode cX1_moveCells 30 = .ok (.aload_n 0, 1) := by decide +kernel
theorem dX1_moveCells_31 : decode cX1_moveCells 31 = .ok (.getfield 36, 3) := by decide +kernel
theorem dX1_moveCells_34 : decode cX1_moveCells 34 = .ok (.iload_n 1, 1) := by decide +kernel
theorem dX1_moveCells_35 : decode cX1_moveCells 35 = .ok (.aload_n 0, 1) := by decide +kernel
theorem dX1_moveCells_36 : decode cX1_moveCells 36 = .ok (.getfield 21, 3) := by decide +kernel
theorem dX1_moveCells_39 : decode cX1_moveCells 39 = .ok (.iload_n 2, 1) := by decide +kernel
theorem dX1_moveCells_40 : decode cX1_moveCells 40 = .ok (.iaload, 1) := by decide +kernel
theorem dX1_moveCells_41 : decode cX1_moveCells 41 = .ok (.iadd, 1) := by decide +kernel
theorem dX1_moveCells_42 : decode cX1_moveCells 42 = .ok (.iaload, 1) := by decide +kernel
theorem dX1_moveCells_43 : decode cX1_moveCells 43 = .ok (.iastore, 1) := by decide +kernel
theorem dX1_moveCells_44 : decode cX1_moveCells 44 = .ok (.iinc 2 1, 3) := by decide +kernel
theorem dX1_moveCells_47 : decode cX1_moveCells 47 = .ok (.goto (-45), 3) := by decide +kernel
theorem dX1_moveCells_50 : decode cX1_moveCells 50 = .ok (.return_, 1) := by decide +kernel
set_option maxRecDepth 20000 in
theorem ggX1_stillStanding_X1_tagIn : GoodIn wsX1_stillStanding wsX1_tagIn := goodIn_r _ [6, 7] (by decide +kernel) (by decide +kernel)
set_option maxRecDepth 20000 in
theorem gX1_stillStanding_X1_tagIn : GoodIn wsX1_stillStanding (va_wsS RX1 74 yX1_tagIn wsX1_tagIn) := goodIn_app (goodIn_of _ (by decide +kernel)) ggX1_stillStanding_X1_tagIn
set_option maxRecDepth 20000 in
theorem ggX1_stillStanding_X1_standing : GoodIn wsX1_stillStanding wsX1_standing := goodIn_r _ [11, 7, 12, 1, 2, 13, 14, 15, 16, 17, 18, 19, 20, 21, 22, 23, 24, 25, 26, 27, 28, 29, 30, 31, 32, 33] (by decide +kernel) (by decide +kernel)
set_option maxRecDepth 20000 in
theorem gX1_stillStanding_X1_standing : GoodIn wsX1_stillStanding (wsV RX1 118 RX1 yX1_standing wsX1_standing) := goodIn_app (goodIn_of _ (by decide +kernel)) ggX1_stillStanding_X1_standing
theorem dX1_stillStanding_0 : decode cX1_stillStanding 0 = .ok (.iload_n 1, 1) := by decide +kernel
theorem dX1_stillStanding_1 : decode cX1_stillStanding 1 = .ok (.ifCond .ge 5, 3) := by decide +kernel
theorem dX1_stillStanding_4 : decode cX1_stillStanding 4 = .ok (.iconst 0, 1) := by decide +kernel
theorem dX1_stillStanding_5 : decode cX1_stillStanding 5 = .ok (.ireturn, 1) := by decide +kernel
theorem dX1_stillStanding_6 : decode cX1_stillStanding 6 = .ok (.iload_n 1, 1) := by decide +kernel
theorem dX1_stillStanding_7 : decode cX1_stillStanding 7 = .ok (.iconst 3, 1) := by decide +kernel
theorem dX1_stillStanding_8 : decode cX1_stillStanding 8 = .ok (.irem, 1) := by decide +kernel
theorem dX1_stillStanding_9 : decode cX1_stillStanding 9 = .ok (.bipush 40, 2) := by decide +kernel
theorem dX1_stillStanding_11 : decode cX1_stillStanding 11 = .ok (.imul, 1) := by decide +kernel
theorem dX1_stillStanding_12 : decode cX1_stillStanding 12 = .ok (.istore_n 2, 1) := by decide +kernel
theorem dX1_stillStanding_13 : decode cX1_stillStanding 13 = .ok (.iconst 0, 1) := by decide +kernel
theorem dX1_stillStanding_14 : decode cX1_stillStanding 14 = .ok (.istore_n 3, 1) := by decide +kernel
theorem dX1_stillStanding_15 : decode cX1_stillStanding 15 = .ok (.iconst 0, 1) := by decide +kernel
theorem dX1_stillStanding_16 : decode cX1_stillStanding 16 = .ok (.istore 4, 2) := by decide +kernel
theorem dX1_stillStanding_18 : decode cX1_stillStanding 18 = .ok (.iload 4, 2) := by decide +kernel
theorem dX1_stillStanding_20 : decode cX1_stillStanding 20 = .ok (.bipush 40, 2) := by decide +kernel
theorem dX1_stillStanding_22 : decode cX1_stillStanding 22 = .ok (.if_icmp .ge 59, 3) := by decide +kernel
theorem dX1_stillStanding_25 : decode cX1_stillStanding 25 = .ok (.aload_n 0, 1) := by decide +kernel
theorem dX1_stillStanding_26 : decode cX1_stillStanding 26 = .ok (.getfield 36, 3) := by decide +kernel
theorem dX1_stillStanding_29 : decode cX1_stillStanding 29 = .ok (.iload_n 2, 1) := by decide +kernel
theorem dX1_stillStanding_30 : decode cX1_stillStanding 30 = .ok (.iload 4, 2) := by decide +kernel
theorem dX1_stillStanding_32 : decode cX1_stillStanding 32 = .ok (.iadd, 1) := by decide +kernel
theorem dX1_stillStanding_33 : decode cX1_stillStanding 33 = .ok (.iaload, 1) := by decide +kernel
theorem dX1_stillStanding_34 : decode cX1_stillStanding 34 = .ok (.iconst (-1), 1) := by decide +kernel
theorem dX1_stillStanding_35 : decode cX1_stillStanding 35 = .ok (.if_icmp .eq 7, 3) := by decide +kernel
theorem dX1_stillStanding_38 : decode cX1_stillStanding 38 = .ok (.iconst 1, 1) := by decide +kernel
theorem dX1_stillStanding_39 : decode cX1_stillStanding 39 = .ok (.goto 4, 3) := by decide +kernel
theorem dX1_stillStanding_42 : decode cX1_stillStanding 42 = .ok (.iconst 0, 1) := by decide +kernel
theorem dX1_stillStanding_43 : decode cX1_stillStanding 43 = .ok (.istore 5, 2) := by decide +kernel
theorem dX1_stillStanding_45 : decode cX1_stillStanding 45 = .ok (.iload 5, 2) := by decide +kernel
theorem dX1_stillStanding_47 : decode cX1_stillStanding 47 = .ok (.ifCond .eq 28, 3) := by decide +kernel
theorem dX1_stillStanding_50 : decode cX1_stillStanding 50 = .ok (.aload_n 0, 1) := by decide +kernel
theorem dX1_stillStanding_51 : decode cX1_stillStanding 51 = .ok (.iload_n 1, 1) := by decide +kernel
theorem dX1_stillStanding_52 : decode cX1_stillStanding 52 = .ok (.aload_n 0, 1) := by decide +kernel
theorem dX1_stillStanding_53 : decode cX1_stillStanding 53 = .ok (.getfield 33, 3) := by decide +kernel
theorem dX1_stillStanding_56 : decode cX1_stillStanding 56 = .ok (.iload_n 2, 1) := by decide +kernel
theorem dX1_stillStanding_57 : decode cX1_stillStanding 57 = .ok (.iload 4, 2) := by decide +kernel
theorem dX1_stillStanding_59 : decode cX1_stillStanding 59 = .ok (.iadd, 1) := by decide +kernel
theorem dX1_stillStanding_60 : decode cX1_stillStanding 60 = .ok (.iaload, 1) := by decide +kernel
theorem dX1_stillStanding_61 : decode cX1_stillStanding 61 = .ok (.iload 4, 2) := by decide +kernel
theorem dX1_stillStanding_63 : decode cX1_stillStanding 63 = .ok (.invokestatic 74, 3) := by decide +kernel
theorem dX1_stillStanding_66 : decode cX1_stillStanding 66 = .ok (.invokevirtual 118, 3) := by decide +kernel
theorem dX1_stillStanding_69 : decode cX1_stillStanding 69 = .ok (.ifCond .lt 6, 3) := by decide +kernel
theorem dX1_stillStanding_72 : decode cX1_stillStanding 72 = .ok (.iinc 3 1, 3) := by decide +kernel
theorem dX1_stillStanding_75 : decode cX1_stillStanding 75 = .ok (.iinc 4 1, 3) := by decide +kernel
theorem dX1_stillStanding_78 : decode cX1_stillStanding 78 = .ok (.goto (-60), 3) := by decide +kernel
theorem dX1_stillStanding_81 : decode cX1_stillStanding 81 = .ok (.iload_n 3, 1) := by decide +kernel
theorem dX1_stillStanding_82 : decode cX1_stillStanding 82 = .ok (.ireturn, 1) := by decide +kernel
theorem dX1_namesBelow_0 : decode cX1_namesBelow 0 = .ok (.iconst 0, 1) := by decide +kernel
theorem dX1_namesBelow_1 : decode cX1_namesBelow 1 = .ok (.istore_n 2, 1) := by decide +kernel
theorem dX1_namesBelow_2 : decode cX1_namesBelow 2 = .ok (.iconst 0, 1) := by decide +kernel
theorem dX1_namesBelow_3 : decode cX1_namesBelow 3 = .ok (.istore_n 3, 1) := by decide +kernel
theorem dX1_namesBelow_4 : decode cX1_namesBelow 4 = .ok (.iload_n 3, 1) := by decide +kernel
theorem dX1_namesBelow_5 : decode cX1_namesBelow 5 = .ok (.bipush 40, 2) := by decide +kernel
theorem dX1_namesBelow_7 : decode cX1_namesBelow 7 = .ok (.if_icmp .ge 26, 3) := by decide +kernel
theorem dX1_namesBelow_10 : decode cX1_namesBelow 10 = .ok (.iload_n 3, 1) := by decide +kernel
theorem dX1_namesBelow_11 : decode cX1_namesBelow 11 = .ok (.iload_n 1, 1) := by decide +kernel
theorem dX1_namesBelow_12 : decode cX1_namesBelow 12 = .ok (.if_icmp .ge 21, 3) := by decide +kernel
theorem dX1_namesBelow_15 : decode cX1_namesBelow 15 = .ok (.aload_n 0, 1) := by decide +kernel
theorem dX1_namesBelow_16 : decode cX1_namesBelow 16 = .ok (.getfield 9, 3) := by decide +kernel
theorem dX1_namesBelow_19 : decode cX1_namesBelow 19 = .ok (.iload_n 3, 1) := by decide +kernel
theorem dX1_namesBelow_20 : decode cX1_namesBelow 20 = .ok (.iaload, 1) := by decide +kernel
theorem dX1_namesBelow_21 : decode cX1_namesBelow 21 = .ok (.ifCond .eq 6, 3) := by decide +kernel
theorem dX1_namesBelow_24 : decode cX1_namesBelow 24 = .ok (.iinc 2 1, 3) := by decide +kernel
theorem dX1_namesBelow_27 : decode cX1_namesBelow 27 = .ok (.iinc 3 1, 3) := by decide +kernel
theorem dX1_namesBelow_30 : decode cX1_namesBelow 30 = .ok (.goto (-26), 3) := by decide +kernel
theorem dX1_namesBelow_33 : decode cX1_namesBelow 33 = .ok (.iload_n 2, 1) := by decide +kernel
theorem dX1_namesBelow_34 : decode cX1_namesBelow 34 = .ok (.ireturn, 1) := by decide +kernel
theorem dX1_usersOfAll_0 : decode cX1_usersOfAll 0 = .ok (.iconst 0, 1) := by decide +kernel
theorem dX1_usersOfAll_1 : decode cX1_usersOfAll 1 = .ok (.istore_n 1, 1) := by decide +kernel
theorem dX1_usersOfAll_2 : decode cX1_usersOfAll 2 = .ok (.iconst 0, 1) := by decide +kernel
theorem dX1_usersOfAll_3 : decode cX1_usersOfAll 3 = .ok (.istore_n 2, 1) := by decide +kernel
theorem dX1_usersOfAll_4 : decode cX1_usersOfAll 4 = .ok (.iload_n 2, 1) := by decide +kernel
theorem dX1_usersOfAll_5 : decode cX1_usersOfAll 5 = .ok (.bipush 40, 2) := by decide +kernel
theorem dX1_usersOfAll_7 : decode cX1_usersOfAll 7 = .ok (.if_icmp .ge 18, 3) := by decide +kernel
theorem dX1_usersOfAll_10 : decode cX1_usersOfAll 10 = .ok (.iload_n 1, 1) := by decide +kernel
theorem dX1_usersOfAll_11 : decode cX1_usersOfAll 11 = .ok (.aload_n 0, 1) := by decide +kernel
theorem dX1_usersOfAll_12 : decode cX1_usersOfAll 12 = .ok (.getfield 15, 3) := by decide +kernel
theorem dX1_usersOfAll_15 : decode cX1_usersOfAll 15 = .ok (.iload_n 2, 1) := by decide +kernel
theorem dX1_usersOfAll_16 : decode cX1_usersOfAll 16 = .ok (.iaload, 1) := by decide +kernel
theorem dX1_usersOfAll_17 : decode cX1_usersOfAll 17 = .ok (.iadd, 1) := by decide +kernel
theorem dX1_usersOfAll_18 : decode cX1_usersOfAll 18 = .ok (.istore_n 1, 1) := by decide +kernel
theorem dX1_usersOfAll_19 : decode cX1_usersOfAll 19 = .ok (.iinc 2 1, 3) := by decide +kernel
theorem dX1_usersOfAll_22 : decode cX1_usersOfAll 22 = .ok (.goto (-18), 3) := by decide +kernel
theorem dX1_usersOfAll_25 : decode cX1_usersOfAll 25 = .ok (.iload_n 1, 1) := by decide +kernel
theorem dX1_usersOfAll_26 : decode cX1_usersOfAll 26 = .ok (.ireturn, 1) := by decide +kernel
theorem dX1_top_0 : decode cX1_top 0 = .ok (.bipush 40, 2) := by decide +kernel
theorem dX1_top_2 : decode cX1_top 2 = .ok (.istore_n 1, 1) := by decide +kernel
theorem dX1_top_3 : decode cX1_top 3 = .ok (.iload_n 1, 1) := by decide +kernel
theorem dX1_top_4 : decode cX1_top 4 = .ok (.ifCond .le 22, 3) := by decide +kernel
theorem dX1_top_7 : decode cX1_top 7 = .ok (.aload_n 0, 1) := by decide +kernel
theorem dX1_top_8 : decode cX1_top 8 = .ok (.getfield 9, 3) := by decide +kernel
theorem dX1_top_11 : decode cX1_top 11 = .ok (.iload_n 1, 1) := by decide +kernel
theorem dX1_top_12 : decode cX1_top 12 = .ok (.iconst 1, 1) := by decide +kernel
theorem dX1_top_13 : decode cX1_top 13 = .ok (.isub, 1) := by decide +kernel
theorem dX1_top_14 : decode cX1_top 14 = .ok (.iaload, 1) := by decide +kernel
theorem dX1_top_15 : decode cX1_top 15 = .ok (.ifCond .eq 5, 3) := by decide +kernel
theorem dX1_top_18 : decode cX1_top 18 = .ok (.iload_n 1, 1) := by decide +kernel
theorem dX1_top_19 : decode cX1_top 19 = .ok (.ireturn, 1) := by decide +kernel
theorem dX1_top_20 : decode cX1_top 20 = .ok (.iinc 1 (-1), 3) := by decide +kernel
theorem dX1_top_23 : decode cX1_top 23 = .ok (.goto (-20), 3) := by decide +kernel
theorem dX1_top_26 : decode cX1_top 26 = .ok (.iconst 0, 1) := by decide +kernel
theorem dX1_top_27 : decode cX1_top 27 = .ok (.ireturn, 1) := by decide +kernel
theorem dX2_init_0 : decode cX2_init 0 = .ok (.aload_n 0, 1) := by decide +kernel
theorem dX2_init_1 : decode cX2_init 1 = .ok (.invokespecial 3, 3) := by decide +kernel
theorem dX2_init_4 : decode cX2_init 4 = .ok (.aload_n 0, 1) := by decide +kernel
theorem dX2_init_5 : decode cX2_init 5 = .ok (.bipush 60, 2) := by decide +kernel
theorem dX2_init_7 : decode cX2_init 7 = .ok (.newarray .char, 2) := by decide +kernel
theorem dX2_init_9 : decode cX2_init 9 = .ok (.putfield 9, 3) := by decide +kernel
theorem dX2_init_12 : decode cX2_init 12 = .ok (.return_, 1) := by decide +kernel
set_option maxRecDepth 20000 in
theorem ggX2_append_X3_isBelow : GoodIn wsX2_append wsX3_isBelow := goodIn_r _ [5] (by decide +kernel) (by decide +kernel)
set_option maxRecDepth 20000 in
theorem gX2_append_X3_isBelow_n19 : GoodIn wsX2_append (wsX3_isBelow) := ggX2_append_X3_isBelow
theorem dX2_append_0 : decode cX2_append 0 = .ok (.aload_n 0, 1) := by decide +kernel
theorem dX2_append_1 : decode cX2_append 1 = .ok (.getfield 15, 3) := by decide +kernel
theorem dX2_append_4 : decode cX2_append 4 = .ok (.bipush 60, 2) := by decide +kernel
theorem dX2_append_6 : decode cX2_append 6 = .ok (.invokestatic 19, 3) := by decide +kernel
theorem dX2_append_9 : decode cX2_append 9 = .ok (.ifCond .eq 23, 3) := by decide +kernel
theorem dX2_append_12 : decode cX2_append 12 = .ok (.aload_n 0, 1) := by decide +kernel
theorem dX2_append_13 : decode cX2_append 13 = .ok (.getfield 9, 3) := by decide +kernel
theorem dX2_append_16 : decode cX2_append 16 = .ok (.aload_n 0, 1) := by decide +kernel
theorem dX2_append_17 : decode cX2_append 17 = .ok (.getfield 15, 3) := by decide +kernel
theorem dX2_append_20 : decode cX2_append 20 = .ok (.iload_n 1, 1) := by decide +kernel
theorem dX2_append_21 : decode cX2_append 21 = .ok (.castore, 1) := by decide +kernel
theorem dX2_append_22 : decode cX2_append 22 = .ok (.aload_n 0, 1) := by decide +kernel
theorem dX2_append_23 : decode cX2_append 23 = .ok (.dup, 1) := by decide +kernel
theorem dX2_append_24 : decode cX2_append 24 = .ok (.getfield 15, 3) := by decide +kernel
theorem dX2_append_27 : decode cX2_append 27 = .ok (.iconst 1, 1) := by decide +kernel
theorem dX2_append_28 : decode cX2_append 28 = .ok (.iadd, 1) := by decide +kernel
theorem dX2_append_29 : decode cX2_append 29 = .ok (.putfield 15, 3) := by decide +kernel
theorem dX2_append_32 : decode cX2_append 32 = .ok (.aload_n 0, 1) := by decide +kernel
theorem dX2_append_33 : decode cX2_append 33 = .ok (.getfield 15, 3) := by decide +kernel
theorem dX2_append_36 : decode cX2_append 36 = .ok (.ireturn, 1) := by decide +kernel
set_option maxRecDepth 20000 in
theorem ggX2_signAt_X3_isBelow : GoodIn wsX2_signAt wsX3_isBelow := goodIn_r _ [5] (by decide +kernel) (by decide +kernel)
set_option maxRecDepth 20000 in
theorem gX2_signAt_X3_isBelow_n19 : GoodIn wsX2_signAt (wsX3_isBelow) := ggX2_signAt_X3_isBelow
theorem dX2_signAt_0 : decode cX2_signAt 0 = .ok (.iload_n 1, 1) := by decide +kernel
theorem dX2_signAt_1 : decode cX2_signAt 1 = .ok (.bipush 60, 2) := by decide +kernel
theorem dX2_signAt_3 : decode cX2_signAt 3 = .ok (.invokestatic 19, 3) := by decide +kernel
theorem dX2_signAt_6 : decode cX2_signAt 6 = .ok (.ifCond .eq 20, 3) := by decide +kernel
theorem dX2_signAt_9 : decode cX2_signAt 9 = .ok (.iload_n 1, 1) := by decide +kernel
theorem dX2_signAt_10 : decode cX2_signAt 10 = .ok (.aload_n 0, 1) := by decide +kernel
theorem dX2_signAt_11 : decode cX2_signAt 11 = .ok (.getfield 15, 3) := by decide +kernel
theorem dX2_signAt_14 : decode cX2_signAt 14 = .ok (.if_icmp .ge 12, 3) := by decide +kernel
theorem dX2_signAt_17 : decode cX2_signAt 17 = .ok (.aload_n 0, 1) := by decide +kernel
theorem dX2_signAt_18 : decode cX2_signAt 18 = .ok (.getfield 9, 3) := by decide +kernel
theorem dX2_signAt_21 : decode cX2_signAt 21 = .ok (.iload_n 1, 1) := by decide +kernel
theorem dX2_signAt_22 : decode cX2_signAt 22 = .ok (.caload, 1) := by decide +kernel
theorem dX2_signAt_23 : decode cX2_signAt 23 = .ok (.goto 4, 3) := by decide +kernel
theorem dX2_signAt_26 : decode cX2_signAt 26 = .ok (.iconst 0, 1) := by decide +kernel
theorem dX2_signAt_27 : decode cX2_signAt 27 = .ok (.ireturn, 1) := by decide +kernel
set_option maxRecDepth 20000 in
theorem ggX3_init_X1_init : GoodIn wsX3_init wsX1_init := goodIn_r _ [19, 20, 2, 3, 21, 22, 23, 24, 25, 26, 27, 28, 29, 30, 31, 32, 33, 34, 35, 36, 37, 49, 50, 51, 52, 53, 54, 55, 56, 57, 58, 59, 60, 61, 62, 63] (by decide +kernel) (by decide +kernel)
set_option maxRecDepth 20000 in
theorem gX3_init_X1_init : GoodIn wsX3_init (wsX1_init) := ggX3_init_X1_init
set_option maxRecDepth 20000 in
theorem ggX3_init_X2_init : GoodIn wsX3_init wsX2_init := goodIn_r _ [39, 40, 2, 3, 41, 42, 69, 70] (by decide +kernel) (by decide +kernel)
set_option maxRecDepth 20000 in
theorem gX3_init_X2_init_n22 : GoodIn wsX3_init (wsX2_init) := ggX3_init_X2_init
set_option maxRecDepth 20000 in
theorem ggX3_init_X0_init : GoodIn wsX3_init wsX0_init := goodIn_r _ [44, 45, 2, 3, 46, 5, 6, 47, 48, 18, 19, 20, 21, 22, 23, 24, 25, 26, 27, 28, 29, 30, 31, 32, 33, 34, 35, 36, 37, 49, 50, 51, 52, 53, 54, 55, 56, 57, 58, 59, 60, 61, 62, 63, 71, 72, 73, 74, 75, 76, 77, 78, 79, 80, 81, 82] (by decide +kernel) (by decide +kernel)
set_option maxRecDepth 20000 in
theorem gX3_init_X0_init_n29 : GoodIn wsX3_init (wsX0_init) := ggX3_init_X0_init
theorem dX3_init_0 : decode cX3_init 0 = .ok (.aload_n 0, 1) := by decide +kernel
theorem dX3_init_1 : decode cX3_init 1 = .ok (.invokespecial 1, 3) := by decide +kernel
theorem dX3_init_4 : decode cX3_init 4 = .ok (.aload_n 0, 1) := by decide +kernel
theorem dX3_init_5 : decode cX3_init 5 = .ok (.new 7, 3) := by decide +kernel
theorem dX3_init_8 : decode cX3_init 8 = .ok (.dup, 1) := by decide +kernel
theorem dX3_init_9 : decode cX3_init 9 = .ok (.invokespecial 9, 3) := by decide +kernel
theorem dX3_init_12 : decode cX3_init 12 = .ok (.putfield 10, 3) := by decide +kernel
theorem dX3_init_15 : decode cX3_init 15 = .ok (.aload_n 0, 1) := by decide +kernel
theorem dX3_init_16 : decode cX3_init 16 = .ok (.iconst 4, 1) := by decide +kernel
theorem dX3_init_17 : decode cX3_init 17 = .ok (.anewarray 7, 3) := by decide +kernel
theorem dX3_init_20 : decode cX3_init 20 = .ok (.putfield 16, 3) := by decide +kernel
theorem dX3_init_23 : decode cX3_init 23 = .ok (.aload_n 0, 1) := by decide +kernel
theorem dX3_init_24 : decode cX3_init 24 = .ok (.new 20, 3) := by decide +kernel
theorem dX3_init_27 : decode cX3_init 27 = .ok (.dup, 1) := by decide +kernel
theorem dX3_init_28 : decode cX3_init 28 = .ok (.invokespecial 22, 3) := by decide +kernel
theorem dX3_init_31 : decode cX3_init 31 = .ok (.putfield 23, 3) := by decide +kernel
theorem dX3_init_34 : decode cX3_init 34 = .ok (.aload_n 0, 1) := by decide +kernel
theorem dX3_init_35 : decode cX3_init 35 = .ok (.new 27, 3) := by decide +kernel
theorem dX3_init_38 : decode cX3_init 38 = .ok (.dup, 1) := by decide +kernel
theorem dX3_init_39 : decode cX3_init 39 = .ok (.invokespecial 29, 3) := by decide +kernel
theorem dX3_init_42 : decode cX3_init 42 = .ok (.putfield 30, 3) := by decide +kernel
theorem dX3_init_45 : decode cX3_init 45 = .ok (.iconst 0, 1) := by decide +kernel
theorem dX3_init_46 : decode cX3_init 46 = .ok (.istore_n 1, 1) := by decide +kernel
theorem dX3_init_47 : decode cX3_init 47 = .ok (.iload_n 1, 1) := by decide +kernel
theorem dX3_init_48 : decode cX3_init 48 = .ok (.iconst 4, 1) := by decide +kernel
theorem dX3_init_49 : decode cX3_init 49 = .ok (.if_icmp .ge 22, 3) := by decide +kernel
theorem dX3_init_52 : decode cX3_init 52 = .ok (.aload_n 0, 1) := by decide +kernel
theorem dX3_init_53 : decode cX3_init 53 = .ok (.getfield 16, 3) := by decide +kernel
theorem dX3_init_56 : decode cX3_init 56 = .ok (.iload_n 1, 1) := by decide +kernel
theorem dX3_init_57 : decode cX3_init 57 = .ok (.new 7, 3) := by decide +kernel
theorem dX3_init_60 : decode cX3_init 60 = .ok (.dup, 1) := by decide +kernel
theorem dX3_init_61 : decode cX3_init 61 = .ok (.invokespecial 9, 3) := by decide +kernel
theorem dX3_init_64 : decode cX3_init 64 = .ok (.aastore, 1) := by decide +kernel
theorem dX3_init_65 : decode cX3_init 65 = .ok (.iinc 1 1, 3) := by decide +kernel
theorem dX3_init_68 : decode cX3_init 68 = .ok (.goto (-21), 3) := by decide +kernel
theorem dX3_init_71 : decode cX3_init 71 = .ok (.return_, 1) := by decide +kernel
set_option maxRecDepth 20000 in
theorem ggX3_acquire_X3_isName : GoodIn wsX3_acquire wsX3_isName := goodIn_r _ [7, 8] (by decide +kernel) (by decide +kernel)
set_option maxRecDepth 20000 in
theorem gX3_acquire_X3_isName : GoodIn wsX3_acquire (va_wsS RX3 34 yX3_isName wsX3_isName) := goodIn_app (goodIn_of _ (by decide +kernel)) ggX3_acquire_X3_isName
set_option maxRecDepth 20000 in
theorem ggX3_acquire_X1_hasRoomFor : GoodIn wsX3_acquire wsX1_hasRoomFor := goodIn_r _ [13, 14, 15, 16, 12, 17, 18, 19, 20, 21, 22, 23, 24, 6, 25, 73, 74, 75, 76, 77, 78, 79, 80, 81, 82, 83, 84, 85, 86, 87] (by decide +kernel) (by decide +kernel)
set_option maxRecDepth 20000 in
theorem gX3_acquire_X1_hasRoomFor : GoodIn wsX3_acquire (wsV RX3 39 RX1 yX1_hasRoomFor wsX1_hasRoomFor) := goodIn_app (goodIn_of _ (by decide +kernel)) ggX3_acquire_X1_hasRoomFor
set_option maxRecDepth 20000 in
theorem ggX3_acquire_X3_recordState : GoodIn wsX3_acquire wsX3_recordState := goodIn_r _ [29, 30, 31, 2, 32, 33, 34, 12, 35, 18, 36, 37, 38, 39, 23, 40, 41, 42, 43, 44, 45, 46, 47, 48, 49, 50, 68, 69, 70, 71, 72, 73, 74, 75, 76, 77, 78, 79, 80, 81, 82, 83, 84, 85, 86, 87] (by decide +kernel) (by decide +kernel)
set_option maxRecDepth 20000 in
theorem gX3_acquire_X3_recordState : GoodIn wsX3_acquire (wsV RX3 43 RX3 yX3_recordState wsX3_recordState) := goodIn_app (goodIn_of _ (by decide +kernel)) ggX3_acquire_X3_recordState
set_option maxRecDepth 20000 in
theorem ggX3_acquire_X1_enter : GoodIn wsX3_acquire wsX1_enter := goodIn_r _ [54, 18, 43, 14, 15, 16, 12, 17, 55, 56, 57, 58, 23, 24, 6, 25, 73, 74, 75, 76, 77, 78, 79, 80, 81, 82, 83, 84, 85, 86, 87] (by decide +kernel) (by decide +kernel)
set_option maxRecDepth 20000 in
theorem gX3_acquire_X1_enter : GoodIn wsX3_acquire (wsV RX3 46 RX1 yX1_enter wsX1_enter) := goodIn_app (goodIn_of _ (by decide +kernel)) ggX3_acquire_X1_enter
set_option maxRecDepth 20000 in
theorem ggX3_acquire_X1_tagOf : GoodIn wsX3_acquire wsX1_tagOf := goodIn_r _ [62, 42, 40, 63, 24, 6, 25, 64, 65, 12, 66, 67, 73, 74, 75, 76, 77, 78, 79, 80, 81, 82, 83, 84, 85, 86, 87] (by decide +kernel) (by decide +kernel)
set_option maxRecDepth 20000 in
theorem gX3_acquire_X1_tagOf : GoodIn wsX3_acquire (wsV RX3 50 RX1 yX1_tagOf wsX1_tagOf) := goodIn_app (goodIn_of _ (by decide +kernel)) ggX3_acquire_X1_tagOf
theorem dX3_acquire_0 : decode cX3_acquire 0 = .ok (.iload_n 1, 1) := by decide +kernel
theorem dX3_acquire_1 : decode cX3_acquire 1 = .ok (.invokestatic 34, 3) := by decide +kernel
theorem dX3_acquire_4 : decode cX3_acquire 4 = .ok (.ifCond .ne 6, 3) := by decide +kernel
theorem dX3_acquire_7 : decode cX3_acquire 7 = .ok (.ldc 38, 2) := by decide +kernel
theorem dX3_acquire_9 : decode cX3_acquire 9 = .ok (.ireturn, 1) := by decide +kernel
theorem dX3_acquire_10 : decode cX3_acquire 10 = .ok (.aload_n 0, 1) := by decide +kernel
theorem dX3_acquire_11 : decode cX3_acquire 11 = .ok (.getfield 10, 3) := by decide +kernel
theorem dX3_acquire_14 : decode cX3_acquire 14 = .ok (.iload_n 1, 1) := by decide +kernel
theorem dX3_acquire_15 : decode cX3_acquire 15 = .ok (.invokevirtual 39, 3) := by decide +kernel
theorem dX3_acquire_18 : decode cX3_acquire 18 = .ok (.ifCond .ne 6, 3) := by decide +kernel
theorem dX3_acquire_21 : decode cX3_acquire 21 = .ok (.ldc 42, 2) := by decide +kernel
theorem dX3_acquire_23 : decode cX3_acquire 23 = .ok (.ireturn, 1) := by decide +kernel
theorem dX3_acquire_24 : decode cX3_acquire 24 = .ok (.aload_n 0, 1) := by decide +kernel
theorem dX3_acquire_25 : decode cX3_acquire 25 = .ok (.invokevirtual 43, 3) := by decide +kernel
theorem dX3_acquire_28 : decode cX3_acquire 28 = .ok (.aload_n 0, 1) := by decide +kernel
theorem dX3_acquire_29 : decode cX3_acquire 29 = .ok (.getfield 10, 3) := by decide +kernel
theorem dX3_acquire_32 : decode cX3_acquire 32 = .ok (.aload_n 0, 1) := by decide +kernel
theorem dX3_acquire_33 : decode cX3_acquire 33 = .ok (.getfield 10, 3) := by decide +kernel
theorem dX3_acquire_36 : decode cX3_acquire 36 = .ok (.iload_n 1, 1) := by decide +kernel
theorem dX3_acquire_37 : decode cX3_acquire 37 = .ok (.invokevirtual 46, 3) := by decide +kernel
theorem dX3_acquire_40 : decode cX3_acquire 40 = .ok (.invokevirtual 50, 3) := by decide +kernel
theorem dX3_acquire_43 : decode cX3_acquire 43 = .ok (.ireturn, 1) := by decide +kernel
set_option maxRecDepth 20000 in
theorem ggX3_use_X1_standing : GoodIn wsX3_use wsX1_standing := goodIn_r _ [8, 9, 10, 11, 12, 13, 14, 15, 16, 17, 18, 53, 54, 55, 56, 57, 58, 59, 60, 61, 62, 63, 64, 65, 66, 67] (by decide +kernel) (by decide +kernel)
set_option maxRecDepth 20000 in
theorem gX3_use_X1_standing : GoodIn wsX3_use (wsV RX3 53 RX1 yX1_standing wsX1_standing) := goodIn_app (goodIn_of _ (by decide +kernel)) ggX3_use_X1_standing
set_option maxRecDepth 20000 in
theorem ggX3_use_X1_hasRoomForUser : GoodIn wsX3_use wsX1_hasRoomForUser := goodIn_r _ [22, 23, 16, 17, 18, 53, 54, 55, 56, 57, 58, 59, 60, 61, 62, 63, 64, 65, 66, 67] (by decide +kernel) (by decide +kernel)
set_option maxRecDepth 20000 in
theorem gX3_use_X1_hasRoomForUser : GoodIn wsX3_use (wsV RX3 57 RX1 yX1_hasRoomForUser wsX1_hasRoomForUser) := goodIn_app (goodIn_of _ (by decide +kernel)) ggX3_use_X1_hasRoomForUser
set_option maxRecDepth 20000 in
theorem ggX3_use_X3_recordState : GoodIn wsX3_use wsX3_recordState := goodIn_r _ [27, 28, 29, 1, 30, 31, 32, 7, 33, 14, 34, 35, 36, 37, 23, 15, 38, 10, 39, 40, 41, 42, 43, 12, 11, 13, 48, 49, 50, 51, 52, 53, 54, 55, 56, 57, 58, 59, 60, 61, 62, 63, 64, 65, 66, 67] (by decide +kernel) (by decide +kernel)
set_option maxRecDepth 20000 in
theorem gX3_use_X3_recordState : GoodIn wsX3_use (wsV RX3 43 RX3 yX3_recordState wsX3_recordState) := goodIn_app (goodIn_of _ (by decide +kernel)) ggX3_use_X3_recordState
set_option maxRecDepth 20000 in
theorem ggX3_use_X1_addUser : GoodIn wsX3_use wsX1_addUser := goodIn_r _ [47, 23, 16, 17, 18, 53, 54, 55, 56, 57, 58, 59, 60, 61, 62, 63, 64, 65, 66, 67] (by decide +kernel) (by decide +kernel)
set_option maxRecDepth 20000 in
theorem gX3_use_X1_addUser : GoodIn wsX3_use (wsV RX3 60 RX1 yX1_addUser wsX1_addUser) := goodIn_app (goodIn_of _ (by decide +kernel)) ggX3_use_X1_addUser
theorem dX3_use_0 : decode cX3_use 0 = .ok (.aload_n 0, 1) := by decide +kernel
theorem dX3_use_1 : decode cX3_use 1 = .ok (.getfield 10, 3) := by decide +kernel
theorem dX3_use_4 : decode cX3_use 4 = .ok (.iload_n 1, 1) := by decide +kernel
theorem dX3_use_5 : decode cX3_use 5 = .ok (.invokevirtual 53, 3) := by decide +kernel
theorem dX3_use_8 : decode cX3_use 8 = .ok (.istore_n 2, 1) := by decide +kernel
theorem dX3_use_9 : decode cX3_use 9 = .ok (.iload_n 2, 1) := by decide +kernel
theorem dX3_use_10 : decode cX3_use 10 = .ok (.ifCond .ge 6, 3) := by decide +kernel
theorem dX3_use_13 : decode cX3_use 13 = .ok (.ldc 56, 2) := by decide +kernel
theorem dX3_use_15 : decode cX3_use 15 = .ok (.ireturn, 1) := by decide +kernel
theorem dX3_use_16 : decode cX3_use 16 = .ok (.aload_n 0, 1) := by decide +kernel
theorem dX3_use_17 : decode cX3_use 17 = .ok (.getfield 10, 3) := by decide +kernel
theorem dX3_use_20 : decode cX3_use 20 = .ok (.iload_n 2, 1) := by decide +kernel
theorem dX3_use_21 : decode cX3_use 21 = .ok (.invokevirtual 57, 3) := by decide +kernel
theorem dX3_use_24 : decode cX3_use 24 = .ok (.ifCond .ne 6, 3) := by decide +kernel
theorem dX3_use_27 : decode cX3_use 27 = .ok (.ldc 42, 2) := by decide +kernel
theorem dX3_use_29 : decode cX3_use 29 = .ok (.ireturn, 1) := by decide +kernel
theorem dX3_use_30 : decode cX3_use 30 = .ok (.aload_n 0, 1) := by decide +kernel
theorem dX3_use_31 : decode cX3_use 31 = .ok (.invokevirtual 43, 3) := by decide +kernel
theorem dX3_use_34 : decode cX3_use 34 = .ok (.aload_n 0, 1) := by decide +kernel
theorem dX3_use_35 : decode cX3_use 35 = .ok (.getfield 10, 3) := by decide +kernel
theorem dX3_use_38 : decode cX3_use 38 = .ok (.iload_n 2, 1) := by decide +kernel
theorem dX3_use_39 : decode cX3_use 39 = .ok (.invokevirtual 60, 3) := by decide +kernel
theorem dX3_use_42 : decode cX3_use 42 = .ok (.ireturn, 1) := by decide +kernel
set_option maxRecDepth 20000 in
theorem ggX3_release_X1_standing : GoodIn wsX3_release wsX1_standing := goodIn_r _ [8, 9, 10, 11, 12, 13, 14, 15, 16, 17, 18, 57, 58, 59, 60, 61, 62, 63, 64, 65, 66, 67, 68, 69, 70, 71] (by decide +kernel) (by decide +kernel)
set_option maxRecDepth 20000 in
theorem gX3_release_X1_standing : GoodIn wsX3_release (wsV RX3 53 RX1 yX1_standing wsX1_standing) := goodIn_app (goodIn_of _ (by decide +kernel)) ggX3_release_X1_standing
set_option maxRecDepth 20000 in
theorem ggX3_release_X1_hasFreeUser : GoodIn wsX3_release wsX1_hasFreeUser := goodIn_r _ [22, 23, 16, 17, 18, 24, 25, 26, 7, 27, 28, 57, 58, 59, 60, 61, 62, 63, 64, 65, 66, 67, 68, 69, 70, 71] (by decide +kernel) (by decide +kernel)
set_option maxRecDepth 20000 in
theorem gX3_release_X1_hasFreeUser : GoodIn wsX3_release (wsV RX3 63 RX1 yX1_hasFreeUser wsX1_hasFreeUser) := goodIn_app (goodIn_of _ (by decide +kernel)) ggX3_release_X1_hasFreeUser
set_option maxRecDepth 20000 in
theorem ggX3_release_X3_recordState : GoodIn wsX3_release wsX3_recordState := goodIn_r _ [32, 33, 34, 1, 35, 36, 37, 7, 38, 14, 39, 40, 41, 42, 23, 15, 28, 10, 43, 44, 45, 46, 47, 12, 11, 13, 52, 53, 54, 55, 56, 57, 58, 59, 60, 61, 62, 63, 64, 65, 66, 67, 68, 69, 70, 71] (by decide +kernel) (by decide +kernel)
set_option maxRecDepth 20000 in
theorem gX3_release_X3_recordState : GoodIn wsX3_release (wsV RX3 43 RX3 yX3_recordState wsX3_recordState) := goodIn_app (goodIn_of _ (by decide +kernel)) ggX3_release_X3_recordState
set_option maxRecDepth 20000 in
theorem ggX3_release_X1_giveBack : GoodIn wsX3_release wsX1_giveBack := goodIn_r _ [51, 23, 14, 15, 44, 16, 17, 18, 57, 58, 59, 60, 61, 62, 63, 64, 65, 66, 67, 68, 69, 70, 71] (by decide +kernel) (by decide +kernel)
set_option maxRecDepth 20000 in
theorem gX3_release_X1_giveBack : GoodIn wsX3_release (wsV RX3 67 RX1 yX1_giveBack wsX1_giveBack) := goodIn_app (goodIn_of _ (by decide +kernel)) ggX3_release_X1_giveBack
theorem dX3_release_0 : decode cX3_release 0 = .ok (.aload_n 0, 1) := by decide +kernel
theorem dX3_release_1 : decode cX3_release 1 = .ok (.getfield 10, 3) := by decide +kernel
theorem dX3_release_4 : decode cX3_release 4 = .ok (.iload_n 1, 1) := by decide +kernel
theorem dX3_release_5 : decode cX3_release 5 = .ok (.invokevirtual 53, 3) := by decide +kernel
theorem dX3_release_8 : decode cX3_release 8 = .ok (.istore_n 2, 1) := by decide +kernel
theorem dX3_release_9 : decode cX3_release 9 = .ok (.iload_n 2, 1) := by decide +kernel
theorem dX3_release_10 : decode cX3_release 10 = .ok (.ifCond .ge 6, 3) := by decide +kernel
theorem dX3_release_13 : decode cX3_release 13 = .ok (.ldc 56, 2) := by decide +kernel
theorem dX3_release_15 : decode cX3_release 15 = .ok (.ireturn, 1) := by decide +kernel
theorem dX3_release_16 : decode cX3_release 16 = .ok (.aload_n 0, 1) := by decide +kernel
theorem dX3_release_17 : decode cX3_release 17 = .ok (.getfield 10, 3) := by decide +kernel
theorem dX3_release_20 : decode cX3_release 20 = .ok (.iload_n 2, 1) := by decide +kernel
theorem dX3_release_21 : decode cX3_release 21 = .ok (.invokevirtual 63, 3) := by decide +kernel
theorem dX3_release_24 : decode cX3_release 24 = .ok (.ifCond .ne 6, 3) := by decide +kernel
theorem dX3_release_27 : decode cX3_release 27 = .ok (.ldc 66, 2) := by decide +kernel
theorem dX3_release_29 : decode cX3_release 29 = .ok (.ireturn, 1) := by decide +kernel
theorem dX3_release_30 : decode cX3_release 30 = .ok (.aload_n 0, 1) := by decide +kernel
theorem dX3_release_31 : decode cX3_release 31 = .ok (.invokevirtual 43, 3) := by decide +kernel
theorem dX3_release_34 : decode cX3_release 34 = .ok (.aload_n 0, 1) := by decide +kernel
theorem dX3_release_35 : decode cX3_release 35 = .ok (.getfield 10, 3) := by decide +kernel
theorem dX3_release_38 : decode cX3_release 38 = .ok (.iload_n 2, 1) := by decide +kernel
theorem dX3_release_39 : decode cX3_release 39 = .ok (.invokevirtual 67, 3) := by decide +kernel
theorem dX3_release_42 : decode cX3_release 42 = .ok (.ireturn, 1) := by decide +kernel
set_option maxRecDepth 20000 in
theorem ggX3_follow_X1_standing : GoodIn wsX3_follow wsX1_standing := goodIn_r _ [7, 8, 9, 10, 11, 12, 13, 14, 15, 16, 17, 31, 32, 33, 34, 35, 36, 37, 38, 39, 40, 41, 42, 43, 44, 45] (by decide +kernel) (by decide +kernel)
set_option maxRecDepth 20000 in
theorem gX3_follow_X1_standing : GoodIn wsX3_follow (wsV RX3 53 RX1 yX1_standing wsX1_standing) := goodIn_app (goodIn_of _ (by decide +kernel)) ggX3_follow_X1_standing
set_option maxRecDepth 20000 in
theorem ggX3_follow_X1_tagOf : GoodIn wsX3_follow wsX1_tagOf := goodIn_r _ [21, 9, 14, 22, 15, 16, 17, 23, 24, 6, 25, 8, 31, 32, 33, 34, 35, 36, 37, 38, 39, 40, 41, 42, 43, 44, 45] (by decide +kernel) (by decide +kernel)
set_option maxRecDepth 20000 in
theorem gX3_follow_X1_tagOf : GoodIn wsX3_follow (wsV RX3 50 RX1 yX1_tagOf wsX1_tagOf) := goodIn_app (goodIn_of _ (by decide +kernel)) ggX3_follow_X1_tagOf
theorem dX3_follow_0 : decode cX3_follow 0 = .ok (.aload_n 0, 1) := by decide +kernel
theorem dX3_follow_1 : decode cX3_follow 1 = .ok (.getfield 10, 3) := by decide +kernel
theorem dX3_follow_4 : decode cX3_follow 4 = .ok (.iload_n 1, 1) := by decide +kernel
theorem dX3_follow_5 : decode cX3_follow 5 = .ok (.invokevirtual 53, 3) := by decide +kernel
theorem dX3_follow_8 : decode cX3_follow 8 = .ok (.istore_n 2, 1) := by decide +kernel
theorem dX3_follow_9 : decode cX3_follow 9 = .ok (.iload_n 2, 1) := by decide +kernel
theorem dX3_follow_10 : decode cX3_follow 10 = .ok (.ifCond .ge 8, 3) := by decide +kernel
theorem dX3_follow_13 : decode cX3_follow 13 = .ok (.ldc 56, 2) := by decide +kernel
theorem dX3_follow_15 : decode cX3_follow 15 = .ok (.goto 11, 3) := by decide +kernel
theorem dX3_follow_18 : decode cX3_follow 18 = .ok (.aload_n 0, 1) := by decide +kernel
theorem dX3_follow_19 : decode cX3_follow 19 = .ok (.getfield 10, 3) := by decide +kernel
theorem dX3_follow_22 : decode cX3_follow 22 = .ok (.iload_n 2, 1) := by decide +kernel
theorem dX3_follow_23 : decode cX3_follow 23 = .ok (.invokevirtual 50, 3) := by decide +kernel
theorem dX3_follow_26 : decode cX3_follow 26 = .ok (.ireturn, 1) := by decide +kernel
set_option maxRecDepth 20000 in
theorem ggX3_nameOf_X1_standing : GoodIn wsX3_nameOf wsX1_standing := goodIn_r _ [8, 9, 10, 11, 12, 13, 14, 15, 16, 17, 18, 24, 25, 26, 27, 28, 29, 30, 31, 32, 33, 34, 35, 36, 37, 38] (by decide +kernel) (by decide +kernel)
set_option maxRecDepth 20000 in
theorem gX3_nameOf_X1_standing : GoodIn wsX3_nameOf (wsV RX3 53 RX1 yX1_standing wsX1_standing) := goodIn_app (goodIn_of _ (by decide +kernel)) ggX3_nameOf_X1_standing
theorem dX3_nameOf_0 : decode cX3_nameOf 0 = .ok (.aload_n 0, 1) := by decide +kernel
theorem dX3_nameOf_1 : decode cX3_nameOf 1 = .ok (.getfield 10, 3) := by decide +kernel
theorem dX3_nameOf_4 : decode cX3_nameOf 4 = .ok (.iload_n 1, 1) := by decide +kernel
theorem dX3_nameOf_5 : decode cX3_nameOf 5 = .ok (.invokevirtual 53, 3) := by decide +kernel
theorem dX3_nameOf_8 : decode cX3_nameOf 8 = .ok (.istore_n 2, 1) := by decide +kernel
theorem dX3_nameOf_9 : decode cX3_nameOf 9 = .ok (.iload_n 2, 1) := by decide +kernel
theorem dX3_nameOf_10 : decode cX3_nameOf 10 = .ok (.ifCond .ge 8, 3) := by decide +kernel
theorem dX3_nameOf_13 : decode cX3_nameOf 13 = .ok (.ldc 56, 2) := by decide +kernel
theorem dX3_nameOf_15 : decode cX3_nameOf 15 = .ok (.goto 12, 3) := by decide +kernel
theorem dX3_nameOf_18 : decode cX3_nameOf 18 = .ok (.aload_n 0, 1) := by decide +kernel
theorem dX3_nameOf_19 : decode cX3_nameOf 19 = .ok (.getfield 10, 3) := by decide +kernel
theorem dX3_nameOf_22 : decode cX3_nameOf 22 = .ok (.getfield 70, 3) := by decide +kernel
theorem dX3_nameOf_25 : decode cX3_nameOf 25 = .ok (.iload_n 2, 1) := by decide +kernel
theorem dX3_nameOf_26 : decode cX3_nameOf 26 = .ok (.iaload, 1) := by decide +kernel
theorem dX3_nameOf_27 : decode cX3_nameOf 27 = .ok (.ireturn, 1) := by decide +kernel
set_option maxRecDepth 20000 in
theorem ggX3_why_X1_standing : GoodIn wsX3_why wsX1_standing := goodIn_r _ [6, 7, 8, 9, 10, 11, 12, 13, 14, 15, 16, 22, 23, 24, 25, 26, 27, 28, 29, 30, 31, 32, 33, 34, 35, 36] (by decide +kernel) (by decide +kernel)
set_option maxRecDepth 20000 in
theorem gX3_why_X1_standing : GoodIn wsX3_why (wsV RX3 53 RX1 yX1_standing wsX1_standing) := goodIn_app (goodIn_of _ (by decide +kernel)) ggX3_why_X1_standing
theorem dX3_why_0 : decode cX3_why 0 = .ok (.aload_n 0, 1) := by decide +kernel
theorem dX3_why_1 : decode cX3_why 1 = .ok (.getfield 10, 3) := by decide +kernel
theorem dX3_why_4 : decode cX3_why 4 = .ok (.iload_n 1, 1) := by decide +kernel
theorem dX3_why_5 : decode cX3_why 5 = .ok (.invokevirtual 53, 3) := by decide +kernel
