theorem dX4_compaction_0 : decode cX4_compaction 0 = .ok (.iload_n 1, 1) := by decide +kernel
theorem dX4_compaction_1 : decode cX4_compaction 1 = .ok (.iconst 0, 1) := by decide +kernel
theorem dX4_compaction_2 : decode cX4_compaction 2 = .ok (.iconst 2, 1) := by decide +kernel
theorem dX4_compaction_3 : decode cX4_compaction 3 = .ok (.invokestatic 37, 3) := by decide +kernel
theorem dX4_compaction_6 : decode cX4_compaction 6 = .ok (.ifCond .eq 12, 3) := by decide +kernel
theorem dX4_compaction_9 : decode cX4_compaction 9 = .ok (.iload_n 2, 1) := by decide +kernel
theorem dX4_compaction_10 : decode cX4_compaction 10 = .ok (.iconst 0, 1) := by decide +kernel
theorem dX4_compaction_11 : decode cX4_compaction 11 = .ok (.iconst 3, 1) := by decide +kernel
theorem dX4_compaction_12 : decode cX4_compaction 12 = .ok (.invokestatic 37, 3) := by decide +kernel
theorem dX4_compaction_15 : decode cX4_compaction 15 = .ok (.ifCond .ne 6, 3) := by decide +kernel
theorem dX4_compaction_18 : decode cX4_compaction 18 = .ok (.ldc 61, 2) := by decide +kernel
theorem dX4_compaction_20 : decode cX4_compaction 20 = .ok (.ireturn, 1) := by decide +kernel
theorem dX4_compaction_21 : decode cX4_compaction 21 = .ok (.iload_n 1, 1) := by decide +kernel
theorem dX4_compaction_22 : decode cX4_compaction 22 = .ok (.aload_n 0, 1) := by decide +kernel
theorem dX4_compaction_23 : decode cX4_compaction 23 = .ok (.invokevirtual 72, 3) := by decide +kernel
theorem dX4_compaction_26 : decode cX4_compaction 26 = .ok (.if_icmp .lt 6, 3) := by decide +kernel
theorem dX4_compaction_29 : decode cX4_compaction 29 = .ok (.ldc 99, 2) := by decide +kernel
theorem dX4_compaction_31 : decode cX4_compaction 31 = .ok (.ireturn, 1) := by decide +kernel
theorem dX4_compaction_32 : decode cX4_compaction 32 = .ok (.iload_n 2, 1) := by decide +kernel
theorem dX4_compaction_33 : decode cX4_compaction 33 = .ok (.iconst 3, 1) := by decide +kernel
theorem dX4_compaction_34 : decode cX4_compaction 34 = .ok (.if_icmp .ge 12, 3) := by decide +kernel
theorem dX4_compaction_37 : decode cX4_compaction 37 = .ok (.aload_n 0, 1) := by decide +kernel
theorem dX4_compaction_38 : decode cX4_compaction 38 = .ok (.iload_n 1, 1) := by decide +kernel
theorem dX4_compaction_39 : decode cX4_compaction 39 = .ok (.iload_n 2, 1) := by decide +kernel
theorem dX4_compaction_40 : decode cX4_compaction 40 = .ok (.invokevirtual 75, 3) := by decide +kernel
theorem dX4_compaction_43 : decode cX4_compaction 43 = .ok (.goto 8, 3) := by decide +kernel
theorem dX4_compaction_46 : decode cX4_compaction 46 = .ok (.aload_n 0, 1) := by decide +kernel
theorem dX4_compaction_47 : decode cX4_compaction 47 = .ok (.iload_n 1, 1) := by decide +kernel
theorem dX4_compaction_48 : decode cX4_compaction 48 = .ok (.invokevirtual 119, 3) := by decide +kernel
theorem dX4_compaction_51 : decode cX4_compaction 51 = .ok (.ireturn, 1) := by decide +kernel
set_option maxRecDepth 20000 in
theorem ggX4_namesAll_X4_isNamed : GoodIn wsX4_namesAll wsX4_isNamed := goodIn_r _ [5, 6, 7, 8, 9, 10, 11, 12, 13, 14, 15, 16, 17, 18, 19, 20, 21, 22, 23] (by decide +kernel) (by decide +kernel)
set_option maxRecDepth 20000 in
theorem gX4_namesAll_X4_isNamed : GoodIn wsX4_namesAll (wsV RX4 42 RX4 yX4_isNamed wsX4_isNamed) := goodIn_app (goodIn_of _ (by decide +kernel)) ggX4_namesAll_X4_isNamed
theorem dX4_namesAll_0 : decode cX4_namesAll 0 = .ok (.iconst 0, 1) := by decide +kernel
theorem dX4_namesAll_1 : decode cX4_namesAll 1 = .ok (.istore_n 1, 1) := by decide +kernel
theorem dX4_namesAll_2 : decode cX4_namesAll 2 = .ok (.iconst 0, 1) := by decide +kernel
theorem dX4_namesAll_3 : decode cX4_namesAll 3 = .ok (.istore_n 2, 1) := by decide +kernel
theorem dX4_namesAll_4 : decode cX4_namesAll 4 = .ok (.iload_n 2, 1) := by decide +kernel
theorem dX4_namesAll_5 : decode cX4_namesAll 5 = .ok (.bipush 40, 2) := by decide +kernel
theorem dX4_namesAll_7 : decode cX4_namesAll 7 = .ok (.if_icmp .ge 25, 3) := by decide +kernel
theorem dX4_namesAll_10 : decode cX4_namesAll 10 = .ok (.iload_n 1, 1) := by decide +kernel
theorem dX4_namesAll_11 : decode cX4_namesAll 11 = .ok (.aload_n 0, 1) := by decide +kernel
theorem dX4_namesAll_12 : decode cX4_namesAll 12 = .ok (.iload_n 2, 1) := by decide +kernel
theorem dX4_namesAll_13 : decode cX4_namesAll 13 = .ok (.invokevirtual 42, 3) := by decide +kernel
theorem dX4_namesAll_16 : decode cX4_namesAll 16 = .ok (.ifCond .eq 7, 3) := by decide +kernel
theorem dX4_namesAll_19 : decode cX4_namesAll 19 = .ok (.iconst 1, 1) := by decide +kernel
theorem dX4_namesAll_20 : decode cX4_namesAll 20 = .ok (.goto 4, 3) := by decide +kernel
theorem dX4_namesAll_23 : decode cX4_namesAll 23 = .ok (.iconst 0, 1) := by decide +kernel
theorem dX4_namesAll_24 : decode cX4_namesAll 24 = .ok (.iadd, 1) := by decide +kernel
theorem dX4_namesAll_25 : decode cX4_namesAll 25 = .ok (.istore_n 1, 1) := by decide +kernel
theorem dX4_namesAll_26 : decode cX4_namesAll 26 = .ok (.iinc 2 1, 3) := by decide +kernel
theorem dX4_namesAll_29 : decode cX4_namesAll 29 = .ok (.goto (-25), 3) := by decide +kernel
theorem dX4_namesAll_32 : decode cX4_namesAll 32 = .ok (.iload_n 1, 1) := by decide +kernel
theorem dX4_namesAll_33 : decode cX4_namesAll 33 = .ok (.ireturn, 1) := by decide +kernel
theorem dX4_usersAll_0 : decode cX4_usersAll 0 = .ok (.iconst 0, 1) := by decide +kernel
theorem dX4_usersAll_1 : decode cX4_usersAll 1 = .ok (.istore_n 1, 1) := by decide +kernel
theorem dX4_usersAll_2 : decode cX4_usersAll 2 = .ok (.iconst 0, 1) := by decide +kernel
theorem dX4_usersAll_3 : decode cX4_usersAll 3 = .ok (.istore_n 2, 1) := by decide +kernel
theorem dX4_usersAll_4 : decode cX4_usersAll 4 = .ok (.iload_n 2, 1) := by decide +kernel
theorem dX4_usersAll_5 : decode cX4_usersAll 5 = .ok (.bipush 40, 2) := by decide +kernel
theorem dX4_usersAll_7 : decode cX4_usersAll 7 = .ok (.if_icmp .ge 21, 3) := by decide +kernel
theorem dX4_usersAll_10 : decode cX4_usersAll 10 = .ok (.iload_n 1, 1) := by decide +kernel
theorem dX4_usersAll_11 : decode cX4_usersAll 11 = .ok (.aload_n 0, 1) := by decide +kernel
theorem dX4_usersAll_12 : decode cX4_usersAll 12 = .ok (.getfield 7, 3) := by decide +kernel
theorem dX4_usersAll_15 : decode cX4_usersAll 15 = .ok (.bipush 44, 2) := by decide +kernel
theorem dX4_usersAll_17 : decode cX4_usersAll 17 = .ok (.iload_n 2, 1) := by decide +kernel
theorem dX4_usersAll_18 : decode cX4_usersAll 18 = .ok (.iadd, 1) := by decide +kernel
theorem dX4_usersAll_19 : decode cX4_usersAll 19 = .ok (.iaload, 1) := by decide +kernel
theorem dX4_usersAll_20 : decode cX4_usersAll 20 = .ok (.iadd, 1) := by decide +kernel
theorem dX4_usersAll_21 : decode cX4_usersAll 21 = .ok (.istore_n 1, 1) := by decide +kernel
theorem dX4_usersAll_22 : decode cX4_usersAll 22 = .ok (.iinc 2 1, 3) := by decide +kernel
theorem dX4_usersAll_25 : decode cX4_usersAll 25 = .ok (.goto (-21), 3) := by decide +kernel
theorem dX4_usersAll_28 : decode cX4_usersAll 28 = .ok (.iload_n 1, 1) := by decide +kernel
theorem dX4_usersAll_29 : decode cX4_usersAll 29 = .ok (.ireturn, 1) := by decide +kernel
set_option maxRecDepth 20000 in
theorem ggX4_highest_X4_isNamed : GoodIn wsX4_highest wsX4_isNamed := goodIn_r _ [5, 6, 7, 8, 9, 10, 11, 12, 13, 14, 15, 16, 17, 18, 19, 20, 21, 22, 23] (by decide +kernel) (by decide +kernel)
set_option maxRecDepth 20000 in
theorem gX4_highest_X4_isNamed : GoodIn wsX4_highest (wsV RX4 42 RX4 yX4_isNamed wsX4_isNamed) := goodIn_app (goodIn_of _ (by decide +kernel)) ggX4_highest_X4_isNamed
theorem dX4_highest_0 : decode cX4_highest 0 = .ok (.iconst 0, 1) := by decide +kernel
theorem dX4_highest_1 : decode cX4_highest 1 = .ok (.istore_n 1, 1) := by decide +kernel
theorem dX4_highest_2 : decode cX4_highest 2 = .ok (.iconst 0, 1) := by decide +kernel
theorem dX4_highest_3 : decode cX4_highest 3 = .ok (.istore_n 2, 1) := by decide +kernel
theorem dX4_highest_4 : decode cX4_highest 4 = .ok (.iload_n 2, 1) := by decide +kernel
theorem dX4_highest_5 : decode cX4_highest 5 = .ok (.bipush 40, 2) := by decide +kernel
theorem dX4_highest_7 : decode cX4_highest 7 = .ok (.if_icmp .ge 25, 3) := by decide +kernel
theorem dX4_highest_10 : decode cX4_highest 10 = .ok (.aload_n 0, 1) := by decide +kernel
theorem dX4_highest_11 : decode cX4_highest 11 = .ok (.iload_n 2, 1) := by decide +kernel
theorem dX4_highest_12 : decode cX4_highest 12 = .ok (.invokevirtual 42, 3) := by decide +kernel
theorem dX4_highest_15 : decode cX4_highest 15 = .ok (.ifCond .eq 9, 3) := by decide +kernel
theorem dX4_highest_18 : decode cX4_highest 18 = .ok (.iload_n 2, 1) := by decide +kernel
theorem dX4_highest_19 : decode cX4_highest 19 = .ok (.iconst 1, 1) := by decide +kernel
theorem dX4_highest_20 : decode cX4_highest 20 = .ok (.iadd, 1) := by decide +kernel
theorem dX4_highest_21 : decode cX4_highest 21 = .ok (.goto 4, 3) := by decide +kernel
theorem dX4_highest_24 : decode cX4_highest 24 = .ok (.iload_n 1, 1) := by decide +kernel
theorem dX4_highest_25 : decode cX4_highest 25 = .ok (.istore_n 1, 1) := by decide +kernel
theorem dX4_highest_26 : decode cX4_highest 26 = .ok (.iinc 2 1, 3) := by decide +kernel
theorem dX4_highest_29 : decode cX4_highest 29 = .ok (.goto (-25), 3) := by decide +kernel
theorem dX4_highest_32 : decode cX4_highest 32 = .ok (.iload_n 1, 1) := by decide +kernel
theorem dX4_highest_33 : decode cX4_highest 33 = .ok (.ireturn, 1) := by decide +kernel
set_option maxRecDepth 20000 in
theorem ggX4_count_X4_namesAll : GoodIn wsX4_count wsX4_namesAll := goodIn_r _ [9, 10, 11, 12, 8, 13, 1, 30, 31, 32, 33, 34, 35, 36, 37, 38, 39, 40, 41, 42, 43, 44, 45, 46] (by decide +kernel) (by decide +kernel)
set_option maxRecDepth 20000 in
theorem gX4_count_X4_namesAll : GoodIn wsX4_count (wsV RX4 122 RX4 yX4_namesAll wsX4_namesAll) := goodIn_app (goodIn_of _ (by decide +kernel)) ggX4_count_X4_namesAll
set_option maxRecDepth 20000 in
theorem ggX4_count_X4_usersAll : GoodIn wsX4_count wsX4_usersAll := goodIn_r _ [17, 1, 30, 31, 32, 33, 34, 35, 36, 37, 38, 39, 40, 41, 42, 43, 44, 45, 46] (by decide +kernel) (by decide +kernel)
set_option maxRecDepth 20000 in
theorem gX4_count_X4_usersAll : GoodIn wsX4_count (wsV RX4 125 RX4 yX4_usersAll wsX4_usersAll) := goodIn_app (goodIn_of _ (by decide +kernel)) ggX4_count_X4_usersAll
set_option maxRecDepth 20000 in
theorem ggX4_count_X4_cellsWith : GoodIn wsX4_count wsX4_cellsWith := goodIn_r _ [21, 1, 30, 31, 32, 33, 34, 35, 36, 37, 38, 39, 40, 41, 42, 43, 44, 45, 46] (by decide +kernel) (by decide +kernel)
set_option maxRecDepth 20000 in
theorem gX4_count_X4_cellsWith : GoodIn wsX4_count (wsV RX4 86 RX4 yX4_cellsWith wsX4_cellsWith) := goodIn_app (goodIn_of _ (by decide +kernel)) ggX4_count_X4_cellsWith
set_option maxRecDepth 20000 in
theorem ggX4_count_X4_highest : GoodIn wsX4_count wsX4_highest := goodIn_r _ [25, 10, 11, 12, 8, 13, 1, 30, 31, 32, 33, 34, 35, 36, 37, 38, 39, 40, 41, 42, 43, 44, 45, 46] (by decide +kernel) (by decide +kernel)
set_option maxRecDepth 20000 in
theorem gX4_count_X4_highest : GoodIn wsX4_count (wsV RX4 128 RX4 yX4_highest wsX4_highest) := goodIn_app (goodIn_of _ (by decide +kernel)) ggX4_count_X4_highest
set_option maxRecDepth 20000 in
theorem ggX4_count_X4_kept : GoodIn wsX4_count wsX4_kept := goodIn_r _ [29, 1, 30, 31, 32, 33, 34, 35, 36, 37, 38, 39, 40, 41, 42, 43, 44, 45, 46] (by decide +kernel) (by decide +kernel)
set_option maxRecDepth 20000 in
theorem gX4_count_X4_kept : GoodIn wsX4_count (wsV RX4 72 RX4 yX4_kept wsX4_kept) := goodIn_app (goodIn_of _ (by decide +kernel)) ggX4_count_X4_kept
theorem dX4_count_0 : decode cX4_count 0 = .ok (.iload_n 1, 1) := by decide +kernel
theorem dX4_count_1 : decode cX4_count 1 = .ok (.tableswitch 129 0 10 #[59, 64, 69, 78, 85, 90, 100, 107, 114, 119, 124], 59) := by decide +kernel
theorem dX4_count_60 : decode cX4_count 60 = .ok (.aload_n 0, 1) := by decide +kernel
theorem dX4_count_61 : decode cX4_count 61 = .ok (.invokevirtual 122, 3) := by decide +kernel
theorem dX4_count_64 : decode cX4_count 64 = .ok (.ireturn, 1) := by decide +kernel
theorem dX4_count_65 : decode cX4_count 65 = .ok (.aload_n 0, 1) := by decide +kernel
theorem dX4_count_66 : decode cX4_count 66 = .ok (.invokevirtual 125, 3) := by decide +kernel
theorem dX4_count_69 : decode cX4_count 69 = .ok (.ireturn, 1) := by decide +kernel
theorem dX4_count_70 : decode cX4_count 70 = .ok (.bipush 18, 2) := by decide +kernel
theorem dX4_count_72 : decode cX4_count 72 = .ok (.aload_n 0, 1) := by decide +kernel
theorem dX4_count_73 : decode cX4_count 73 = .ok (.iconst (-1), 1) := by decide +kernel
theorem dX4_count_74 : decode cX4_count 74 = .ok (.invokevirtual 86, 3) := by decide +kernel
theorem dX4_count_77 : decode cX4_count 77 = .ok (.isub, 1) := by decide +kernel
theorem dX4_count_78 : decode cX4_count 78 = .ok (.ireturn, 1) := by decide +kernel
theorem dX4_count_79 : decode cX4_count 79 = .ok (.aload_n 0, 1) := by decide +kernel
theorem dX4_count_80 : decode cX4_count 80 = .ok (.getfield 7, 3) := by decide +kernel
theorem dX4_count_83 : decode cX4_count 83 = .ok (.iconst 0, 1) := by decide +kernel
theorem dX4_count_84 : decode cX4_count 84 = .ok (.iaload, 1) := by decide +kernel
theorem dX4_count_85 : decode cX4_count 85 = .ok (.ireturn, 1) := by decide +kernel
theorem dX4_count_86 : decode cX4_count 86 = .ok (.aload_n 0, 1) := by decide +kernel
theorem dX4_count_87 : decode cX4_count 87 = .ok (.invokevirtual 128, 3) := by decide +kernel
theorem dX4_count_90 : decode cX4_count 90 = .ok (.ireturn, 1) := by decide +kernel
theorem dX4_count_91 : decode cX4_count 91 = .ok (.aload_n 0, 1) := by decide +kernel
theorem dX4_count_92 : decode cX4_count 92 = .ok (.invokevirtual 128, 3) := by decide +kernel
theorem dX4_count_95 : decode cX4_count 95 = .ok (.aload_n 0, 1) := by decide +kernel
theorem dX4_count_96 : decode cX4_count 96 = .ok (.invokevirtual 122, 3) := by decide +kernel
theorem dX4_count_99 : decode cX4_count 99 = .ok (.isub, 1) := by decide +kernel
theorem dX4_count_100 : decode cX4_count 100 = .ok (.ireturn, 1) := by decide +kernel
theorem dX4_count_101 : decode cX4_count 101 = .ok (.aload_n 0, 1) := by decide +kernel
theorem dX4_count_102 : decode cX4_count 102 = .ok (.getfield 7, 3) := by decide +kernel
theorem dX4_count_105 : decode cX4_count 105 = .ok (.iconst 1, 1) := by decide +kernel
theorem dX4_count_106 : decode cX4_count 106 = .ok (.iaload, 1) := by decide +kernel
theorem dX4_count_107 : decode cX4_count 107 = .ok (.ireturn, 1) := by decide +kernel
theorem dX4_count_108 : decode cX4_count 108 = .ok (.aload_n 0, 1) := by decide +kernel
theorem dX4_count_109 : decode cX4_count 109 = .ok (.getfield 7, 3) := by decide +kernel
theorem dX4_count_112 : decode cX4_count 112 = .ok (.iconst 2, 1) := by decide +kernel
theorem dX4_count_113 : decode cX4_count 113 = .ok (.iaload, 1) := by decide +kernel
theorem dX4_count_114 : decode cX4_count 114 = .ok (.ireturn, 1) := by decide +kernel
theorem dX4_count_115 : decode cX4_count 115 = .ok (.aload_n 0, 1) := by decide +kernel
theorem dX4_count_116 : decode cX4_count 116 = .ok (.invokevirtual 72, 3) := by decide +kernel
theorem dX4_count_119 : decode cX4_count 119 = .ok (.ireturn, 1) := by decide +kernel
theorem dX4_count_120 : decode cX4_count 120 = .ok (.aload_n 0, 1) := by decide +kernel
theorem dX4_count_121 : decode cX4_count 121 = .ok (.getfield 31, 3) := by decide +kernel
theorem dX4_count_124 : decode cX4_count 124 = .ok (.ireturn, 1) := by decide +kernel
theorem dX4_count_125 : decode cX4_count 125 = .ok (.aload_n 0, 1) := by decide +kernel
theorem dX4_count_126 : decode cX4_count 126 = .ok (.getfield 131, 3) := by decide +kernel
theorem dX4_count_129 : decode cX4_count 129 = .ok (.ireturn, 1) := by decide +kernel
theorem dX4_count_130 : decode cX4_count 130 = .ok (.ldc 61, 2) := by decide +kernel
theorem dX4_count_132 : decode cX4_count 132 = .ok (.ireturn, 1) := by decide +kernel
set_option maxRecDepth 20000 in
theorem ggX4_type_X4_within : GoodIn wsX4_type wsX4_within := goodIn_r _ [8] (by decide +kernel) (by decide +kernel)
set_option maxRecDepth 20000 in
theorem gX4_type_X4_within : GoodIn wsX4_type (va_wsS RX4 37 yX4_within wsX4_within) := goodIn_app (goodIn_of _ (by decide +kernel)) ggX4_type_X4_within
theorem dX4_type_0 : decode cX4_type 0 = .ok (.iload_n 1, 1) := by decide +kernel
theorem dX4_type_1 : decode cX4_type 1 = .ok (.bipush 32, 2) := by decide +kernel
theorem dX4_type_3 : decode cX4_type 3 = .ok (.bipush 126, 2) := by decide +kernel
theorem dX4_type_5 : decode cX4_type 5 = .ok (.invokestatic 37, 3) := by decide +kernel
theorem dX4_type_8 : decode cX4_type 8 = .ok (.ifCond .ne 6, 3) := by decide +kernel
theorem dX4_type_11 : decode cX4_type 11 = .ok (.ldc 61, 2) := by decide +kernel
theorem dX4_type_13 : decode cX4_type 13 = .ok (.ireturn, 1) := by decide +kernel
theorem dX4_type_14 : decode cX4_type 14 = .ok (.aload_n 0, 1) := by decide +kernel
theorem dX4_type_15 : decode cX4_type 15 = .ok (.getfield 131, 3) := by decide +kernel
theorem dX4_type_18 : decode cX4_type 18 = .ok (.bipush 60, 2) := by decide +kernel
theorem dX4_type_20 : decode cX4_type 20 = .ok (.if_icmp .ne 6, 3) := by decide +kernel
theorem dX4_type_23 : decode cX4_type 23 = .ok (.ldc 65, 2) := by decide +kernel
theorem dX4_type_25 : decode cX4_type 25 = .ok (.ireturn, 1) := by decide +kernel
theorem dX4_type_26 : decode cX4_type 26 = .ok (.aload_n 0, 1) := by decide +kernel
theorem dX4_type_27 : decode cX4_type 27 = .ok (.getfield 19, 3) := by decide +kernel
theorem dX4_type_30 : decode cX4_type 30 = .ok (.aload_n 0, 1) := by decide +kernel
theorem dX4_type_31 : decode cX4_type 31 = .ok (.getfield 131, 3) := by decide +kernel
theorem dX4_type_34 : decode cX4_type 34 = .ok (.iload_n 1, 1) := by decide +kernel
theorem dX4_type_35 : decode cX4_type 35 = .ok (.iastore, 1) := by decide +kernel
theorem dX4_type_36 : decode cX4_type 36 = .ok (.aload_n 0, 1) := by decide +kernel
theorem dX4_type_37 : decode cX4_type 37 = .ok (.dup, 1) := by decide +kernel
theorem dX4_type_38 : decode cX4_type 38 = .ok (.getfield 131, 3) := by decide +kernel
theorem dX4_type_41 : decode cX4_type 41 = .ok (.iconst 1, 1) := by decide +kernel
theorem dX4_type_42 : decode cX4_type 42 = .ok (.iadd, 1) := by decide +kernel
theorem dX4_type_43 : decode cX4_type 43 = .ok (.putfield 131, 3) := by decide +kernel
theorem dX4_type_46 : decode cX4_type 46 = .ok (.aload_n 0, 1) := by decide +kernel
theorem dX4_type_47 : decode cX4_type 47 = .ok (.getfield 131, 3) := by decide +kernel
theorem dX4_type_50 : decode cX4_type 50 = .ok (.ireturn, 1) := by decide +kernel
theorem dX4_clearText_0 : decode cX4_clearText 0 = .ok (.aload_n 0, 1) := by decide +kernel
theorem dX4_clearText_1 : decode cX4_clearText 1 = .ok (.getfield 131, 3) := by decide +kernel
theorem dX4_clearText_4 : decode cX4_clearText 4 = .ok (.istore_n 1, 1) := by decide +kernel
theorem dX4_clearText_5 : decode cX4_clearText 5 = .ok (.aload_n 0, 1) := by decide +kernel
theorem dX4_clearText_6 : decode cX4_clearText 6 = .ok (.iconst 0, 1) := by decide +kernel
theorem dX4_clearText_7 : decode cX4_clearText 7 = .ok (.putfield 131, 3) := by decide +kernel
theorem dX4_clearText_10 : decode cX4_clearText 10 = .ok (.iload_n 1, 1) := by decide +kernel
theorem dX4_clearText_11 : decode cX4_clearText 11 = .ok (.ireturn, 1) := by decide +kernel
theorem dX4_letter_0 : decode cX4_letter 0 = .ok (.iload_n 1, 1) := by decide +kernel
theorem dX4_letter_1 : decode cX4_letter 1 = .ok (.aload_n 0, 1) := by decide +kernel
theorem dX4_letter_2 : decode cX4_letter 2 = .ok (.getfield 131, 3) := by decide +kernel
theorem dX4_letter_5 : decode cX4_letter 5 = .ok (.if_icmp .ge 12, 3) := by decide +kernel
theorem dX4_letter_8 : decode cX4_letter 8 = .ok (.aload_n 0, 1) := by decide +kernel
theorem dX4_letter_9 : decode cX4_letter 9 = .ok (.getfield 19, 3) := by decide +kernel
theorem dX4_letter_12 : decode cX4_letter 12 = .ok (.iload_n 1, 1) := by decide +kernel
theorem dX4_letter_13 : decode cX4_letter 13 = .ok (.iaload, 1) := by decide +kernel
theorem dX4_letter_14 : decode cX4_letter 14 = .ok (.goto 4, 3) := by decide +kernel
theorem dX4_letter_17 : decode cX4_letter 17 = .ok (.iconst 0, 1) := by decide +kernel
theorem dX4_letter_18 : decode cX4_letter 18 = .ok (.ireturn, 1) := by decide +kernel
set_option maxRecDepth 20000 in
theorem ggX4_passes_X4_letter : GoodIn wsX4_passes wsX4_letter := goodIn_r _ [6, 7, 8, 9, 10, 11, 12, 13, 14, 15, 16, 17, 18, 19, 20, 21, 22, 23, 24, 25] (by decide +kernel) (by decide +kernel)
set_option maxRecDepth 20000 in
theorem gX4_passes_X4_letter : GoodIn wsX4_passes (wsV RX4 137 RX4 yX4_letter wsX4_letter) := goodIn_app (goodIn_of _ (by decide +kernel)) ggX4_passes_X4_letter
theorem dX4_passes_0 : decode cX4_passes 0 = .ok (.aload_n 0, 1) := by decide +kernel
theorem dX4_passes_1 : decode cX4_passes 1 = .ok (.aload_n 0, 1) := by decide +kernel
theorem dX4_passes_2 : decode cX4_passes 2 = .ok (.getfield 134, 3) := by decide +kernel
theorem dX4_passes_5 : decode cX4_passes 5 = .ok (.invokevirtual 137, 3) := by decide +kernel
theorem dX4_passes_8 : decode cX4_passes 8 = .ok (.iload_n 1, 1) := by decide +kernel
theorem dX4_passes_9 : decode cX4_passes 9 = .ok (.if_icmp .ne 7, 3) := by decide +kernel
theorem dX4_passes_12 : decode cX4_passes 12 = .ok (.iconst 1, 1) := by decide +kernel
theorem dX4_passes_13 : decode cX4_passes 13 = .ok (.goto 4, 3) := by decide +kernel
theorem dX4_passes_16 : decode cX4_passes 16 = .ok (.iconst 0, 1) := by decide +kernel
theorem dX4_passes_17 : decode cX4_passes 17 = .ok (.istore_n 2, 1) := by decide +kernel
theorem dX4_passes_18 : decode cX4_passes 18 = .ok (.aload_n 0, 1) := by decide +kernel
theorem dX4_passes_19 : decode cX4_passes 19 = .ok (.dup, 1) := by decide +kernel
theorem dX4_passes_20 : decode cX4_passes 20 = .ok (.getfield 134, 3) := by decide +kernel
theorem dX4_passes_23 : decode cX4_passes 23 = .ok (.iload_n 2, 1) := by decide +kernel
theorem dX4_passes_24 : decode cX4_passes 24 = .ok (.ifCond .eq 7, 3) := by decide +kernel
theorem dX4_passes_27 : decode cX4_passes 27 = .ok (.iconst 1, 1) := by decide +kernel
theorem dX4_passes_28 : decode cX4_passes 28 = .ok (.goto 4, 3) := by decide +kernel
theorem dX4_passes_31 : decode cX4_passes 31 = .ok (.iconst 0, 1) := by decide +kernel
theorem dX4_passes_32 : decode cX4_passes 32 = .ok (.iadd, 1) := by decide +kernel
theorem dX4_passes_33 : decode cX4_passes 33 = .ok (.putfield 134, 3) := by decide +kernel
theorem dX4_passes_36 : decode cX4_passes 36 = .ok (.iload_n 2, 1) := by decide +kernel
theorem dX4_passes_37 : decode cX4_passes 37 = .ok (.ireturn, 1) := by decide +kernel
set_option maxRecDepth 20000 in
theorem ggX4_digit_X4_letter : GoodIn wsX4_digit wsX4_letter := goodIn_r _ [7, 8, 9, 13, 14, 15, 16, 17, 18, 19, 20, 21, 22, 23, 24, 25, 26, 27, 28, 29] (by decide +kernel) (by decide +kernel)
set_option maxRecDepth 20000 in
theorem gX4_digit_X4_letter : GoodIn wsX4_digit (wsV RX4 137 RX4 yX4_letter wsX4_letter) := goodIn_app (goodIn_of _ (by decide +kernel)) ggX4_digit_X4_letter
set_option maxRecDepth 20000 in
theorem ggX4_digit_X4_within : GoodIn wsX4_digit wsX4_within := goodIn_r _ [12] (by decide +kernel) (by decide +kernel)
set_option maxRecDepth 20000 in
theorem gX4_digit_X4_within : GoodIn wsX4_digit (va_wsS RX4 37 yX4_within wsX4_within) := goodIn_app (goodIn_of _ (by decide +kernel)) ggX4_digit_X4_within
theorem dX4_digit_0 : decode cX4_digit 0 = .ok (.aload_n 0, 1) := by decide +kernel
theorem dX4_digit_1 : decode cX4_digit 1 = .ok (.aload_n 0, 1) := by decide +kernel
theorem dX4_digit_2 : decode cX4_digit 2 = .ok (.getfield 134, 3) := by decide +kernel
theorem dX4_digit_5 : decode cX4_digit 5 = .ok (.invokevirtual 137, 3) := by decide +kernel
theorem dX4_digit_8 : decode cX4_digit 8 = .ok (.bipush 48, 2) := by decide +kernel
theorem dX4_digit_10 : decode cX4_digit 10 = .ok (.bipush 57, 2) := by decide +kernel
theorem dX4_digit_12 : decode cX4_digit 12 = .ok (.invokestatic 37, 3) := by decide +kernel
theorem dX4_digit_15 : decode cX4_digit 15 = .ok (.istore_n 2, 1) := by decide +kernel
theorem dX4_digit_16 : decode cX4_digit 16 = .ok (.aload_n 0, 1) := by decide +kernel
theorem dX4_digit_17 : decode cX4_digit 17 = .ok (.getfield 28, 3) := by decide +kernel
theorem dX4_digit_20 : decode cX4_digit 20 = .ok (.iload_n 1, 1) := by decide +kernel
theorem dX4_digit_21 : decode cX4_digit 21 = .ok (.iload_n 2, 1) := by decide +kernel
theorem dX4_digit_22 : decode cX4_digit 22 = .ok (.ifCond .eq 17, 3) := by decide +kernel
theorem dX4_digit_25 : decode cX4_digit 25 = .ok (.aload_n 0, 1) := by decide +kernel
theorem dX4_digit_26 : decode cX4_digit 26 = .ok (.aload_n 0, 1) := by decide +kernel
theorem dX4_digit_27 : decode cX4_digit 27 = .ok (.getfield 134, 3) := by decide +kernel
theorem dX4_digit_30 : decode cX4_digit 30 = .ok (.invokevirtual 137, 3) := by decide +kernel
theorem dX4_digit_33 : decode cX4_digit 33 = .ok (.bipush 48, 2) := by decide +kernel
theorem dX4_digit_35 : decode cX4_digit 35 = .ok (.isub, 1) := by decide +kernel
theorem dX4_digit_36 : decode cX4_digit 36 = .ok (.goto 4, 3) := by decide +kernel
theorem dX4_digit_39 : decode cX4_digit 39 = .ok (.iconst 0, 1) := by decide +kernel
theorem dX4_digit_40 : decode cX4_digit 40 = .ok (.iastore, 1) := by decide +kernel
theorem dX4_digit_41 : decode cX4_digit 41 = .ok (.aload_n 0, 1) := by decide +kernel
theorem dX4_digit_42 : decode cX4_digit 42 = .ok (.dup, 1) := by decide +kernel
theorem dX4_digit_43 : decode cX4_digit 43 = .ok (.getfield 134, 3) := by decide +kernel
theorem dX4_digit_46 : decode cX4_digit 46 = .ok (.iload_n 2, 1) := by decide +kernel
theorem dX4_digit_47 : decode cX4_digit 47 = .ok (.ifCond .eq 7, 3) := by decide +kernel
theorem dX4_digit_50 : decode cX4_digit 50 = .ok (.iconst 1, 1) := by decide +kernel
theorem dX4_digit_51 : decode cX4_digit 51 = .ok (.goto 4, 3) := by decide +kernel
theorem dX4_digit_54 : decode cX4_digit 54 = .ok (.iconst 0, 1) := by decide +kernel
theorem dX4_digit_55 : decode cX4_digit 55 = .ok (.iadd, 1) := by decide +kernel
theorem dX4_digit_56 : decode cX4_digit 56 = .ok (.putfield 134, 3) := by decide +kernel
theorem dX4_digit_59 : decode cX4_digit 59 = .ok (.iload_n 2, 1) := by decide +kernel
theorem dX4_digit_60 : decode cX4_digit 60 = .ok (.ireturn, 1) := by decide +kernel
set_option maxRecDepth 20000 in
theorem ggX4_name_X4_letter : GoodIn wsX4_name wsX4_letter := goodIn_r _ [8, 9, 10, 14, 15, 16, 17, 18, 19, 20, 21, 22, 23, 24, 25, 26, 27, 28, 29, 30] (by decide +kernel) (by decide +kernel)
set_option maxRecDepth 20000 in
theorem gX4_name_X4_letter : GoodIn wsX4_name (wsV RX4 137 RX4 yX4_letter wsX4_letter) := goodIn_app (goodIn_of _ (by decide +kernel)) ggX4_name_X4_letter
set_option maxRecDepth 20000 in
theorem ggX4_name_X4_within : GoodIn wsX4_name wsX4_within := goodIn_r _ [13] (by decide +kernel) (by decide +kernel)
set_option maxRecDepth 20000 in
theorem gX4_name_X4_within : GoodIn wsX4_name (va_wsS RX4 37 yX4_within wsX4_within) := goodIn_app (goodIn_of _ (by decide +kernel)) ggX4_name_X4_within
theorem dX4_name_0 : decode cX4_name 0 = .ok (.aload_n 0, 1) := by decide +kernel
theorem dX4_name_1 : decode cX4_name 1 = .ok (.iconst 0, 1) := by decide +kernel
theorem dX4_name_2 : decode cX4_name 2 = .ok (.putfield 140, 3) := by decide +kernel
theorem dX4_name_5 : decode cX4_name 5 = .ok (.aload_n 0, 1) := by decide +kernel
theorem dX4_name_6 : decode cX4_name 6 = .ok (.iconst 0, 1) := by decide +kernel
theorem dX4_name_7 : decode cX4_name 7 = .ok (.putfield 143, 3) := by decide +kernel
theorem dX4_name_10 : decode cX4_name 10 = .ok (.aload_n 0, 1) := by decide +kernel
theorem dX4_name_11 : decode cX4_name 11 = .ok (.aload_n 0, 1) := by decide +kernel
theorem dX4_name_12 : decode cX4_name 12 = .ok (.getfield 134, 3) := by decide +kernel
theorem dX4_name_15 : decode cX4_name 15 = .ok (.invokevirtual 137, 3) := by decide +kernel
theorem dX4_name_18 : decode cX4_name 18 = .ok (.bipush 97, 2) := by decide +kernel
theorem dX4_name_20 : decode cX4_name 20 = .ok (.bipush 122, 2) := by decide +kernel
theorem dX4_name_22 : decode cX4_name 22 = .ok (.invokestatic 37, 3) := by decide +kernel
theorem dX4_name_25 : decode cX4_name 25 = .ok (.ifCond .eq 67, 3) := by decide +kernel
theorem dX4_name_28 : decode cX4_name 28 = .ok (.aload_n 0, 1) := by decide +kernel
theorem dX4_name_29 : decode cX4_name 29 = .ok (.aload_n 0, 1) := by decide +kernel
theorem dX4_name_30 : decode cX4_name 30 = .ok (.getfield 140, 3) := by decide +kernel
theorem dX4_name_33 : decode cX4_name 33 = .ok (.bipush 6, 2) := by decide +kernel
theorem dX4_name_35 : decode cX4_name 35 = .ok (.if_icmp .ge 27, 3) := by decide +kernel
theorem dX4_name_38 : decode cX4_name 38 = .ok (.bipush 27, 2) := by decide +kernel
theorem dX4_name_40 : decode cX4_name 40 = .ok (.aload_n 0, 1) := by decide +kernel
theorem dX4_name_41 : decode cX4_name 41 = .ok (.getfield 143, 3) := by decide +kernel
theorem dX4_name_44 : decode cX4_name 44 = .ok (.imul, 1) := by decide +kernel
theorem dX4_name_45 : decode cX4_name 45 = .ok (.aload_n 0, 1) := by decide +kernel
theorem dX4_name_46 : decode cX4_name 46 = .ok (.aload_n 0, 1) := by decide +kernel
theorem dX4_name_47 : decode cX4_name 47 = .ok (.getfield 134, 3) := by decide +kernel
theorem dX4_name_50 : decode cX4_name 50 = .ok (.invokevirtual 137, 3) := by decide +kernel
theorem dX4_name_53 : decode cX4_name 53 = .ok (.iadd, 1) := by decide +kernel
theorem dX4_name_54 : decode cX4_name 54 = .ok (.bipush 97, 2) := by decide +kernel
theorem dX4_name_56 : decode cX4_name 56 = .ok (.isub, 1) := by decide +kernel
theorem dX4_name_57 : decode cX4_name 57 = .ok (.iconst 1, 1) := by decide +kernel
theorem dX4_name_58 : decode cX4_name 58 = .ok (.iadd, 1) := by decide +kernel
theorem dX4_name_59 : decode cX4_name 59 = .ok (.goto 7, 3) := by decide +kernel
theorem dX4_name_62 : decode cX4_name 62 = .ok (.aload_n 0, 1) := by decide +kernel
theorem dX4_name_63 : decode cX4_name 63 = .ok (.getfield 143, 3) := by decide +kernel
theorem dX4_name_66 : decode cX4_name 66 = .ok (.putfield 143, 3) := by decide +kernel
theorem dX4_name_69 : decode cX4_name 69 = .ok (.aload_n 0, 1) := by decide +kernel
theorem dX4_name_70 : decode cX4_name 70 = .ok (.dup, 1) := by decide +kernel
theorem dX4_name_71 : decode cX4_name 71 = .ok (.getfield 140, 3) := by decide +kernel
theorem dX4_name_74 : decode cX4_name 74 = .ok (.iconst 1, 1) := by decide +kernel
theorem dX4_name_75 : decode cX4_name 75 = .ok (.iadd, 1) := by decide +kernel
theorem dX4_name_76 : decode cX4_name 76 = .ok (.putfield 140, 3) := by decide +kernel
theorem dX4_name_79 : decode cX4_name 79 = .ok (.aload_n 0, 1) := by decide +kernel
theorem dX4_name_80 : decode cX4_name 80 = .ok (.dup, 1) := by decide +kernel
theorem dX4_name_81 : decode cX4_name 81 = .ok (.getfield 134, 3) := by decide +kernel
theorem dX4_name_84 : decode cX4_name 84 = .ok (.iconst 1, 1) := by decide +kernel
theorem dX4_name_85 : decode cX4_name 85 = .ok (.iadd, 1) := by decide +kernel
theorem dX4_name_86 : decode cX4_name 86 = .ok (.putfield 134, 3) := by decide +kernel
theorem dX4_name_89 : decode cX4_name 89 = .ok (.goto (-79), 3) := by decide +kernel
theorem dX4_name_92 : decode cX4_name 92 = .ok (.aload_n 0, 1) := by decide +kernel
theorem dX4_name_93 : decode cX4_name 93 = .ok (.getfield 140, 3) := by decide +kernel
theorem dX4_name_96 : decode cX4_name 96 = .ok (.ifCond .le 7, 3) := by decide +kernel
theorem dX4_name_99 : decode cX4_name 99 = .ok (.iconst 1, 1) := by decide +kernel
theorem dX4_name_100 : decode cX4_name 100 = .ok (.goto 4, 3) := by decide +kernel
theorem dX4_name_103 : decode cX4_name 103 = .ok (.iconst 0, 1) := by decide +kernel
theorem dX4_name_104 : decode cX4_name 104 = .ok (.ireturn, 1) := by decide +kernel
set_option maxRecDepth 20000 in
theorem ggX4_reads_X4_letter : GoodIn wsX4_reads wsX4_letter := goodIn_r _ [6, 7, 8, 27, 28, 29, 30, 31, 32, 33, 34, 35, 36, 37, 38, 39, 40, 41, 42, 43] (by decide +kernel) (by decide +kernel)
set_option maxRecDepth 20000 in
theorem gX4_reads_X4_letter : GoodIn wsX4_reads (wsV RX4 137 RX4 yX4_letter wsX4_letter) := goodIn_app (goodIn_of _ (by decide +kernel)) ggX4_reads_X4_letter
set_option maxRecDepth 20000 in
theorem ggX4_reads_X4_digit : GoodIn wsX4_reads wsX4_digit := goodIn_r _ [12, 1, 13, 2, 3, 4, 5, 6, 7, 8, 14, 15, 16, 27, 28, 29, 30, 31, 32, 33, 34, 35, 36, 37, 38, 39, 40, 41, 42, 43] (by decide +kernel) (by decide +kernel)
set_option maxRecDepth 20000 in
theorem gX4_reads_X4_digit : GoodIn wsX4_reads (wsV RX4 146 RX4 yX4_digit wsX4_digit) := goodIn_app (goodIn_of _ (by decide +kernel)) ggX4_reads_X4_digit
set_option maxRecDepth 20000 in
theorem ggX4_reads_X4_passes : GoodIn wsX4_reads wsX4_passes := goodIn_r _ [20, 1, 2, 3, 4, 5, 6, 7, 8, 27, 28, 29, 30, 31, 32, 33, 34, 35, 36, 37, 38, 39, 40, 41, 42, 43] (by decide +kernel) (by decide +kernel)
set_option maxRecDepth 20000 in
theorem gX4_reads_X4_passes : GoodIn wsX4_reads (wsV RX4 149 RX4 yX4_passes wsX4_passes) := goodIn_app (goodIn_of _ (by decide +kernel)) ggX4_reads_X4_passes
set_option maxRecDepth 20000 in
theorem ggX4_reads_X4_name : GoodIn wsX4_reads wsX4_name := goodIn_r _ [24, 25, 26, 1, 2, 3, 4, 5, 6, 7, 8, 14, 15, 16, 27, 28, 29, 30, 31, 32, 33, 34, 35, 36, 37, 38, 39, 40, 41, 42, 43] (by decide +kernel) (by decide +kernel)
set_option maxRecDepth 20000 in
theorem gX4_reads_X4_name : GoodIn wsX4_reads (wsV RX4 152 RX4 yX4_name wsX4_name) := goodIn_app (goodIn_of _ (by decide +kernel)) ggX4_reads_X4_name
theorem dX4_reads_0 : decode cX4_reads 0 = .ok (.aload_n 0, 1) := by decide +kernel
theorem dX4_reads_1 : decode cX4_reads 1 = .ok (.aload_n 0, 1) := by decide +kernel
theorem dX4_reads_2 : decode cX4_reads 2 = .ok (.getfield 134, 3) := by decide +kernel
theorem dX4_reads_5 : decode cX4_reads 5 = .ok (.invokevirtual 137, 3) := by decide +kernel
theorem dX4_reads_8 : decode cX4_reads 8 = .ok (.istore_n 1, 1) := by decide +kernel
theorem dX4_reads_9 : decode cX4_reads 9 = .ok (.iload_n 1, 1) := by decide +kernel
theorem dX4_reads_10 : decode cX4_reads 10 = .ok (.bipush 43, 2) := by decide +kernel
theorem dX4_reads_12 : decode cX4_reads 12 = .ok (.if_icmp .eq 23, 3) := by decide +kernel
theorem dX4_reads_15 : decode cX4_reads 15 = .ok (.iload_n 1, 1) := by decide +kernel
theorem dX4_reads_16 : decode cX4_reads 16 = .ok (.bipush 45, 2) := by decide +kernel
theorem dX4_reads_18 : decode cX4_reads 18 = .ok (.if_icmp .eq 17, 3) := by decide +kernel
theorem dX4_reads_21 : decode cX4_reads 21 = .ok (.iload_n 1, 1) := by decide +kernel
theorem dX4_reads_22 : decode cX4_reads 22 = .ok (.bipush 61, 2) := by decide +kernel
theorem dX4_reads_24 : decode cX4_reads 24 = .ok (.if_icmp .eq 11, 3) := by decide +kernel
theorem dX4_reads_27 : decode cX4_reads 27 = .ok (.iload_n 1, 1) := by decide +kernel
theorem dX4_reads_28 : decode cX4_reads 28 = .ok (.bipush 33, 2) := by decide +kernel
theorem dX4_reads_30 : decode cX4_reads 30 = .ok (.if_icmp .eq 5, 3) := by decide +kernel
theorem dX4_reads_33 : decode cX4_reads 33 = .ok (.iconst 0, 1) := by decide +kernel
theorem dX4_reads_34 : decode cX4_reads 34 = .ok (.ireturn, 1) := by decide +kernel
theorem dX4_reads_35 : decode cX4_reads 35 = .ok (.aload_n 0, 1) := by decide +kernel
theorem dX4_reads_36 : decode cX4_reads 36 = .ok (.dup, 1) := by decide +kernel
theorem dX4_reads_37 : decode cX4_reads 37 = .ok (.getfield 134, 3) := by decide +kernel
theorem dX4_reads_40 : decode cX4_reads 40 = .ok (.iconst 1, 1) := by decide +kernel
theorem dX4_reads_41 : decode cX4_reads 41 = .ok (.iadd, 1) := by decide +kernel
theorem dX4_reads_42 : decode cX4_reads 42 = .ok (.putfield 134, 3) := by decide +kernel
theorem dX4_reads_45 : decode cX4_reads 45 = .ok (.iload_n 1, 1) := by decide +kernel
theorem dX4_reads_46 : decode cX4_reads 46 = .ok (.bipush 33, 2) := by decide +kernel
theorem dX4_reads_48 : decode cX4_reads 48 = .ok (.if_icmp .ne 26, 3) := by decide +kernel
theorem dX4_reads_51 : decode cX4_reads 51 = .ok (.aload_n 0, 1) := by decide +kernel
theorem dX4_reads_52 : decode cX4_reads 52 = .ok (.iconst 0, 1) := by decide +kernel
theorem dX4_reads_53 : decode cX4_reads 53 = .ok (.invokevirtual 146, 3) := by decide +kernel
theorem dX4_reads_56 : decode cX4_reads 56 = .ok (.ifCond .eq 16, 3) := by decide +kernel
theorem dX4_reads_59 : decode cX4_reads 59 = .ok (.aload_n 0, 1) := by decide +kernel
theorem dX4_reads_60 : decode cX4_reads 60 = .ok (.bipush 59, 2) := by decide +kernel
theorem dX4_reads_62 : decode cX4_reads 62 = .ok (.invokevirtual 149, 3) := by decide +kernel
theorem dX4_reads_65 : decode cX4_reads 65 = .ok (.ifCond .eq 7, 3) := by decide +kernel
theorem dX4_reads_68 : decode cX4_reads 68 = .ok (.iconst 1, 1) := by decide +kernel
theorem dX4_reads_69 : decode cX4_reads 69 = .ok (.goto 4, 3) := by decide +kernel
theorem dX4_reads_72 : decode cX4_reads 72 = .ok (.iconst 0, 1) := by decide +kernel
theorem dX4_reads_73 : decode cX4_reads 73 = .ok (.ireturn, 1) := by decide +kernel
theorem dX4_reads_74 : decode cX4_reads 74 = .ok (.iload_n 1, 1) := by decide +kernel
theorem dX4_reads_75 : decode cX4_reads 75 = .ok (.bipush 61, 2) := by decide +kernel
theorem dX4_reads_77 : decode cX4_reads 77 = .ok (.if_icmp .ne 39, 3) := by decide +kernel
theorem dX4_reads_80 : decode cX4_reads 80 = .ok (.aload_n 0, 1) := by decide +kernel
theorem dX4_reads_81 : decode cX4_reads 81 = .ok (.iconst 0, 1) := by decide +kernel
theorem dX4_reads_82 : decode cX4_reads 82 = .ok (.invokevirtual 146, 3) := by decide +kernel
theorem dX4_reads_85 : decode cX4_reads 85 = .ok (.ifCond .eq 29, 3) := by decide +kernel
theorem dX4_reads_88 : decode cX4_reads 88 = .ok (.aload_n 0, 1) := by decide +kernel
theorem dX4_reads_89 : decode cX4_reads 89 = .ok (.bipush 44, 2) := by decide +kernel
theorem dX4_reads_91 : decode cX4_reads 91 = .ok (.invokevirtual 149, 3) := by decide +kernel
theorem dX4_reads_94 : decode cX4_reads 94 = .ok (.ifCond .eq 20, 3) := by decide +kernel
theorem dX4_reads_97 : decode cX4_reads 97 = .ok (.aload_n 0, 1) := by decide +kernel
theorem dX4_reads_98 : decode cX4_reads 98 = .ok (.iconst 1, 1) := by decide +kernel
theorem dX4_reads_99 : decode cX4_reads 99 = .ok (.invokevirtual 146, 3) := by decide +kernel
theorem dX4_reads_102 : decode cX4_reads 102 = .ok (.ifCond .eq 12, 3) := by decide +kernel
theorem dX4_reads_105 : decode cX4_reads 105 = .ok (.aload_n 0, 1) := by decide +kernel
theorem dX4_reads_106 : decode cX4_reads 106 = .ok (.bipush 44, 2) := by decide +kernel
theorem dX4_reads_108 : decode cX4_reads 108 = .ok (.invokevirtual 149, 3) := by decide +kernel
theorem dX4_reads_111 : decode cX4_reads 111 = .ok (.ifCond .ne 5, 3) := by decide +kernel
theorem dX4_reads_114 : decode cX4_reads 114 = .ok (.iconst 0, 1) := by decide +kernel
theorem dX4_reads_115 : decode cX4_reads 115 = .ok (.ireturn, 1) := by decide +kernel
theorem dX4_reads_116 : decode cX4_reads 116 = .ok (.aload_n 0, 1) := by decide +kernel
theorem dX4_reads_117 : decode cX4_reads 117 = .ok (.invokevirtual 152, 3) := by decide +kernel
theorem dX4_reads_120 : decode cX4_reads 120 = .ok (.ifCond .eq 16, 3) := by decide +kernel
theorem dX4_reads_123 : decode cX4_reads 123 = .ok (.aload_n 0, 1) := by decide +kernel
theorem dX4_reads_124 : decode cX4_reads 124 = .ok (.bipush 59, 2) := by decide +kernel
theorem dX4_reads_126 : decode cX4_reads 126 = .ok (.invokevirtual 149, 3) := by decide +kernel
theorem dX4_reads_129 : decode cX4_reads 129 = .ok (.ifCond .eq 7, 3) := by decide +kernel
theorem dX4_reads_132 : decode cX4_reads 132 = .ok (.iconst 1, 1) := by decide +kernel
theorem dX4_reads_133 : decode cX4_reads 133 = .ok (.goto 4, 3) := by decide +kernel
theorem dX4_reads_136 : decode cX4_reads 136 = .ok (.iconst 0, 1) := by decide +kernel
theorem dX4_reads_137 : decode cX4_reads 137 = .ok (.ireturn, 1) := by decide +kernel
theorem dX4_wrong_0 : decode cX4_wrong 0 = .ok (.iload_n 1, 1) := by decide +kernel
theorem dX4_wrong_1 : decode cX4_wrong 1 = .ok (.bipush 33, 2) := by decide +kernel
theorem dX4_wrong_3 : decode cX4_wrong 3 = .ok (.if_icmp .ne 19, 3) := by decide +kernel
theorem dX4_wrong_6 : decode cX4_wrong 6 = .ok (.aload_n 0, 1) := by decide +kernel
theorem dX4_wrong_7 : decode cX4_wrong 7 = .ok (.getfield 28, 3) := by decide +kernel
theorem dX4_wrong_10 : decode cX4_wrong 10 = .ok (.iconst 0, 1) := by decide +kernel
theorem dX4_wrong_11 : decode cX4_wrong 11 = .ok (.iaload, 1) := by decide +kernel
theorem dX4_wrong_12 : decode cX4_wrong 12 = .ok (.iconst 2, 1) := by decide +kernel
theorem dX4_wrong_13 : decode cX4_wrong 13 = .ok (.if_icmp .le 7, 3) := by decide +kernel
theorem dX4_wrong_16 : decode cX4_wrong 16 = .ok (.iconst 2, 1) := by decide +kernel
theorem dX4_wrong_17 : decode cX4_wrong 17 = .ok (.goto 4, 3) := by decide +kernel
theorem dX4_wrong_20 : decode cX4_wrong 20 = .ok (.iconst (-1), 1) := by decide +kernel
theorem dX4_wrong_21 : decode cX4_wrong 21 = .ok (.ireturn, 1) := by decide +kernel
theorem dX4_wrong_22 : decode cX4_wrong 22 = .ok (.iload_n 1, 1) := by decide +kernel
theorem dX4_wrong_23 : decode cX4_wrong 23 = .ok (.bipush 61, 2) := by decide +kernel
theorem dX4_wrong_25 : decode cX4_wrong 25 = .ok (.if_icmp .ne 15, 3) := by decide +kernel
theorem dX4_wrong_28 : decode cX4_wrong 28 = .ok (.aload_n 0, 1) := by decide +kernel
theorem dX4_wrong_29 : decode cX4_wrong 29 = .ok (.getfield 28, 3) := by decide +kernel
theorem dX4_wrong_32 : decode cX4_wrong 32 = .ok (.iconst 0, 1) := by decide +kernel
theorem dX4_wrong_33 : decode cX4_wrong 33 = .ok (.iaload, 1) := by decide +kernel
theorem dX4_wrong_34 : decode cX4_wrong 34 = .ok (.iconst 2, 1) := by decide +kernel
theorem dX4_wrong_35 : decode cX4_wrong 35 = .ok (.if_icmp .le 5, 3) := by decide +kernel
theorem dX4_wrong_38 : decode cX4_wrong 38 = .ok (.iconst 0, 1) := by decide +kernel
theorem dX4_wrong_39 : decode cX4_wrong 39 = .ok (.ireturn, 1) := by decide +kernel
theorem dX4_wrong_40 : decode cX4_wrong 40 = .ok (.iload_n 1, 1) := by decide +kernel
theorem dX4_wrong_41 : decode cX4_wrong 41 = .ok (.bipush 61, 2) := by decide +kernel
theorem dX4_wrong_43 : decode cX4_wrong 43 = .ok (.if_icmp .ne 15, 3) := by decide +kernel
theorem dX4_wrong_46 : decode cX4_wrong 46 = .ok (.aload_n 0, 1) := by decide +kernel
theorem dX4_wrong_47 : decode cX4_wrong 47 = .ok (.getfield 28, 3) := by decide +kernel
theorem dX4_wrong_50 : decode cX4_wrong 50 = .ok (.iconst 1, 1) := by decide +kernel
theorem dX4_wrong_51 : decode cX4_wrong 51 = .ok (.iaload, 1) := by decide +kernel
theorem dX4_wrong_52 : decode cX4_wrong 52 = .ok (.iconst 5, 1) := by decide +kernel
theorem dX4_wrong_53 : decode cX4_wrong 53 = .ok (.if_icmp .le 5, 3) := by decide +kernel
theorem dX4_wrong_56 : decode cX4_wrong 56 = .ok (.iconst 1, 1) := by decide +kernel
theorem dX4_wrong_57 : decode cX4_wrong 57 = .ok (.ireturn, 1) := by decide +kernel
theorem dX4_wrong_58 : decode cX4_wrong 58 = .ok (.aload_n 0, 1) := by decide +kernel
theorem dX4_wrong_59 : decode cX4_wrong 59 = .ok (.getfield 140, 3) := by decide +kernel
theorem dX4_wrong_62 : decode cX4_wrong 62 = .ok (.bipush 6, 2) := by decide +kernel
theorem dX4_wrong_64 : decode cX4_wrong 64 = .ok (.if_icmp .le 7, 3) := by decide +kernel
theorem dX4_wrong_67 : decode cX4_wrong 67 = .ok (.iconst 3, 1) := by decide +kernel
theorem dX4_wrong_68 : decode cX4_wrong 68 = .ok (.goto 4, 3) := by decide +kernel
theorem dX4_wrong_71 : decode cX4_wrong 71 = .ok (.iconst (-1), 1) := by decide +kernel
theorem dX4_wrong_72 : decode cX4_wrong 72 = .ok (.ireturn, 1) := by decide +kernel
set_option maxRecDepth 20000 in
theorem ggX4_does_X4_numberWith : GoodIn wsX4_does wsX4_numberWith := goodIn_r _ [8, 2, 61, 62, 63, 64, 65, 66, 67, 68, 69, 70, 71, 72, 73, 74, 75, 76, 77] (by decide +kernel) (by decide +kernel)
set_option maxRecDepth 20000 in
theorem gX4_does_X4_numberWith : GoodIn wsX4_does (wsV RX4 47 RX4 yX4_numberWith wsX4_numberWith) := goodIn_app (goodIn_of _ (by decide +kernel)) ggX4_does_X4_numberWith
set_option maxRecDepth 20000 in
theorem ggX4_does_X4_compacts : GoodIn wsX4_does wsX4_compacts := goodIn_r _ [12, 2, 13, 14, 15, 16, 17, 18, 7, 19, 20, 21, 22, 23, 24, 25, 26, 27, 28, 29, 30, 31, 61, 62, 63, 64, 65, 66, 67, 68, 69, 70, 71, 72, 73, 74, 75, 76, 77] (by decide +kernel) (by decide +kernel)
set_option maxRecDepth 20000 in
theorem gX4_does_X4_compacts : GoodIn wsX4_does (wsV RX4 113 RX4 yX4_compacts wsX4_compacts) := goodIn_app (goodIn_of _ (by decide +kernel)) ggX4_does_X4_compacts
set_option maxRecDepth 20000 in
theorem ggX4_does_X4_canAcquire : GoodIn wsX4_does wsX4_canAcquire := goodIn_r _ [35, 2, 4, 5, 6, 7, 8, 36, 37, 38, 39, 20, 21, 22, 23, 61, 62, 63, 64, 65, 66, 67, 68, 69, 70, 71, 72, 73, 74, 75, 76, 77] (by decide +kernel) (by decide +kernel)
set_option maxRecDepth 20000 in
theorem gX4_does_X4_canAcquire : GoodIn wsX4_does (wsV RX4 62 RX4 yX4_canAcquire wsX4_canAcquire) := goodIn_app (goodIn_of _ (by decide +kernel)) ggX4_does_X4_canAcquire
set_option maxRecDepth 20000 in
theorem ggX4_does_X4_acquires : GoodIn wsX4_does wsX4_acquires := goodIn_r _ [43, 2, 4, 5, 6, 7, 8, 36, 37, 38, 39, 20, 21, 22, 23, 44, 45, 46, 47, 48, 61, 62, 63, 64, 65, 66, 67, 68, 69, 70, 71, 72, 73, 74, 75, 76, 77] (by decide +kernel) (by decide +kernel)
set_option maxRecDepth 20000 in
theorem gX4_does_X4_acquires : GoodIn wsX4_does (wsV RX4 69 RX4 yX4_acquires wsX4_acquires) := goodIn_app (goodIn_of _ (by decide +kernel)) ggX4_does_X4_acquires
set_option maxRecDepth 20000 in
theorem ggX4_does_X4_cellsWith : GoodIn wsX4_does wsX4_cellsWith := goodIn_r _ [52, 2, 61, 62, 63, 64, 65, 66, 67, 68, 69, 70, 71, 72, 73, 74, 75, 76, 77] (by decide +kernel) (by decide +kernel)
set_option maxRecDepth 20000 in
theorem gX4_does_X4_cellsWith : GoodIn wsX4_does (wsV RX4 86 RX4 yX4_cellsWith wsX4_cellsWith) := goodIn_app (goodIn_of _ (by decide +kernel)) ggX4_does_X4_cellsWith
set_option maxRecDepth 20000 in
theorem ggX4_does_X4_givesBack : GoodIn wsX4_does wsX4_givesBack := goodIn_r _ [56, 2, 61, 62, 63, 64, 65, 66, 67, 68, 69, 70, 71, 72, 73, 74, 75, 76, 77] (by decide +kernel) (by decide +kernel)
set_option maxRecDepth 20000 in
theorem gX4_does_X4_givesBack : GoodIn wsX4_does (wsV RX4 89 RX4 yX4_givesBack wsX4_givesBack) := goodIn_app (goodIn_of _ (by decide +kernel)) ggX4_does_X4_givesBack
set_option maxRecDepth 20000 in
theorem ggX4_does_X4_puts : GoodIn wsX4_does wsX4_puts := goodIn_r _ [60, 2, 53, 54, 55, 7, 56, 61, 62, 63, 64, 65, 66, 67, 68, 69, 70, 71, 72, 73, 74, 75, 76, 77] (by decide +kernel) (by decide +kernel)
set_option maxRecDepth 20000 in
theorem gX4_does_X4_puts : GoodIn wsX4_does (wsV RX4 96 RX4 yX4_puts wsX4_puts) := goodIn_app (goodIn_of _ (by decide +kernel)) ggX4_does_X4_puts
theorem dX4_does_0 : decode cX4_does 0 = .ok (.aload_n 0, 1) := by decide +kernel
theorem dX4_does_1 : decode cX4_does 1 = .ok (.aload_n 0, 1) := by decide +kernel
theorem dX4_does_2 : decode cX4_does 2 = .ok (.getfield 143, 3) := by decide +kernel
theorem dX4_does_5 : decode cX4_does 5 = .ok (.invokevirtual 47, 3) := by decide +kernel
theorem dX4_does_8 : decode cX4_does 8 = .ok (.istore_n 2, 1) := by decide +kernel
theorem dX4_does_9 : decode cX4_does 9 = .ok (.iload_n 1, 1) := by decide +kernel
theorem dX4_does_10 : decode cX4_does 10 = .ok (.bipush 33, 2) := by decide +kernel
theorem dX4_does_12 : decode cX4_does 12 = .ok (.if_icmp .ne 38, 3) := by decide +kernel
theorem dX4_does_15 : decode cX4_does 15 = .ok (.aload_n 0, 1) := by decide +kernel
theorem dX4_does_16 : decode cX4_does 16 = .ok (.getfield 7, 3) := by decide +kernel
theorem dX4_does_19 : decode cX4_does 19 = .ok (.iconst 0, 1) := by decide +kernel
theorem dX4_does_20 : decode cX4_does 20 = .ok (.iaload, 1) := by decide +kernel
theorem dX4_does_21 : decode cX4_does 21 = .ok (.sipush 999, 3) := by decide +kernel
theorem dX4_does_24 : decode cX4_does 24 = .ok (.if_icmp .ge 7, 3) := by decide +kernel
theorem dX4_does_27 : decode cX4_does 27 = .ok (.iconst 1, 1) := by decide +kernel
theorem dX4_does_28 : decode cX4_does 28 = .ok (.goto 4, 3) := by decide +kernel
theorem dX4_does_31 : decode cX4_does 31 = .ok (.iconst 0, 1) := by decide +kernel
theorem dX4_does_32 : decode cX4_does 32 = .ok (.istore_n 3, 1) := by decide +kernel
theorem dX4_does_33 : decode cX4_does 33 = .ok (.iload_n 3, 1) := by decide +kernel
theorem dX4_does_34 : decode cX4_does 34 = .ok (.ifCond .eq 14, 3) := by decide +kernel
theorem dX4_does_37 : decode cX4_does 37 = .ok (.aload_n 0, 1) := by decide +kernel
theorem dX4_does_38 : decode cX4_does 38 = .ok (.aload_n 0, 1) := by decide +kernel
theorem dX4_does_39 : decode cX4_does 39 = .ok (.getfield 28, 3) := by decide +kernel
theorem dX4_does_42 : decode cX4_does 42 = .ok (.iconst 0, 1) := by decide +kernel
theorem dX4_does_43 : decode cX4_does 43 = .ok (.iaload, 1) := by decide +kernel
theorem dX4_does_44 : decode cX4_does 44 = .ok (.invokevirtual 113, 3) := by decide +kernel
theorem dX4_does_47 : decode cX4_does 47 = .ok (.pop, 1) := by decide +kernel
theorem dX4_does_48 : decode cX4_does 48 = .ok (.iload_n 3, 1) := by decide +kernel
theorem dX4_does_49 : decode cX4_does 49 = .ok (.ireturn, 1) := by decide +kernel
theorem dX4_does_50 : decode cX4_does 50 = .ok (.iload_n 1, 1) := by decide +kernel
theorem dX4_does_51 : decode cX4_does 51 = .ok (.bipush 43, 2) := by decide +kernel
theorem dX4_does_53 : decode cX4_does 53 = .ok (.if_icmp .ne 27, 3) := by decide +kernel
theorem dX4_does_56 : decode cX4_does 56 = .ok (.aload_n 0, 1) := by decide +kernel
theorem dX4_does_57 : decode cX4_does 57 = .ok (.aload_n 0, 1) := by decide +kernel
theorem dX4_does_58 : decode cX4_does 58 = .ok (.getfield 143, 3) := by decide +kernel
theorem dX4_does_61 : decode cX4_does 61 = .ok (.invokevirtual 62, 3) := by decide +kernel
theorem dX4_does_64 : decode cX4_does 64 = .ok (.istore_n 3, 1) := by decide +kernel
theorem dX4_does_65 : decode cX4_does 65 = .ok (.iload_n 3, 1) := by decide +kernel
theorem dX4_does_66 : decode cX4_does 66 = .ok (.ifCond .eq 12, 3) := by decide +kernel
theorem dX4_does_69 : decode cX4_does 69 = .ok (.aload_n 0, 1) := by decide +kernel
theorem dX4_does_70 : decode cX4_does 70 = .ok (.aload_n 0, 1) := by decide +kernel
theorem dX4_does_71 : decode cX4_does 71 = .ok (.getfield 143, 3) := by decide +kernel
theorem dX4_does_74 : decode cX4_does 74 = .ok (.invokevirtual 69, 3) := by decide +kernel
theorem dX4_does_77 : decode cX4_does 77 = .ok (.pop, 1) := by decide +kernel
theorem dX4_does_78 : decode cX4_does 78 = .ok (.iload_n 3, 1) := by decide +kernel
theorem dX4_does_79 : decode cX4_does 79 = .ok (.ireturn, 1) := by decide +kernel
theorem dX4_does_80 : decode cX4_does 80 = .ok (.iload_n 2, 1) := by decide +kernel
theorem dX4_does_81 : decode cX4_does 81 = .ok (.ifCond .ge 5, 3) := by decide +kernel
theorem dX4_does_84 : decode cX4_does 84 = .ok (.iconst 0, 1) := by decide +kernel
theorem dX4_does_85 : decode cX4_does 85 = .ok (.ireturn, 1) := by decide +kernel
theorem dX4_does_86 : decode cX4_does 86 = .ok (.iload_n 1, 1) := by decide +kernel
theorem dX4_does_87 : decode cX4_does 87 = .ok (.bipush 45, 2) := by decide +kernel
theorem dX4_does_89 : decode cX4_does 89 = .ok (.if_icmp .ne 28, 3) := by decide +kernel
theorem dX4_does_92 : decode cX4_does 92 = .ok (.aload_n 0, 1) := by decide +kernel
theorem dX4_does_93 : decode cX4_does 93 = .ok (.getfield 7, 3) := by decide +kernel
theorem dX4_does_96 : decode cX4_does 96 = .ok (.bipush 44, 2) := by decide +kernel
theorem dX4_does_98 : decode cX4_does 98 = .ok (.iload_n 2, 1) := by decide +kernel
theorem dX4_does_99 : decode cX4_does 99 = .ok (.iadd, 1) := by decide +kernel
theorem dX4_does_100 : decode cX4_does 100 = .ok (.iaload, 1) := by decide +kernel
theorem dX4_does_101 : decode cX4_does 101 = .ok (.aload_n 0, 1) := by decide +kernel
theorem dX4_does_102 : decode cX4_does 102 = .ok (.iload_n 2, 1) := by decide +kernel
theorem dX4_does_103 : decode cX4_does 103 = .ok (.invokevirtual 86, 3) := by decide +kernel
theorem dX4_does_106 : decode cX4_does 106 = .ok (.if_icmp .le 7, 3) := by decide +kernel
theorem dX4_does_109 : decode cX4_does 109 = .ok (.iconst 1, 1) := by decide +kernel
theorem dX4_does_110 : decode cX4_does 110 = .ok (.goto 27, 3) := by decide +kernel
theorem dX4_does_113 : decode cX4_does 113 = .ok (.iconst 0, 1) := by decide +kernel
theorem dX4_does_114 : decode cX4_does 114 = .ok (.goto 23, 3) := by decide +kernel
theorem dX4_does_117 : decode cX4_does 117 = .ok (.aload_n 0, 1) := by decide +kernel
theorem dX4_does_118 : decode cX4_does 118 = .ok (.getfield 7, 3) := by decide +kernel
theorem dX4_does_121 : decode cX4_does 121 = .ok (.bipush 44, 2) := by decide +kernel
theorem dX4_does_123 : decode cX4_does 123 = .ok (.iload_n 2, 1) := by decide +kernel
theorem dX4_does_124 : decode cX4_does 124 = .ok (.iadd, 1) := by decide +kernel
theorem dX4_does_125 : decode cX4_does 125 = .ok (.iaload, 1) := by decide +kernel
theorem dX4_does_126 : decode cX4_does 126 = .ok (.sipush 999, 3) := by decide +kernel
theorem dX4_does_129 : decode cX4_does 129 = .ok (.if_icmp .ge 7, 3) := by decide +kernel
theorem dX4_does_132 : decode cX4_does 132 = .ok (.iconst 1, 1) := by decide +kernel
theorem dX4_does_133 : decode cX4_does 133 = .ok (.goto 4, 3) := by decide +kernel
theorem dX4_does_136 : decode cX4_does 136 = .ok (.iconst 0, 1) := by decide +kernel
theorem dX4_does_137 : decode cX4_does 137 = .ok (.istore_n 3, 1) := by decide +kernel
theorem dX4_does_138 : decode cX4_does 138 = .ok (.iload_n 3, 1) := by decide +kernel
theorem dX4_does_139 : decode cX4_does 139 = .ok (.ifCond .eq 18, 3) := by decide +kernel
theorem dX4_does_142 : decode cX4_does 142 = .ok (.iload_n 1, 1) := by decide +kernel
theorem dX4_does_143 : decode cX4_does 143 = .ok (.bipush 45, 2) := by decide +kernel
theorem dX4_does_145 : decode cX4_does 145 = .ok (.if_icmp .ne 12, 3) := by decide +kernel
theorem dX4_does_148 : decode cX4_does 148 = .ok (.aload_n 0, 1) := by decide +kernel
theorem dX4_does_149 : decode cX4_does 149 = .ok (.iload_n 2, 1) := by decide +kernel
theorem dX4_does_150 : decode cX4_does 150 = .ok (.invokevirtual 89, 3) := by decide +kernel
theorem dX4_does_153 : decode cX4_does 153 = .ok (.pop, 1) := by decide +kernel
theorem dX4_does_154 : decode cX4_does 154 = .ok (.goto 29, 3) := by decide +kernel
theorem dX4_does_157 : decode cX4_does 157 = .ok (.iload_n 3, 1) := by decide +kernel
theorem dX4_does_158 : decode cX4_does 158 = .ok (.ifCond .eq 25, 3) := by decide +kernel
theorem dX4_does_161 : decode cX4_does 161 = .ok (.aload_n 0, 1) := by decide +kernel
theorem dX4_does_162 : decode cX4_does 162 = .ok (.bipush 6, 2) := by decide +kernel
theorem dX4_does_164 : decode cX4_does 164 = .ok (.aload_n 0, 1) := by decide +kernel
theorem dX4_does_165 : decode cX4_does 165 = .ok (.getfield 28, 3) := by decide +kernel
theorem dX4_does_168 : decode cX4_does 168 = .ok (.iconst 0, 1) := by decide +kernel
theorem dX4_does_169 : decode cX4_does 169 = .ok (.iaload, 1) := by decide +kernel
theorem dX4_does_170 : decode cX4_does 170 = .ok (.imul, 1) := by decide +kernel
theorem dX4_does_171 : decode cX4_does 171 = .ok (.aload_n 0, 1) := by decide +kernel
theorem dX4_does_172 : decode cX4_does 172 = .ok (.getfield 28, 3) := by decide +kernel
theorem dX4_does_175 : decode cX4_does 175 = .ok (.iconst 1, 1) := by decide +kernel
theorem dX4_does_176 : decode cX4_does 176 = .ok (.iaload, 1) := by decide +kernel
theorem dX4_does_177 : decode cX4_does 177 = .ok (.iadd, 1) := by decide +kernel
theorem dX4_does_178 : decode cX4_does 178 = .ok (.iload_n 2, 1) := by decide +kernel
theorem dX4_does_179 : decode cX4_does 179 = .ok (.invokevirtual 96, 3) := by decide +kernel
theorem dX4_does_182 : decode cX4_does 182 = .ok (.pop, 1) := by decide +kernel
theorem dX4_does_183 : decode cX4_does 183 = .ok (.iload_n 3, 1) := by decide +kernel
theorem dX4_does_184 : decode cX4_does 184 = .ok (.ireturn, 1) := by decide +kernel
set_option maxRecDepth 20000 in
theorem ggX4_doesAll_X4_letter : GoodIn wsX4_doesAll wsX4_letter := goodIn_r _ [10, 3, 11, 99, 100, 101, 102, 103, 104, 105, 106, 107, 108, 109, 110, 111, 112, 113, 114, 115] (by decide +kernel) (by decide +kernel)
set_option maxRecDepth 20000 in
theorem gX4_doesAll_X4_letter : GoodIn wsX4_doesAll (wsV RX4 137 RX4 yX4_letter wsX4_letter) := goodIn_app (goodIn_of _ (by decide +kernel)) ggX4_doesAll_X4_letter
set_option maxRecDepth 20000 in
theorem ggX4_doesAll_X4_reads : GoodIn wsX4_doesAll wsX4_reads := goodIn_r _ [15, 2, 6, 7, 8, 9, 10, 3, 11, 16, 17, 18, 19, 20, 21, 22, 23, 24, 25, 26, 27, 28, 29, 30, 31, 32, 33, 99, 100, 101, 102, 103, 104, 105, 106, 107, 108, 109, 110, 111, 112, 113, 114, 115] (by decide +kernel) (by decide +kernel)
set_option maxRecDepth 20000 in
theorem gX4_doesAll_X4_reads : GoodIn wsX4_doesAll (wsV RX4 162 RX4 yX4_reads wsX4_reads) := goodIn_app (goodIn_of _ (by decide +kernel)) ggX4_doesAll_X4_reads
set_option maxRecDepth 20000 in
theorem ggX4_doesAll_X4_wrong : GoodIn wsX4_doesAll wsX4_wrong := goodIn_r _ [37, 20, 32, 99, 100, 101, 102, 103, 104, 105, 106, 107, 108, 109, 110, 111, 112, 113, 114, 115] (by decide +kernel) (by decide +kernel)
set_option maxRecDepth 20000 in
theorem gX4_doesAll_X4_wrong : GoodIn wsX4_doesAll (wsV RX4 168 RX4 yX4_wrong wsX4_wrong) := goodIn_app (goodIn_of _ (by decide +kernel)) ggX4_doesAll_X4_wrong
set_option maxRecDepth 20000 in
theorem ggX4_doesAll_X4_does : GoodIn wsX4_doesAll wsX4_does := goodIn_r _ [41, 33, 42, 20, 43, 44, 45, 9, 46, 47, 48, 49, 50, 51, 52, 53, 54, 55, 56, 57, 58, 59, 60, 61, 62, 63, 64, 65, 66, 67, 68, 69, 70, 71, 72, 73, 74, 75, 76, 77, 78, 79, 80, 81, 82, 83, 84, 85, 86, 87, 88, 89, 90, 91, 92, 93, 94, 95, 96, 97, 98, 99, 100, 101, 102, 103, 104, 105, 106, 107, 108, 109, 110, 111, 112, 113, 114, 115] (by decide +kernel) (by decide +kernel)
set_option maxRecDepth 20000 in
theorem gX4_doesAll_X4_does : GoodIn wsX4_doesAll (wsV RX4 171 RX4 yX4_does wsX4_does) := goodIn_app (goodIn_of _ (by decide +kernel)) ggX4_doesAll_X4_does
theorem dX4_doesAll_0 : decode cX4_doesAll 0 = .ok (.iconst 0, 1) := by decide +kernel
theorem dX4_doesAll_1 : decode cX4_doesAll 1 = .ok (.istore_n 1, 1) := by decide +kernel
theorem dX4_doesAll_2 : decode cX4_doesAll 2 = .ok (.aload_n 0, 1) := by decide +kernel
theorem dX4_doesAll_3 : decode cX4_doesAll 3 = .ok (.iconst 0, 1) := by decide +kernel
theorem dX4_doesAll_4 : decode cX4_doesAll 4 = .ok (.putfield 156, 3) := by decide +kernel
theorem dX4_doesAll_7 : decode cX4_doesAll 7 = .ok (.aload_n 0, 1) := by decide +kernel
theorem dX4_doesAll_8 : decode cX4_doesAll 8 = .ok (.iconst 0, 1) := by decide +kernel
theorem dX4_doesAll_9 : decode cX4_doesAll 9 = .ok (.putfield 134, 3) := by decide +kernel
theorem dX4_doesAll_12 : decode cX4_doesAll 12 = .ok (.aload_n 0, 1) := by decide +kernel
theorem dX4_doesAll_13 : decode cX4_doesAll 13 = .ok (.getfield 134, 3) := by decide +kernel
theorem dX4_doesAll_16 : decode cX4_doesAll 16 = .ok (.aload_n 0, 1) := by decide +kernel
theorem dX4_doesAll_17 : decode cX4_doesAll 17 = .ok (.getfield 131, 3) := by decide +kernel
theorem dX4_doesAll_20 : decode cX4_doesAll 20 = .ok (.if_icmp .ge 102, 3) := by decide +kernel
theorem dX4_doesAll_23 : decode cX4_doesAll 23 = .ok (.aload_n 0, 1) := by decide +kernel
theorem dX4_doesAll_24 : decode cX4_doesAll 24 = .ok (.getfield 156, 3) := by decide +kernel
theorem dX4_doesAll_27 : decode cX4_doesAll 27 = .ok (.ifCond .ne 95, 3) := by decide +kernel
theorem dX4_doesAll_30 : decode cX4_doesAll 30 = .ok (.aload_n 0, 1) := by decide +kernel
theorem dX4_doesAll_31 : decode cX4_doesAll 31 = .ok (.aload_n 0, 1) := by decide +kernel
theorem dX4_doesAll_32 : decode cX4_doesAll 32 = .ok (.getfield 134, 3) := by decide +kernel
theorem dX4_doesAll_35 : decode cX4_doesAll 35 = .ok (.putfield 159, 3) := by decide +kernel
theorem dX4_doesAll_38 : decode cX4_doesAll 38 = .ok (.aload_n 0, 1) := by decide +kernel
theorem dX4_doesAll_39 : decode cX4_doesAll 39 = .ok (.aload_n 0, 1) := by decide +kernel
theorem dX4_doesAll_40 : decode cX4_doesAll 40 = .ok (.getfield 159, 3) := by decide +kernel
theorem dX4_doesAll_43 : decode cX4_doesAll 43 = .ok (.invokevirtual 137, 3) := by decide +kernel
theorem dX4_doesAll_46 : decode cX4_doesAll 46 = .ok (.istore_n 2, 1) := by decide +kernel
theorem dX4_doesAll_47 : decode cX4_doesAll 47 = .ok (.aload_n 0, 1) := by decide +kernel
theorem dX4_doesAll_48 : decode cX4_doesAll 48 = .ok (.invokevirtual 162, 3) := by decide +kernel
theorem dX4_doesAll_51 : decode cX4_doesAll 51 = .ok (.ifCond .ne 24, 3) := by decide +kernel
theorem dX4_doesAll_54 : decode cX4_doesAll 54 = .ok (.aload_n 0, 1) := by decide +kernel
theorem dX4_doesAll_55 : decode cX4_doesAll 55 = .ok (.iconst 1, 1) := by decide +kernel
theorem dX4_doesAll_56 : decode cX4_doesAll 56 = .ok (.putfield 156, 3) := by decide +kernel
theorem dX4_doesAll_59 : decode cX4_doesAll 59 = .ok (.aload_n 0, 1) := by decide +kernel
theorem dX4_doesAll_60 : decode cX4_doesAll 60 = .ok (.aload_n 0, 1) := by decide +kernel
theorem dX4_doesAll_61 : decode cX4_doesAll 61 = .ok (.getfield 134, 3) := by decide +kernel
theorem dX4_doesAll_64 : decode cX4_doesAll 64 = .ok (.aload_n 0, 1) := by decide +kernel
theorem dX4_doesAll_65 : decode cX4_doesAll 65 = .ok (.getfield 159, 3) := by decide +kernel
theorem dX4_doesAll_68 : decode cX4_doesAll 68 = .ok (.isub, 1) := by decide +kernel
theorem dX4_doesAll_69 : decode cX4_doesAll 69 = .ok (.putfield 165, 3) := by decide +kernel
theorem dX4_doesAll_72 : decode cX4_doesAll 72 = .ok (.goto 47, 3) := by decide +kernel
theorem dX4_doesAll_75 : decode cX4_doesAll 75 = .ok (.aload_n 0, 1) := by decide +kernel
theorem dX4_doesAll_76 : decode cX4_doesAll 76 = .ok (.iload_n 2, 1) := by decide +kernel
theorem dX4_doesAll_77 : decode cX4_doesAll 77 = .ok (.invokevirtual 168, 3) := by decide +kernel
theorem dX4_doesAll_80 : decode cX4_doesAll 80 = .ok (.ifCond .lt 20, 3) := by decide +kernel
theorem dX4_doesAll_83 : decode cX4_doesAll 83 = .ok (.aload_n 0, 1) := by decide +kernel
theorem dX4_doesAll_84 : decode cX4_doesAll 84 = .ok (.iconst 2, 1) := by decide +kernel
theorem dX4_doesAll_85 : decode cX4_doesAll 85 = .ok (.putfield 156, 3) := by decide +kernel
theorem dX4_doesAll_88 : decode cX4_doesAll 88 = .ok (.aload_n 0, 1) := by decide +kernel
theorem dX4_doesAll_89 : decode cX4_doesAll 89 = .ok (.aload_n 0, 1) := by decide +kernel
theorem dX4_doesAll_90 : decode cX4_doesAll 90 = .ok (.iload_n 2, 1) := by decide +kernel
theorem dX4_doesAll_91 : decode cX4_doesAll 91 = .ok (.invokevirtual 168, 3) := by decide +kernel
theorem dX4_doesAll_94 : decode cX4_doesAll 94 = .ok (.putfield 165, 3) := by decide +kernel
theorem dX4_doesAll_97 : decode cX4_doesAll 97 = .ok (.goto 22, 3) := by decide +kernel
theorem dX4_doesAll_100 : decode cX4_doesAll 100 = .ok (.aload_n 0, 1) := by decide +kernel
theorem dX4_doesAll_101 : decode cX4_doesAll 101 = .ok (.iload_n 2, 1) := by decide +kernel
theorem dX4_doesAll_102 : decode cX4_doesAll 102 = .ok (.invokevirtual 171, 3) := by decide +kernel
theorem dX4_doesAll_105 : decode cX4_doesAll 105 = .ok (.ifCond .ne 11, 3) := by decide +kernel
theorem dX4_doesAll_108 : decode cX4_doesAll 108 = .ok (.aload_n 0, 1) := by decide +kernel
theorem dX4_doesAll_109 : decode cX4_doesAll 109 = .ok (.iconst 3, 1) := by decide +kernel
theorem dX4_doesAll_110 : decode cX4_doesAll 110 = .ok (.putfield 156, 3) := by decide +kernel
theorem dX4_doesAll_113 : decode cX4_doesAll 113 = .ok (.goto 6, 3) := by decide +kernel
theorem dX4_doesAll_116 : decode cX4_doesAll 116 = .ok (.iinc 1 1, 3) := by decide +kernel
theorem dX4_doesAll_119 : decode cX4_doesAll 119 = .ok (.goto (-107), 3) := by decide +kernel
theorem dX4_doesAll_122 : decode cX4_doesAll 122 = .ok (.iload_n 1, 1) := by decide +kernel
theorem dX4_doesAll_123 : decode cX4_doesAll 123 = .ok (.ireturn, 1) := by decide +kernel
theorem dX4_lays_0 : decode cX4_lays 0 = .ok (.iconst 0, 1) := by decide +kernel
theorem dX4_lays_1 : decode cX4_lays 1 = .ok (.istore_n 1, 1) := by decide +kernel
theorem dX4_lays_2 : decode cX4_lays 2 = .ok (.iload_n 1, 1) := by decide +kernel
theorem dX4_lays_3 : decode cX4_lays 3 = .ok (.sipush 511, 3) := by decide +kernel
theorem dX4_lays_6 : decode cX4_lays 6 = .ok (.if_icmp .ge 21, 3) := by decide +kernel
theorem dX4_lays_9 : decode cX4_lays 9 = .ok (.aload_n 0, 1) := by decide +kernel
theorem dX4_lays_10 : decode cX4_lays 10 = .ok (.getfield 16, 3) := by decide +kernel
theorem dX4_lays_13 : decode cX4_lays 13 = .ok (.iload_n 1, 1) := by decide +kernel
theorem dX4_lays_14 : decode cX4_lays 14 = .ok (.aload_n 0, 1) := by decide +kernel
theorem dX4_lays_15 : decode cX4_lays 15 = .ok (.getfield 7, 3) := by decide +kernel
theorem dX4_lays_18 : decode cX4_lays 18 = .ok (.iload_n 1, 1) := by decide +kernel
theorem dX4_lays_19 : decode cX4_lays 19 = .ok (.iaload, 1) := by decide +kernel
theorem dX4_lays_20 : decode cX4_lays 20 = .ok (.iastore, 1) := by decide +kernel
theorem dX4_lays_21 : decode cX4_lays 21 = .ok (.iinc 1 1, 3) := by decide +kernel
theorem dX4_lays_24 : decode cX4_lays 24 = .ok (.goto (-22), 3) := by decide +kernel
theorem dX4_lays_27 : decode cX4_lays 27 = .ok (.return_, 1) := by decide +kernel
theorem dX4_back_0 : decode cX4_back 0 = .ok (.iconst 0, 1) := by decide +kernel
theorem dX4_back_1 : decode cX4_back 1 = .ok (.istore_n 1, 1) := by decide +kernel
theorem dX4_back_2 : decode cX4_back 2 = .ok (.iload_n 1, 1) := by decide +kernel
theorem dX4_back_3 : decode cX4_back 3 = .ok (.sipush 511, 3) := by decide +kernel
theorem dX4_back_6 : decode cX4_back 6 = .ok (.if_icmp .ge 21, 3) := by decide +kernel
theorem dX4_back_9 : decode cX4_back 9 = .ok (.aload_n 0, 1) := by decide +kernel
theorem dX4_back_10 : decode cX4_back 10 = .ok (.getfield 7, 3) := by decide +kernel
theorem dX4_back_13 : decode cX4_back 13 = .ok (.iload_n 1, 1) := by decide +kernel
theorem dX4_back_14 : decode cX4_back 14 = .ok (.aload_n 0, 1) := by decide +kernel
theorem dX4_back_15 : decode cX4_back 15 = .ok (.getfield 16, 3) := by decide +kernel
theorem dX4_back_18 : decode cX4_back 18 = .ok (.iload_n 1, 1) := by decide +kernel
theorem dX4_back_19 : decode cX4_back 19 = .ok (.iaload, 1) := by decide +kernel
theorem dX4_back_20 : decode cX4_back 20 = .ok (.iastore, 1) := by decide +kernel
theorem dX4_back_21 : decode cX4_back 21 = .ok (.iinc 1 1, 3) := by decide +kernel
theorem dX4_back_24 : decode cX4_back 24 = .ok (.goto (-22), 3) := by decide +kernel
theorem dX4_back_27 : decode cX4_back 27 = .ok (.return_, 1) := by decide +kernel
set_option maxRecDepth 20000 in
theorem ggX4_fault_X4_within : GoodIn wsX4_fault wsX4_within := goodIn_r _ [9] (by decide +kernel) (by decide +kernel)
set_option maxRecDepth 20000 in
theorem gX4_fault_X4_within : GoodIn wsX4_fault (va_wsS RX4 37 yX4_within wsX4_within) := goodIn_app (goodIn_of _ (by decide +kernel)) ggX4_fault_X4_within
set_option maxRecDepth 20000 in
theorem ggX4_fault_X4_lays : GoodIn wsX4_fault wsX4_lays := goodIn_r _ [13, 14, 15, 114, 115, 116, 117, 118, 119, 120, 121, 122, 123, 124, 125, 126, 127, 128, 129, 130] (by decide +kernel) (by decide +kernel)
set_option maxRecDepth 20000 in
theorem gX4_fault_X4_lays : GoodIn wsX4_fault (wsV RX4 174 RX4 yX4_lays wsX4_lays) := goodIn_app (goodIn_of _ (by decide +kernel)) ggX4_fault_X4_lays
set_option maxRecDepth 20000 in
theorem ggX4_fault_X4_doesAll : GoodIn wsX4_fault wsX4_doesAll := goodIn_r _ [19, 2, 20, 21, 4, 5, 22, 23, 24, 8, 25, 26, 27, 28, 29, 30, 31, 32, 33, 34, 35, 6, 7, 9, 36, 37, 38, 39, 40, 41, 42, 43, 44, 45, 46, 47, 48, 49, 50, 51, 52, 53, 15, 54, 55, 56, 57, 58, 59, 60, 61, 62, 63, 64, 65, 66, 67, 68, 69, 70, 71, 72, 73, 74, 75, 76, 77, 78, 79, 80, 81, 82, 83, 84, 85, 86, 87, 88, 89, 90, 91, 92, 93, 94, 95, 96, 97, 98, 99, 100, 101, 102, 103, 104, 105, 106, 107, 108, 109, 114, 115, 116, 117, 118, 119, 120, 121, 122, 123, 124, 125, 126, 127, 128, 129, 130] (by decide +kernel) (by decide +kernel)
set_option maxRecDepth 20000 in
theorem gX4_fault_X4_doesAll : GoodIn wsX4_fault (wsV RX4 177 RX4 yX4_doesAll wsX4_doesAll) := goodIn_app (goodIn_of _ (by decide +kernel)) ggX4_fault_X4_doesAll
set_option maxRecDepth 20000 in
theorem ggX4_fault_X4_back : GoodIn wsX4_fault wsX4_back := goodIn_r _ [113, 15, 14, 114, 115, 116, 117, 118, 119, 120, 121, 122, 123, 124, 125, 126, 127, 128, 129, 130] (by decide +kernel) (by decide +kernel)
set_option maxRecDepth 20000 in
theorem gX4_fault_X4_back : GoodIn wsX4_fault (wsV RX4 180 RX4 yX4_back wsX4_back) := goodIn_app (goodIn_of _ (by decide +kernel)) ggX4_fault_X4_back
theorem dX4_fault_0 : decode cX4_fault 0 = .ok (.iload_n 1, 1) := by decide +kernel
theorem dX4_fault_1 : decode cX4_fault 1 = .ok (.iconst 0, 1) := by decide +kernel
theorem dX4_fault_2 : decode cX4_fault 2 = .ok (.iconst 2, 1) := by decide +kernel
theorem dX4_fault_3 : decode cX4_fault 3 = .ok (.invokestatic 37, 3) := by decide +kernel
theorem dX4_fault_6 : decode cX4_fault 6 = .ok (.ifCond .ne 6, 3) := by decide +kernel
theorem dX4_fault_9 : decode cX4_fault 9 = .ok (.ldc 61, 2) := by decide +kernel
theorem dX4_fault_11 : decode cX4_fault 11 = .ok (.ireturn, 1) := by decide +kernel
theorem dX4_fault_12 : decode cX4_fault 12 = .ok (.aload_n 0, 1) := by decide +kernel
theorem dX4_fault_13 : decode cX4_fault 13 = .ok (.invokevirtual 174, 3) := by decide +kernel
theorem dX4_fault_16 : decode cX4_fault 16 = .ok (.aload_n 0, 1) := by decide +kernel
theorem dX4_fault_17 : decode cX4_fault 17 = .ok (.invokevirtual 177, 3) := by decide +kernel
theorem dX4_fault_20 : decode cX4_fault 20 = .ok (.pop, 1) := by decide +kernel
theorem dX4_fault_21 : decode cX4_fault 21 = .ok (.aload_n 0, 1) := by decide +kernel
theorem dX4_fault_22 : decode cX4_fault 22 = .ok (.invokevirtual 180, 3) := by decide +kernel
theorem dX4_fault_25 : decode cX4_fault 25 = .ok (.aload_n 0, 1) := by decide +kernel
theorem dX4_fault_26 : decode cX4_fault 26 = .ok (.getfield 156, 3) := by decide +kernel
theorem dX4_fault_29 : decode cX4_fault 29 = .ok (.ifCond .eq 16, 3) := by decide +kernel
theorem dX4_fault_32 : decode cX4_fault 32 = .ok (.iload_n 1, 1) := by decide +kernel
theorem dX4_fault_33 : decode cX4_fault 33 = .ok (.iconst 2, 1) := by decide +kernel
theorem dX4_fault_34 : decode cX4_fault 34 = .ok (.if_icmp .ne 14, 3) := by decide +kernel
theorem dX4_fault_37 : decode cX4_fault 37 = .ok (.aload_n 0, 1) := by decide +kernel
theorem dX4_fault_38 : decode cX4_fault 38 = .ok (.getfield 156, 3) := by decide +kernel
theorem dX4_fault_41 : decode cX4_fault 41 = .ok (.iconst 3, 1) := by decide +kernel
theorem dX4_fault_42 : decode cX4_fault 42 = .ok (.if_icmp .ne 6, 3) := by decide +kernel
theorem dX4_fault_45 : decode cX4_fault 45 = .ok (.ldc 99, 2) := by decide +kernel
theorem dX4_fault_47 : decode cX4_fault 47 = .ok (.ireturn, 1) := by decide +kernel
theorem dX4_fault_48 : decode cX4_fault 48 = .ok (.iload_n 1, 1) := by decide +kernel
theorem dX4_fault_49 : decode cX4_fault 49 = .ok (.ifCond .ne 10, 3) := by decide +kernel
theorem dX4_fault_52 : decode cX4_fault 52 = .ok (.aload_n 0, 1) := by decide +kernel
theorem dX4_fault_53 : decode cX4_fault 53 = .ok (.getfield 159, 3) := by decide +kernel
theorem dX4_fault_56 : decode cX4_fault 56 = .ok (.goto 19, 3) := by decide +kernel
theorem dX4_fault_59 : decode cX4_fault 59 = .ok (.iload_n 1, 1) := by decide +kernel
theorem dX4_fault_60 : decode cX4_fault 60 = .ok (.iconst 1, 1) := by decide +kernel
theorem dX4_fault_61 : decode cX4_fault 61 = .ok (.if_icmp .ne 10, 3) := by decide +kernel
theorem dX4_fault_64 : decode cX4_fault 64 = .ok (.aload_n 0, 1) := by decide +kernel
theorem dX4_fault_65 : decode cX4_fault 65 = .ok (.getfield 156, 3) := by decide +kernel
theorem dX4_fault_68 : decode cX4_fault 68 = .ok (.goto 7, 3) := by decide +kernel
theorem dX4_fault_71 : decode cX4_fault 71 = .ok (.aload_n 0, 1) := by decide +kernel
theorem dX4_fault_72 : decode cX4_fault 72 = .ok (.getfield 165, 3) := by decide +kernel
theorem dX4_fault_75 : decode cX4_fault 75 = .ok (.ireturn, 1) := by decide +kernel
set_option maxRecDepth 20000 in
theorem ggX4_play_X4_lays : GoodIn wsX4_play wsX4_lays := goodIn_r _ [7, 8, 9, 119, 120, 121, 122, 123, 124, 125, 126, 127, 128, 129, 130, 131, 132, 133, 134, 135] (by decide +kernel) (by decide +kernel)
set_option maxRecDepth 20000 in
theorem gX4_play_X4_lays : GoodIn wsX4_play (wsV RX4 174 RX4 yX4_lays wsX4_lays) := goodIn_app (goodIn_of _ (by decide +kernel)) ggX4_play_X4_lays
set_option maxRecDepth 20000 in
theorem ggX4_play_X4_doesAll : GoodIn wsX4_play wsX4_doesAll := goodIn_r _ [13, 1, 14, 15, 16, 17, 18, 19, 20, 6, 21, 22, 23, 24, 25, 26, 27, 28, 29, 30, 31, 32, 33, 34, 35, 36, 37, 38, 39, 40, 41, 42, 43, 44, 45, 46, 47, 48, 49, 50, 51, 52, 9, 53, 54, 55, 56, 57, 58, 59, 60, 61, 62, 63, 64, 65, 66, 67, 68, 69, 70, 71, 72, 73, 74, 75, 76, 77, 78, 79, 80, 81, 82, 83, 84, 85, 86, 87, 88, 89, 90, 91, 92, 93, 94, 95, 96, 97, 98, 99, 100, 101, 102, 103, 104, 105, 106, 107, 108, 119, 120, 121, 122, 123, 124, 125, 126, 127, 128, 129, 130, 131, 132, 133, 134, 135] (by decide +kernel) (by decide +kernel)
set_option maxRecDepth 20000 in
theorem gX4_play_X4_doesAll : GoodIn wsX4_play (wsV RX4 177 RX4 yX4_doesAll wsX4_doesAll) := goodIn_app (goodIn_of _ (by decide +kernel)) ggX4_play_X4_doesAll
set_option maxRecDepth 20000 in
theorem ggX4_play_X4_back : GoodIn wsX4_play wsX4_back := goodIn_r _ [112, 9, 8, 119, 120, 121, 122, 123, 124, 125, 126, 127, 128, 129, 130, 131, 132, 133, 134, 135] (by decide +kernel) (by decide +kernel)
set_option maxRecDepth 20000 in
theorem gX4_play_X4_back : GoodIn wsX4_play (wsV RX4 180 RX4 yX4_back wsX4_back) := goodIn_app (goodIn_of _ (by decide +kernel)) ggX4_play_X4_back
set_option maxRecDepth 20000 in
theorem ggX4_play_X4_saves : GoodIn wsX4_play wsX4_saves := goodIn_r _ [116, 117, 118, 9, 119, 120, 121, 122, 123, 124, 125, 126, 127, 128, 129, 130, 131, 132, 133, 134, 135] (by decide +kernel) (by decide +kernel)
set_option maxRecDepth 20000 in
theorem gX4_play_X4_saves : GoodIn wsX4_play (wsV RX4 66 RX4 yX4_saves wsX4_saves) := goodIn_app (goodIn_of _ (by decide +kernel)) ggX4_play_X4_saves
theorem dX4_play_0 : decode cX4_play 0 = .ok (.aload_n 0, 1) := by decide +kernel
theorem dX4_play_1 : decode cX4_play 1 = .ok (.invokevirtual 174, 3) := by decide +kernel
theorem dX4_play_4 : decode cX4_play 4 = .ok (.aload_n 0, 1) := by decide +kernel
theorem dX4_play_5 : decode cX4_play 5 = .ok (.invokevirtual 177, 3) := by decide +kernel
theorem dX4_play_8 : decode cX4_play 8 = .ok (.pop, 1) := by decide +kernel
theorem dX4_play_9 : decode cX4_play 9 = .ok (.aload_n 0, 1) := by decide +kernel
theorem dX4_play_10 : decode cX4_play 10 = .ok (.invokevirtual 180, 3) := by decide +kernel
theorem dX4_play_13 : decode cX4_play 13 = .ok (.aload_n 0, 1) := by decide +kernel
theorem dX4_play_14 : decode cX4_play 14 = .ok (.getfield 156, 3) := by decide +kernel
theorem dX4_play_17 : decode cX4_play 17 = .ok (.ifCond .eq 6, 3) := by decide +kernel
theorem dX4_play_20 : decode cX4_play 20 = .ok (.ldc 35, 2) := by decide +kernel
theorem dX4_play_22 : decode cX4_play 22 = .ok (.ireturn, 1) := by decide +kernel
theorem dX4_play_23 : decode cX4_play 23 = .ok (.aload_n 0, 1) := by decide +kernel
theorem dX4_play_24 : decode cX4_play 24 = .ok (.invokevirtual 66, 3) := by decide +kernel
theorem dX4_play_27 : decode cX4_play 27 = .ok (.aload_n 0, 1) := by decide +kernel
theorem dX4_play_28 : decode cX4_play 28 = .ok (.invokevirtual 177, 3) := by decide +kernel
theorem dX4_play_31 : decode cX4_play 31 = .ok (.ireturn, 1) := by decide +kernel
theorem dJ9_min_7cf53_0 : decode cJ9_min_7cf53 0 = .ok (.iload_n 0, 1) := by decide +kernel
theorem dJ9_min_7cf53_1 : decode cJ9_min_7cf53 1 = .ok (.iload_n 1, 1) := by decide +kernel
theorem dJ9_min_7cf53_2 : decode cJ9_min_7cf53 2 = .ok (.if_icmp .gt 7, 3) := by decide +kernel
theorem dJ9_min_7cf53_5 : decode cJ9_min_7cf53 5 = .ok (.iload_n 0, 1) := by decide +kernel
theorem dJ9_min_7cf53_6 : decode cJ9_min_7cf53 6 = .ok (.goto 4, 3) := by decide +kernel
theorem dJ9_min_7cf53_9 : decode cJ9_min_7cf53 9 = .ok (.iload_n 1, 1) := by decide +kernel
theorem dJ9_min_7cf53_10 : decode cJ9_min_7cf53 10 = .ok (.ireturn, 1) := by decide +kernel
theorem dJ7_fill_53178_0 : decode cJ7_fill_53178 0 = .ok (.iconst 0, 1) := by decide +kernel
theorem dJ7_fill_53178_1 : decode cJ7_fill_53178 1 = .ok (.istore_n 2, 1) := by decide +kernel
theorem dJ7_fill_53178_2 : decode cJ7_fill_53178 2 = .ok (.aload_n 0, 1) := by decide +kernel
theorem dJ7_fill_53178_3 : decode cJ7_fill_53178 3 = .ok (.arraylength, 1) := by decide +kernel
theorem dJ7_fill_53178_4 : decode cJ7_fill_53178 4 = .ok (.istore_n 3, 1) := by decide +kernel
theorem dJ7_fill_53178_5 : decode cJ7_fill_53178 5 = .ok (.iload_n 2, 1) := by decide +kernel
theorem dJ7_fill_53178_6 : decode cJ7_fill_53178 6 = .ok (.iload_n 3, 1) := by decide +kernel
theorem dJ7_fill_53178_7 : decode cJ7_fill_53178 7 = .ok (.if_icmp .ge 13, 3) := by decide +kernel
theorem dJ7_fill_53178_10 : decode cJ7_fill_53178 10 = .ok (.aload_n 0, 1) := by decide +kernel
theorem dJ7_fill_53178_11 : decode cJ7_fill_53178 11 = .ok (.iload_n 2, 1) := by decide +kernel
theorem dJ7_fill_53178_12 : decode cJ7_fill_53178 12 = .ok (.iload_n 1, 1) := by decide +kernel
theorem dJ7_fill_53178_13 : decode cJ7_fill_53178 13 = .ok (.iastore, 1) := by decide +kernel
theorem dJ7_fill_53178_14 : decode cJ7_fill_53178 14 = .ok (.iinc 2 1, 3) := by decide +kernel
theorem dJ7_fill_53178_17 : decode cJ7_fill_53178 17 = .ok (.goto (-12), 3) := by decide +kernel
theorem dJ7_fill_53178_20 : decode cJ7_fill_53178 20 = .ok (.return_, 1) := by decide +kernel
abbrev vwCl : List vw_C := [(RX0, TX0, 12), (RX1, TX1, 15), (RX2, TX2, 2), (RX3, TX3, 5), (RX4, TX4, 17)]
