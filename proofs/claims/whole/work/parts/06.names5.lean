theorem dX4_compaction_0 : decode cX4_compaction 0 = .ok (.iload_n 1, 1) := by decide +kernel
theorem dX4_compaction_1 : decode cX4_compaction 1 = .ok (.iconst 0, 1) := by decide +kernel
theorem dX4_compaction_2 : decode cX4_compaction 2 = .ok (.iconst 2, 1) := by decide +kernel
theorem dX4_compaction_3 : decode cX4_compaction 3 = .ok (.invokestatic 37, 3) := by decide +kernel
theorem dX4_compaction_6 : decode cX4_compaction 6 = .ok (.ifCond .eq 12, 3) := by decide +kernel
theorem dX4_compaction_9 : decode cX4_compaction 9 = .ok (.iload_n 2, 1) := by decide +kernel
theorem dX4_compaction_10 : decode cX4_compaction 10 = .ok (.iconst 0, 1) := by decide +kernel
theorem dX4_compaction_11 : decode cX4_compaction 11 = .ok (.iconst 3, 1) := by decide +kernel
theorem dX4_compaction_12 : decode cX4_compaction 12 = .ok (.invokestatic 37, 3) := by decide +kernel
theorem dX4_compaction_15 : decode cX4_compaction 15 = .ok (.ifCond .ne 6, 3) := by decide +kernel
theorem dX4_compaction_18 : decode cX4_compaction 18 = .ok (.ldc 61, 2) := by decide +kernel
theorem dX4_compaction_20 : decode cX4_compaction 20 = .ok (.ireturn, 1) := by decide +kernel
theorem dX4_compaction_21 : decode cX4_compaction 21 = .ok (.iload_n 1, 1) := by decide +kernel
theorem dX4_compaction_22 : decode cX4_compaction 22 = .ok (.aload_n 0, 1) := by decide +kernel
theorem dX4_compaction_23 : decode cX4_compaction 23 = .ok (.invokevirtual 72, 3) := by decide +kernel
theorem dX4_compaction_26 : decode cX4_compaction 26 = .ok (.if_icmp .lt 6, 3) := by decide +kernel
theorem dX4_compaction_29 : decode cX4_compaction 29 = .ok (.ldc 99, 2) := by decide +kernel
theorem dX4_compaction_31 : decode cX4_compaction 31 = .ok (.ireturn, 1) := by decide +kernel
theorem dX4_compaction_32 : decode cX4_compaction 32 = .ok (.iload_n 2, 1) := by decide +kernel
theorem dX4_compaction_33 : decode cX4_compaction 33 = .ok (.iconst 3, 1) := by decide +kernel
theorem dX4_compaction_34 : decode cX4_compaction 34 = .ok (.if_icmp .ge 12, 3) := by decide +kernel
theorem dX4_compaction_37 : decode cX4_compaction 37 = .ok (.aload_n 0, 1) := by decide +kernel
theorem dX4_compaction_38 : decode cX4_compaction 38 = .ok (.iload_n 1, 1) := by decide +kernel
theorem dX4_compaction_39 : decode cX4_compaction 39 = .ok (.iload_n 2, 1) := by decide +kernel
theorem dX4_compaction_40 : decode cX4_compaction 40 = .ok (.invokevirtual 75, 3) := by decide +kernel
theorem dX4_compaction_43 : decode cX4_compaction 43 = .ok (.goto 8, 3) := by decide +kernel
theorem dX4_compaction_46 : decode cX4_compaction 46 = .ok (.aload_n 0, 1) := by decide +kernel
theorem dX4_compaction_47 : decode cX4_compaction 47 = .ok (.iload_n 1, 1) := by decide +kernel
theorem dX4_compaction_48 : decode cX4_compaction 48 = .ok (.invokevirtual 119, 3) := by decide +kernel
theorem dX4_compaction_51 : decode cX4_compaction 51 = .ok (.ireturn, 1) := by decide +kernel
set_option maxRecDepth 20000 in
theorem ggX4_namesAll_X4_isNamed : GoodIn wsX4_namesAll wsX4_isNamed := goodIn_r _ [5, 6, 7, 8, 9, 10, 11, 12, 13, 14, 15, 16, 17, 18, 19, 20, 21, 22, 23] (by decide +kernel) (by decide +kernel)
set_option maxRecDepth 20000 in
theorem gX4_namesAll_X4_isNamed : GoodIn wsX4_namesAll (wsV RX4 42 RX4 yX4_isNamed wsX4_isNamed) := goodIn_app (goodIn_of _ (by decide +kernel)) ggX4_namesAll_X4_isNamed
theorem dX4_namesAll_0 : decode cX4_namesAll 0 = .ok (.iconst 0, 1) := by decide +kernel
theorem dX4_namesAll_1 : decode cX4_namesAll 1 = .ok (.istore_n 1, 1) := by decide +kernel
theorem dX4_namesAll_2 : decode cX4_namesAll 2 = .ok (.iconst 0, 1) := by decide +kernel
theorem dX4_namesAll_3 : decode cX4_namesAll 3 = .ok (.istore_n 2, 1) := by decide +kernel
theorem dX4_namesAll_4 : decode cX4_namesAll 4 = .ok (.iload_n 2, 1) := by decide +kernel
theorem dX4_namesAll_5 : decode cX4_namesAll 5 = .ok (.bipush 40, 2) := by decide +kernel
theorem dX4_namesAll_7 : decode cX4_namesAll 7 = .ok (.if_icmp .ge 25, 3) := by decide +kernel
theorem dX4_namesAll_10 : decode cX4_namesAll 10 = .ok (.iload_n 1, 1) := by decide +kernel
theorem dX4_namesAll_11 : decode cX4_namesAll 11 = .ok (.aload_n 0, 1) := by decide +kernel
theorem dX4_namesAll_12 : decode cX4_namesAll 12 = .ok (.iload_n 2, 1) := by decide +kernel
theorem dX4_namesAll_13 : decode cX4_namesAll 13 = .ok (.invokevirtual 42, 3) := by decide +kernel
theorem dX4_namesAll_16 : decode cX4_namesAll 16 = .ok (.ifCond .eq 7, 3) := by decide +kernel
theorem dX4_namesAll_19 : decode cX4_namesAll 19 = .ok (.iconst 1, 1) := by decide +kernel
theorem dX4_namesAll_20 : decode cX4_namesAll 20 = .ok (.goto 4, 3) := by decide +kernel
theorem dX4_namesAll_23 : decode cX4_namesAll 23 = .ok (.iconst 0, 1) := by decide +kernel
theorem dX4_namesAll_24 : decode cX4_namesAll 24 = .ok (.iadd, 1) := by decide +kernel
theorem dX4_namesAll_25 : decode cX4_namesAll 25 = .ok (.istore_n 1, 1) := by decide +kernel
theorem dX4_namesAll_26 : decode cX4_namesAll 26 = .ok (.iinc 2 1, 3) := by decide +kernel
theorem dX4_namesAll_29 : decode cX4_namesAll 29 = .ok (.goto (-25), 3) := by decide +kernel
theorem dX4_namesAll_32 : decode cX4_namesAll 32 = .ok (.iload_n 1, 1) := by decide +kernel
theorem dX4_namesAll_33 : decode cX4_namesAll 33 = .ok (.ireturn, 1) := by decide +kernel
theorem dX4_usersAll_0 : decode cX4_usersAll 0 = .ok (.iconst 0, 1) := by decide +kernel
theorem dX4_usersAll_1 : decode cX4_usersAll 1 = .ok (.istore_n 1, 1) := by decide +kernel
theorem dX4_usersAll_2 : decode cX4_usersAll 2 = .ok (.iconst 0, 1) := by decide +kernel
theorem dX4_usersAll_3 : decode cX4_usersAll 3 = .ok (.istore_n 2, 1) := by decide +kernel
theorem dX4_usersAll_4 : decode cX4_usersAll 4 = .ok (.iload_n 2, 1) := by decide +kernel
theorem dX4_usersAll_5 : decode cX4_usersAll 5 = .ok (.bipush 40, 2) := by decide +kernel
theorem dX4_usersAll_7 : decode cX4_usersAll 7 = .ok (.if_icmp .ge 21, 3) := by decide +kernel
theorem dX4_usersAll_10 : decode cX4_usersAll 10 = .ok (.iload_n 1, 1) := by decide +kernel
theorem dX4_usersAll_11 : decode cX4_usersAll 11 = .ok (.aload_n 0, 1) := by decide +kernel
theorem dX4_usersAll_12 : decode cX4_usersAll 12 = .ok (.getfield 7, 3) := by decide +kernel
theorem dX4_usersAll_15 : decode cX4_usersAll 15 = .ok (.bipush 44, 2) := by decide +kernel
theorem dX4_usersAll_17 : decode cX4_usersAll 17 = .ok (.iload_n 2, 1) := by decide +kernel
theorem dX4_usersAll_18 : decode cX4_usersAll 18 = .ok (.iadd, 1) := by decide +kernel
theorem dX4_usersAll_19 : decode cX4_usersAll 19 = .ok (.iaload, 1) := by decide +kernel
theorem dX4_usersAll_20 : decode cX4_usersAll 20 = .ok (.iadd, 1) := by decide +kernel
theorem dX4_usersAll_21 : decode cX4_usersAll 21 = .ok (.istore_n 1, 1) := by decide +kernel
theorem dX4_usersAll_22 : decode cX4_usersAll 22 = .ok (.iinc 2 1, 3) := by decide +kernel
theorem dX4_usersAll_25 : decode cX4_usersAll 25 = .ok (.goto (-21), 3) := by decide +kernel
theorem dX4_usersAll_28 : decode cX4_usersAll 28 = .ok (.iload_n 1, 1) := by decide +kernel
theorem dX4_usersAll_29 : decode cX4_usersAll 29 = .ok (.ireturn, 1) := by decide +kernel
set_option maxRecDepth 20000 in
theorem ggX4_highest_X4_isNamed : GoodIn wsX4_highest wsX4_isNamed := goodIn_r _ [5, 6, 7, 8, 9, 10, 11, 12, 13, 14, 15, 16, 17, 18, 19, 20, 21, 22, 23] (by decide +kernel) (by decide +kernel)
set_option maxRecDepth 20000 in
theorem gX4_highest_X4_isNamed : GoodIn wsX4_highest (wsV RX4 42 RX4 yX4_isNamed wsX4_isNamed) := goodIn_app (goodIn_of _ (by decide +kernel)) ggX4_highest_X4_isNamed
theorem dX4_highest_0 : decode cX4_highest 0 = .ok (.iconst 0, 1) := by decide +kernel
theorem dX4_highest_1 : decode cX4_highest 1 = .ok (.istore_n 1, 1) := by decide +kernel
theorem dX4_highest_2 : decode cX4_highest 2 = .ok (.iconst 0, 1) := by decide +kernel
theorem dX4_highest_3 : decode cX4_highest 3 = .ok (.istore_n 2, 1) := by decide +kernel
theorem dX4_highest_4 : decode cX4_highest 4 = .ok (.iload_n 2, 1) := by decide +kernel
theorem dX4_highest_5 : decode cX4_highest 5 = .ok (.bipush 40, 2) := by decide +kernel
theorem dX4_highest_7 : decode cX4_highest 7 = .ok (.if_icmp .ge 25, 3) := by decide +kernel
theorem dX4_highest_10 : decode cX4_highest 10 = .ok (.aload_n 0, 1) := by decide +kernel
theorem dX4_highest_11 : decode cX4_highest 11 = .ok (.iload_n 2, 1) := by decide +kernel
theorem dX4_highest_12 : decode cX4_highest 12 = .ok (.invokevirtual 42, 3) := by decide +kernel
theorem dX4_highest_15 : decode cX4_highest 15 = .ok (.ifCond .eq 9, 3) := by decide +kernel
theorem dX4_highest_18 : decode cX4_highest 18 = .ok (.iload_n 2, 1) := by decide +kernel
theorem dX4_highest_19 : decode cX4_highest 19 = .ok (.iconst 1, 1) := by decide +kernel
theorem dX4_highest_20 : decode cX4_highest 20 = .ok (.iadd, 1) := by decide +kernel
theorem dX4_highest_21 : decode cX4_highest 21 = .ok (.goto 4, 3) := by decide +kernel
theorem dX4_highest_24 : decode cX4_highest 24 = .ok (.iload_n 1, 1) := by decide +kernel
theorem dX4_highest_25 : decode cX4_highest 25 = .ok (.istore_n 1, 1) := by decide +kernel
theorem dX4_highest_26 : decode cX4_highest 26 = .ok (.iinc 2 1, 3) := by decide +kernel
theorem dX4_highest_29 : decode cX4_highest 29 = .ok (.goto (-25), 3) := by decide +kernel
theorem dX4_highest_32 : decode cX4_highest 32 = .ok (.iload_n 1, 1) := by decide +kernel
theorem dX4_highest_33 : decode cX4_highest 33 = .ok (.ireturn, 1) := by decide +kernel
set_option maxRecDepth 20000 in
theorem ggX4_count_X4_namesAll : GoodIn wsX4_count wsX4_namesAll := goodIn_r _ [9, 10, 11, 12, 8, 13, 1, 30, 31, 32, 33, 34, 35, 36, 37, 38, 39, 40, 41, 42, 43, 44, 45, 46] (by decide +kernel) (by decide +kernel)
set_option maxRecDepth 20000 in
theorem gX4_count_X4_namesAll : GoodIn wsX4_count (wsV RX4 122 RX4 yX4_namesAll wsX4_namesAll) := goodIn_app (goodIn_of _ (by decide +kernel)) ggX4_count_X4_namesAll
set_option maxRecDepth 20000 in
theorem ggX4_count_X4_usersAll : GoodIn wsX4_count wsX4_usersAll := goodIn_r _ [17, 1, 30, 31, 32, 33, 34, 35, 36, 37, 38, 39, 40, 41, 42, 43, 44, 45, 46] (by decide +kernel) (by decide +kernel)
set_option maxRecDepth 20000 in
theorem gX4_count_X4_usersAll : GoodIn wsX4_count (wsV RX4 125 RX4 yX4_usersAll wsX4_usersAll) := goodIn_app (goodIn_of _ (by decide +kernel)) ggX4_count_X4_usersAll
set_option maxRecDepth 20000 in
theorem ggX4_count_X4_cellsWith : GoodIn wsX4_count wsX4_cellsWith := goodIn_r _ [21, 1, 30, 31, 32, 33, 34, 35, 36, 37, 38, 39, 40, 41, 42, 43, 44, 45, 46] (by decide +kernel) (by decide +kernel)
set_option maxRecDepth 20000 in
theorem gX4_count_X4_cellsWith : GoodIn wsX4_count (wsV RX4 86 RX4 yX4_cellsWith wsX4_cellsWith) := goodIn_app (goodIn_of _ (by decide +kernel)) ggX4_count_X4_cellsWith
set_option maxRecDepth 20000 in
theorem ggX4_count_X4_highest : GoodIn wsX4_count wsX4_highest := goodIn_r _ [25, 10, 11, 12, 8, 13, 1, 30, 31, 32, 33, 34, 35, 36, 37, 38, 39, 40, 41, 42, 43, 44, 45, 46] (by decide +kernel) (by decide +kernel)
set_option maxRecDepth 20000 in
theorem gX4_count_X4_highest : GoodIn wsX4_count (wsV RX4 128 RX4 yX4_highest wsX4_highest) := goodIn_app (goodIn_of _ (by decide +kernel)) ggX4_count_X4_highest
set_option maxRecDepth 20000 in
theorem ggX4_count_X4_kept : GoodIn wsX4_count wsX4_kept := goodIn_r _ [29, 1, 30, 31, 32, 33, 34, 35, 36, 37, 38, 39, 40, 41, 42, 43, 44, 45, 46] (by decide +kernel) (by decide +kernel)
set_option maxRecDepth 20000 in
theorem gX4_count_X4_kept : GoodIn wsX4_count (wsV RX4 72 RX4 yX4_kept wsX4_kept) := goodIn_app (goodIn_of _ (by decide +kernel)) ggX4_count_X4_kept
theorem dX4_count_0 : decode cX4_count 0 = .ok (.iload_n 1, 1) := by decide +kernel
theorem dX4_count_1 : decode cX4_count 1 = .ok (.tableswitch 129 0 10 #[59, 64, 69, 78, 85, 90, 100, 107, 114, 119, 124], 59) := by decide +kernel
theorem dX4_count_60 : decode cX4_count 60 = .ok (.aload_n 0, 1) := by decide +kernel
theorem dX4_count_61 : decode cX4_count 61 = .ok (.invokevirtual 122, 3) := by decide +kernel
theorem dX4_count_64 : decode cX4_count 64 = .ok (.ireturn, 1) := by decide +kernel
theorem dX4_count_65 : decode cX4_count 65 = .ok (.aload_n 0, 1) := by decide +kernel
theorem dX4_count_66 : decode cX4_count 66 = .ok (.invokevirtual 125, 3) := by decide +kernel
theorem dX4_count_69 : decode cX4_count 69 = .ok (.ireturn, 1) := by decide +kernel
theorem dX4_count_70 : decode cX4_count 70 = .ok (.bipush 18, 2) := by decide +kernel
theorem dX4_count_72 : decode cX4_count 72 = .ok (.aload_n 0, 1) := by decide +kernel
theorem dX4_count_73 : decode cX4_count 73 = .ok (.iconst (-1), 1) := by decide +kernel
theorem dX4_count_74 : decode cX4_count 74 = .ok (.invokevirtual 86, 3) := by decide +kernel
theorem dX4_count_77 : decode cX4_count 77 = .ok (.isub, 1) := by decide +kernel
theorem dX4_count_78 : decode cX4_count 78 = .ok (.ireturn, 1) := by decide +kernel
theorem dX4_count_79 : decode cX4_count 79 = .ok (.aload_n 0, 1) := by decide +kernel
theorem dX4_count_80 : decode cX4_count 80 = .ok (.getfield 7, 3) := by decide +kernel
theorem dX4_count_83 : decode cX4_count 83 = .ok (.iconst 0, 1) := by decide +kernel
theorem dX4_count_84 : decode cX4_count 84 = .ok (.iaload, 1) := by decide +kernel
theorem dX4_count_85 : decode cX4_count 85 = .ok (.ireturn, 1) := by decide +kernel
theorem dX4_count_86 : decode cX4_count 86 = .ok (.aload_n 0, 1) := by decide +kernel
theorem dX4_count_87 : decode cX4_count 87 = .ok (.invokevirtual 128, 3) := by decide +kernel
theorem dX4_count_90 : decode cX4_count 90 = .ok (.ireturn, 1) := by decide +kernel
theorem dX4_count_91 : decode cX4_count 91 = .ok (.aload_n 0, 1) := by decide +kernel
theorem dX4_count_92 : decode cX4_count 92 = .ok (.invokevirtual 128, 3) := by decide +kernel
theorem dX4_count_95 : decode cX4_count 95 = .ok (.aload_n 0, 1) := by decide +kernel
theorem dX4_count_96 : decode cX4_count 96 = .ok (.invokevirtual 122, 3) := by decide +kernel
theorem dX4_count_99 : decode cX4_count 99 = .ok (.isub, 1) := by decide +kernel
theorem dX4_count_100 : decode cX4_count 100 = .ok (.ireturn, 1) := by decide +kernel
theorem dX4_count_101 : decode cX4_count 101 = .ok (.aload_n 0, 1) := by decide +kernel
theorem dX4_count_102 : decode cX4_count 102 = .ok (.getfield 7, 3) := by decide +kernel
theorem dX4_count_105 : decode cX4_count 105 = .ok (.iconst 1, 1) := by decide +kernel
theorem dX4_count_106 : decode cX4_count 106 = .ok (.iaload, 1) := by decide +kernel
theorem dX4_count_107 : decode cX4_count 107 = .ok (.ireturn, 1) := by decide +kernel
theorem dX4_count_108 : decode cX4_count 108 = .ok (.aload_n 0, 1) := by decide +kernel
theorem dX4_count_109 : decode cX4_count 109 = .ok (.getfield 7, 3) := by decide +kernel
theorem dX4_count_112 : decode cX4_count 112 = .ok (.iconst 2, 1) := by decide +kernel
theorem dX4_count_113 : decode cX4_count 113 = .ok (.iaload, 1) := by decide +kernel
theorem dX4_count_114 : decode cX4_count 114 = .ok (.ireturn, 1) := by decide +kernel
theorem dX4_count_115 : decode cX4_count 115 = .ok (.aload_n 0, 1) := by decide +kernel
theorem dX4_count_116 : decode cX4_count 116 = .ok (.invokevirtual 72, 3) := by decide +kernel
theorem dX4_count_119 : decode cX4_count 119 = .ok (.ireturn, 1) := by decide +kernel
theorem dX4_count_120 : decode cX4_count 120 = .ok (.aload_n 0, 1) := by decide +kernel
theorem dX4_count_121 : decode cX4_count 121 = .ok (.getfield 31, 3) := by decide +kernel
theorem dX4_count_124 : decode cX4_count 124 = .ok (.ireturn, 1) := by decide +kernel
theorem dX4_count_125 : decode cX4_count 125 = .ok (.aload_n 0, 1) := by decide +kernel
theorem dX4_count_126 : decode cX4_count 126 = .ok (.getfield 131, 3) := by decide +kernel
theorem dX4_count_129 : decode cX4_count 129 = .ok (.ireturn, 1) := by decide +kernel
theorem dX4_count_130 : decode cX4_count 130 = .ok (.ldc 61, 2) := by decide +kernel
theorem dX4_count_132 : decode cX4_count 132 = .ok (.ireturn, 1) := by decide +kernel
set_option maxRecDepth 20000 in
theorem ggX4_type_X4_within : GoodIn wsX4_type wsX4_within := goodIn_r _ [8] (by decide +kernel) (by decide +kernel)
set_option maxRecDepth 20000 in
theorem gX4_type_X4_within : GoodIn wsX4_type (va_wsS RX4 37 yX4_within wsX4_within) := goodIn_app (goodIn_of _ (by decide +kernel)) ggX4_type_X4_within
theorem dX4_type_0 : decode cX4_type 0 = .ok (.iload_n 1, 1) := by decide +kernel
theorem dX4_type_1 : decode cX4_type 1 = .ok (.bipush 32, 2) := by decide +kernel
theorem dX4_type_3 : decode cX4_type 3 = .ok (.bipush 126, 2) := by decide +kernel
theorem dX4_type_5 : decode cX4_type 5 = .ok (.invokestatic 37, 3) := by decide +kernel
theorem dX4_type_8 : decode cX4_type 8 = .ok (.ifCond .ne 6, 3) := by decide +kernel
theorem dX4_type_11 : decode cX4_type 11 = .ok (.ldc 61, 2) := by decide +kernel
theorem dX4_type_13 : decode cX4_type 13 = .ok (.ireturn, 1) := by decide +kernel
theorem dX4_type_14 : decode cX4_type 14 = .ok (.aload_n 0, 1) := by decide +kernel
theorem dX4_type_15 : decode cX4_type 15 = .ok (.getfield 131, 3) := by decide +kernel
theorem dX4_type_18 : decode cX4_type 18 = .ok (.bipush 60, 2) := by decide +kernel
theorem dX4_type_20 : decode cX4_type 20 = .ok (.if_icmp .ne 6, 3) := by decide +kernel
theorem dX4_type_23 : decode cX4_type 23 = .ok (.ldc 65, 2) := by decide +kernel
theorem dX4_type_25 : decode cX4_type 25 = .ok (.ireturn, 1) := by decide +kernel
theorem dX4_type_26 : decode cX4_type 26 = .ok (.aload_n 0, 1) := by decide +kernel
theorem dX4_type_27 : decode cX4_type 27 = .ok (.getfield 19, 3) := by decide +kernel
theorem dX4_type_30 : decode cX4_type 30 = .ok (.aload_n 0, 1) := by decide +kernel
theorem dX4_type_31 : decode cX4_type 31 = .ok (.getfield 131, 3) := by decide +kernel
theorem dX4_type_34 : decode cX4_type 34 = .ok (.iload_n 1, 1) := by decide +kernel
theorem dX4_type_35 : decode cX4_type 35 = .ok (.iastore, 1) := by decide +kernel
theorem dX4_type_36 : decode cX4_type 36 = .ok (.aload_n 0, 1) := by decide +kernel
theorem dX4_type_37 : decode cX4_type 37 = .ok (.dup, 1) := by decide +kernel
theorem dX4_type_38 : decode cX4_type 38 = .ok (.getfield 131, 3) := by decide +kernel
theorem dX4_type_41 : decode cX4_type 41 = .ok (.iconst 1, 1) := by decide +kernel
theorem dX4_type_42 : decode cX4_type 42 = .ok (.iadd, 1) := by decide +kernel
theorem dX4_type_43 : decode cX4_type 43 = .ok (.putfield 131, 3) := by decide +kernel
theorem dX4_type_46 : decode cX4_type 46 = .ok (.aload_n 0, 1) := by decide +kernel
theorem dX4_type_47 : decode cX4_type 47 = .ok (.getfield 131, 3) := by decide +kernel
theorem dX4_type_50 : decode cX4_type 50 = .ok (.ireturn, 1) := by decide +kernel
theorem dX4_clearText_0 : decode cX4_clearText 0 = .ok (.aload_n 0, 1) := by decide +kernel
theorem dX4_clearText_1 : decode cX4_clearText 1 = .ok (.getfield 131, 3) := by decide +kernel
theorem dX4_clearText_4 : decode cX4_clearText 4 = .ok (.istore_n 1, 1) := by decide +kernel
theorem dX4_clearText_5 : decode cX4_clearText 5 = .ok (.aload_n 0, 1) := by decide +kernel
theorem dX4_clearText_6 : decode cX4_clearText 6 = .ok (.iconst 0, 1) := by decide +kernel
theorem dX4_clearText_7 : decode cX4_clearText 7 = .ok (.putfield 131, 3) := by decide +kernel
theorem dX4_clearText_10 : decode cX4_clearText 10 = .ok (.iload_n 1, 1) := by decide +kernel
theorem dX4_clearText_11 : decode cX4_clearText 11 = .ok (.ireturn, 1) := by decide +kernel
theorem dX4_letter_0 : decode cX4_letter 0 = .ok (.iload_n 1, 1) := by decide +kernel
theorem dX4_letter_1 : decode cX4_letter 1 = .ok (.aload_n 0, 1) := by decide +kernel
theorem dX4_letter_2 : decode cX4_letter 2 = .ok (.getfield 131, 3) := by decide +kernel
theorem dX4_letter_5 : decode cX4_letter 5 = .ok (.if_icmp .ge 12, 3) := by decide +kernel
theorem dX4_letter_8 : decode cX4_letter 8 = .ok (.aload_n 0, 1) := by decide +kernel
theorem dX4_letter_9 : decode cX4_letter 9 = .ok (.getfield 19, 3) := by decide +kernel
theorem dX4_letter_12 : decode cX4_letter 12 = .ok (.iload_n 1, 1) := by decide +kernel
theorem dX4_letter_13 : decode cX4_letter 13 = .ok (.iaload, 1) := by decide +kernel
theorem dX4_letter_14 : decode cX4_letter 14 = .ok (.goto 4, 3) := by decide +kernel
theorem dX4_letter_17 : decode cX4_letter 17 = .ok (.iconst 0, 1) := by decide +kernel
theorem dX4_letter_18 : decode cX4_letter 18 = .ok (.ireturn, 1) := by decide +kernel
set_option maxRecDepth 20000 in
theorem ggX4_passes_X4_letter : GoodIn wsX4_passes wsX4_letter := goodIn_r _ [6, 7, 8, 9, 10, 11, 12, 13, 14, 15, 16, 17, 18, 19, 20, 21, 22, 23, 24, 25] (by decide +kernel) (by decide +kernel)
set_option maxRecDepth 20000 in
theorem gX4_passes_X4_letter : GoodIn wsX4_passes (wsV RX4 137 RX4 yX4_letter wsX4_letter) := goodIn_app (goodIn_of _ (by decide +kernel)) ggX4_passes_X4_letter
theorem dX4_passes_0 : decode cX4_passes 0 = .ok (.aload_n 0, 1) := by decide +kernel
theorem dX4_passes_1 : decode cX4_passes 1 = .ok (.aload_n 0, 1) := by decide +kernel
theorem dX4_passes_2 : decode cX4_passes 2 = .ok (.getfield 134, 3) := by decide +kernel
theorem dX4_passes_5 : decode cX4_passes 5 = .ok (.invokevirtual 137, 3) := by decide +kernel
theorem dX4_passes_8 : decode cX4_passes 8 = .ok (.iload_n 1, 1) := by decide +kernel
theorem dX4_passes_9 : decode cX4_passes 9 = .ok (.if_icmp .ne 7, 3) := by decide +kernel
theorem dX4_passes_12 : decode cX4_passes 12 = .ok (.iconst 1, 1) := by decide +kernel
theorem dX4_passes_13 : decode cX4_passes 13 = .ok (.goto 4, 3) := by decide +kernel
theorem dX4_passes_16 : decode cX4_passes 16 = .ok (.iconst 0, 1) := by decide +kernel
theorem dX4_passes_17 : decode cX4_passes 17 = .ok (.istore_n 2, 1) := by decide +kernel
theorem dX4_passes_18 : decode cX4_passes 18 = .ok (.aload_n 0, 1) := by decide +kernel
theorem dX4_passes_19 : decode cX4_passes 19 = .ok (.dup, 1) := by decide +kernel
theorem dX4_passes_20 : decode cX4_passes 20 = .ok (.getfield 134, 3) := by decide +kernel
theorem dX4_passes_23 : decode cX4_passes 23 = .ok (.iload_n 2, 1) := by decide +kernel
theorem dX4_passes_24 : decode cX4_passes 24 = .ok (.ifCond .eq 7, 3) := by decide +kernel
theorem dX4_passes_27 : decode cX4_passes 27 = .ok (.iconst 1, 1) := by decide +kernel
theorem dX4_passes_28 : decode cX4_passes 28 = .ok (.goto 4, 3) := by decide +kernel
theorem dX4_passes_31 : decode cX4_passes 31 = .ok (.iconst 0, 1) := by decide +kernel
theorem dX4_passes_32 : decode cX4_passes 32 = .ok (.iadd, 1) := by decide +kernel
theorem dX4_passes_33 : decode cX4_passes 33 = .ok (.putfield 134, 3) := by decide +kernel
theorem dX4_passes_36 : decode cX4_passes 36 = .ok (.iload_n 2, 1) := by decide +kernel
theorem dX4_passes_37 : decode cX4_passes 37 = .ok (.ireturn, 1) := by decide +kernel
set_option maxRecDepth 20000 in
theorem ggX4_digit_X4_letter : GoodIn wsX4_digit wsX4_letter := goodIn_r _ [7, 8, 9, 13, 14, 15, 16, 17, 18, 19, 20, 21, 22, 23, 24, 25, 26, 27, 28, 29] (by decide +kernel) (by decide +kernel)
set_option maxRecDepth 20000 in
theorem gX4_digit_X4_letter : GoodIn wsX4_digit (wsV RX4 137 RX4 yX4_letter wsX4_letter) := goodIn_app (goodIn_of _ (by decide +kernel)) ggX4_digit_X4_letter
set_option maxRecDepth 20000 in
theorem ggX4_digit_X4_within : GoodIn wsX4_digit wsX4_within := goodIn_r _ [12] (by decide +kernel) (by decide +kernel)
set_option maxRecDepth 20000 in
theorem gX4_digit_X4_within : GoodIn wsX4_digit (va_wsS RX4 37 yX4_within wsX4_within) := goodIn_app (goodIn_of _ (by decide +kernel)) ggX4_digit_X4_within
theorem dX4_digit_0 : decode cX4_digit 0 = .ok (.aload_n 0, 1) := by decide +kernel
theorem dX4_digit_1 : decode cX4_digit 1 = .ok (.aload_n 0, 1) := by decide +kernel
theorem dX4_digit_2 : decode cX4_digit 2 = .ok (.getfield 134, 3) := by decide +kernel
theorem dX4_digit_5 : decode cX4_digit 5 = .ok (.invokevirtual 137, 3) := by decide +kernel
theorem dX4_digit_8 : decode cX4_digit 8 = .ok (.bipush 48, 2) := by decide +kernel
theorem dX4_digit_10 : decode cX4_digit 10 = .ok (.bipush 57, 2) := by decide +kernel
theorem dX4_digit_12 : decode cX4_digit 12 = .ok (.invokestatic 37, 3) := by decide +kernel
theorem dX4_digit_15 : decode cX4_digit 15 = .ok (.istore_n 2, 1) := by decide +kernel
theorem dX4_digit_16 : decode cX4_digit 16 = .ok (.aload_n 0, 1) := by decide +kernel
theorem dX4_digit_17 : decode cX4_digit 17 = .ok (.getfield 28, 3) := by decide +kernel
theorem dX4_digit_20 : decode cX4_digit 20 = .ok (.iload_n 1, 1) := by decide +kernel
theorem dX4_digit_21 : decode cX4_digit 21 = .ok (.iload_n 2, 1) := by decide +kernel
theorem dX4_digit_22 : decode cX4_digit 22 = .ok (.ifCond .eq 17, 3) := by decide +kernel
theorem dX4_digit_25 : decode cX4_digit 25 = .ok (.aload_n 0, 1) := by decide +kernel
theorem dX4_digit_26 : decode cX4_digit 26 = .ok (.aload_n 0, 1) := by decide +kernel
theorem dX4_digit_27 : decode cX4_digit 27 = .ok (.getfield 134, 3) := by decide +kernel
theorem dX4_digit_30 : decode cX4_digit 30 = .ok (.invokevirtual 137, 3) := by decide +kernel
theorem dX4_digit_33 : decode cX4_digit 33 = .ok (.bipush 48, 2) := by decide +kernel
theorem dX4_digit_35 : decode cX4_digit 35 = .ok (.isub, 1) := by decide +kernel
theorem dX4_digit_36 : decode cX4_digit 36 = .ok (.goto 4, 3) := by decide +kernel
theorem dX4_digit_39 : decode cX4_digit 39 = .ok (.iconst 0, 1) := by decide +kernel
theorem dX4_digit_40 : decode cX4_digit 40 = .ok (.iastore, 1) := by decide +kernel
theorem dX4_digit_41 : decode cX4_digit 41 = .ok (.aload_n 0, 1) := by decide +kernel
theorem dX4_digit_42 : decode cX4_digit 42 = .ok (.dup, 1) := by decide +kernel
theorem dX4_digit_43 : decode cX4_digit 43 = .ok (.getfield 134, 3) := by decide +kernel
theorem dX4_digit_46 : decode cX4_digit 46 = .ok (.iload_n 2, 1) := by decide +kernel
theorem dX4_digit_47 : decode cX4_digit 47 = .ok (.ifCond .eq 7, 3) := by decide +kernel
theorem dX4_digit_50 : decode cX4_digit 50 = .ok (.iconst 1, 1) := by decide +kernel
theorem dX4_digit_51 : decode cX4_digit 51 = .ok (.goto 4, 3) := by decide +kernel
theorem dX4_digit_54 : decode cX4_digit 54 = .ok (.iconst 0, 1) := by decide +kernel
theorem dX4_digit_55 : decode cX4_digit 55 = .ok (.iadd, 1) := by decide +kernel
theorem dX4_digit_56 : decode cX4_digit 56 = .ok (.putfield 134, 3) := by decide +kernel
theorem dX4_digit_59 : decode cX4_digit 59 = .ok (.iload_n 2, 1) := by decide +kernel
theorem dX4_digit_60 : decode cX4_digit 60 = .ok (.ireturn, 1) := by decide +kernel
set_option maxRecDepth 20000 in
theorem ggX4_name_X4_letter : GoodIn wsX4_name wsX4_letter := goodIn_r _ [8, 9, 10, 14, 15, 16, 17, 18, 19, 20, 21, 22, 23, 24, 25, 26, 27, 28, 29, 30] (by decide +kernel) (by decide +kernel)
set_option maxRecDepth 20000 in
theorem gX4_name_X4_letter : GoodIn wsX4_name (wsV RX4 137 RX4 yX4_letter wsX4_letter) := goodIn_app (goodIn_of _ (by decide +kernel)) ggX4_name_X4_letter
set_option maxRecDepth 20000 in
theorem ggX4_name_X4_within : GoodIn wsX4_name wsX4_within := goodIn_r _ [13] (by decide +kernel) (by decide +kernel)
set_option maxRecDepth 20000 in
theorem gX4_name_X4_within : GoodIn wsX4_name (va_wsS RX4 37 yX4_within wsX4_within) := goodIn_app (goodIn_of _ (by decide +kernel)) ggX4_name_X4_within
theorem dX4_name_0 : decode cX4_name 0 = .ok (.aload_n 0, 1) := by decide +kernel
theorem dX4_name_1 : decode cX4_name 1 = .ok (.iconst 0, 1) := by decide +kernel
theorem dX4_name_2 : decode cX4_name 2 = .ok (.putfield 140, 3) := by decide +kernel
theorem dX4_name_5 : decode cX4_name 5 = .ok (.aload_n 0, 1) := by decide +kernel
theorem dX4_name_6 : decode cX4_name 6 = .ok (.iconst 0, 1) := by decide +kernel
theorem dX4_name_7 : decode cX4_name 7 = .ok (.putfield 143, 3) := by decide +kernel
theorem dX4_name_10 : decode cX4_name 10 = .ok (.aload_n 0, 1) := by decide +kernel
theorem dX4_name_11 : decode cX4_name 11 = .ok (.aload_n 0, 1) := by decide +kernel
theorem dX4_name_12 : decode cX4_name 12 = .ok (.getfield 134, 3) := by decide +kernel
theorem dX4_name_15 : decode cX4_name 15 = .ok (.invokevirtual 137, 3) := by decide +kernel
theorem dX4_name_18 : decode cX4_name 18 = .ok (.bipush 97, 2) := by decide +kernel
theorem dX4_name_20 : decode cX4_name 20 = .ok (.bipush 122, 2) := by decide +kernel
theorem dX4_name_22 : decode cX4_name 22 = .ok (.invokestatic 37, 3) := by decide +kernel
theorem dX4_name_25 : decode cX4_name 25 = .ok (.ifCond .eq 67, 3) := by decide +kernel
theorem dX4_name_28 : decode cX4_name 28 = .ok (.aload_n 0, 1) := by decide +kernel
theorem dX4_name_29 : decode cX4_name 29 = .ok (.aload_n 0, 1) := by decide +kernel
theorem dX4_name_30 : decode cX4_name 30 = .ok (.getfield 140, 3) := by decide +kernel
theorem dX4_name_33 : decode cX4_name 33 = .ok (.bipush 6, 2) := by decide +kernel
theorem dX4_name_35 : decode cX4_name 35 = .ok (.if_icmp .ge 27, 3) := by decide +kernel
theorem dX4_name_38 : decode cX4_name 38 = .ok (.bipush 27, 2) := by decide +kernel
theorem dX4_name_40 : decode cX4_name 40 = .ok (.aload_n 0, 1) := by decide +kernel
theorem dX4_name_41 : decode cX4_name 41 = .ok (.getfield 143, 3) := by decide +kernel
theorem dX4_name_44 : decode cX4_name 44 = .ok (.imul, 1) := by decide +kernel
theorem dX4_name_45 : decode cX4_name 45 = .ok (.aload_n 0, 1) := by decide +kernel
theorem dX4_name_46 : decode cX4_name 46 = .ok (.aload_n 0, 1) := by decide +kernel
theorem dX4_name_47 : decode cX4_name 47 = .ok (.getfield 134, 3) := by decide +kernel
theorem dX4_name_50 : decode cX4_name 50 = .ok (.invokevirtual 137, 3) := by decide +kernel
theorem dX4_name_53 : decode cX4_name 53 = .ok (.iadd, 1) := by decide +kernel
theorem dX4_name_54 : decode cX4_name 54 = .ok (.bipush 97, 2) := by decide +kernel
theorem dX4_name_56 : decode cX4_name 56 = .ok (.isub, 1) := by decide +kernel
theorem dX4_name_57 : decode cX4_name 57 = .ok (.iconst 1, 1) := by decide +kernel
theorem dX4_name_58 : decode cX4_name 58 = .ok (.iadd, 1) := by decide +kernel
theorem dX4_name_59 : decode cX4_name 59 = .ok (.goto 7, 3) := by decide +kernel
theorem dX4_name_62 : decode cX4_name 62 = .ok (.aload_n 0, 1) := by decide +kernel
theorem dX4_name_63 : decode cX4_name 63 = .ok (.getfield 143, 3) := by decide +kernel
theorem dX4_name_66 : decode cX4_name 66 = .ok (.putfield 143, 3) := by decide +kernel
theorem dX4_name_69 : decode cX4_name 69 = .ok (.aload_n 0, 1) := by decide +kernel
theorem dX4_name_70 : decode cX4_name 70 = .ok (.dup, 1) := by decide +kernel
theorem dX4_name_71 : decode cX4_name 71 = .ok (.getfield 140, 3) := by decide +kernel
theorem dX4_name_74 : decode cX4_name 74 = .ok (.iconst 1, 1) := by decide +kernel
theorem dX4_name_75 : decode cX4_name 75 = .ok (.iadd, 1) := by decide +kernel
theorem dX4_name_76 : decode cX4_name 76 = .ok (.putfield 140, 3) := by decide +kernel
theorem dX4_name_79 : decode cX4_name 79 = .ok (.aload_n 0, 1) := by decide +kernel
theorem dX4_name_80 : decode cX4_name 80 = .ok (.dup, 1) := by decide +kernel
theorem dX4_name_81 : decode cX4_name 81 = .ok (.getfield 134, 3) := by decide +kernel
theorem dX4_name_84 : decode cX4_name 84 = .ok (.iconst 1, 1) := by decide +kernel
theorem dX4_name_85 : decode cX4_name 85 = .ok (.iadd, 1) := by decide +kernel
theorem dX4_name_86 : decode cX4_name 86 = .ok (.putfield 134, 3) := by decide +kernel
theorem dX4_name_89 : decode cX4_name 89 = .ok (.goto (-79), 3) := by decide +kernel
theorem dX4_name_92 : decode cX4_name 92 = .ok (.aload_n 0, 1) := by decide +kernel
theorem dX4_name_93 : decode cX4_name 93 = .ok (.getfield 140, 3) := by decide +kernel
theorem dX4_name_96 : decode cX4_name 96 = .ok (.ifCond .le 7, 3) := by decide +kernel
theorem dX4_name_99 : decode cX4_name 99 = .ok (.iconst 1, 1) := by decide +kernel
theorem dX4_name_100 : decode cX4_name 100 = .ok (.goto 4, 3) := by decide +kernel
theorem dX4_name_103 : decode cX4_name 103 = .ok (.iconst 0, 1) := by decide +kernel
theorem dX4_name_104 : decode cX4_name 104 = .ok (.ireturn, 1) := by decide +kernel
set_option maxRecDepth 20000 in
theorem ggX4_reads_X4_letter : GoodIn wsX4_reads wsX4_letter := goodIn_r _ [6, 7, 8, 27, 28, 29, 30, 31, 32, 33, 34, 35, 36, 37, 38, 39, 40, 41, 42, 43] (by decide +kernel) (by decide +kernel)
set_option maxRecDepth 20000 in
theorem gX4_reads_X4_letter : GoodIn wsX4_reads (wsV RX4 137 RX4 yX4_letter wsX4_letter) := goodIn_app (goodIn_of _ (by decide +kernel)) ggX4_reads_X4_letter
set_option maxRecDepth 20000 in
theorem ggX4_reads_X4_digit : GoodIn wsX4_reads wsX4_digit := goodIn_r _ [12, 1, 13, 2, 3, 4, 5, 6, 7, 8, 14, 15, 16, 27, 28, 29, 30, 31, 32, 33, 34, 35, 36, 37, 38, 39, 40, 41, 42, 43] (by decide +kernel) (by decide +kernel)
set_option maxRecDepth 20000 in
theorem gX4_reads_X4_digit : GoodIn wsX4_reads (wsV RX4 146 RX4 yX4_digit wsX4_digit) := goodIn_app (goodIn_of _ (by decide +kernel)) ggX4_reads_X4_digit
set_option maxRecDepth 20000 in
theorem ggX4_reads_X4_passes : GoodIn wsX4_reads wsX4_passes := goodIn_r _ [20, 1, 2, 3, 4, 5, 6, 7, 8, 27, 28, 29, 30, 31, 32, 33, 34, 35, 36, 37, 38, 39, 40, 41, 42, 43] (by decide +kernel) (by decide +kernel)
set_option maxRecDepth 20000 in
theorem gX4_reads_X4_passes : GoodIn wsX4_reads (wsV RX4 149 RX4 yX4_passes wsX4_passes) := goodIn_app (goodIn_of _ (by decide +kernel)) ggX4_reads_X4_passes
set_option maxRecDepth 20000 in
theorem ggX4_reads_X4_name : GoodIn wsX4_reads wsX4_name := goodIn_r _ [24, 25, 26, 1, 2, 3, 4, 5, 6, 7, 8, 14, 15, 16, 27, 28, 29, 30, 31, 32, 33, 34, 35, 36, 37, 38, 39, 40, 41, 42, 43] (by decide +kernel) (by decide +kernel)
set_option maxRecDepth 20000 in
theorem gX4_reads_X4_name : GoodIn wsX4_reads (wsV RX4 152 RX4 yX4_name wsX4_name) := goodIn_app (goodIn_of _ (by decide +kernel)) ggX4_reads_X4_name
theorem dX4_reads_0 : decode cX4_reads 0 = .ok (.aload_n 0, 1) := by decide +kernel
theorem dX4_reads_1 : decode cX4_reads 1 = .ok (.aload_n 0, 1) := by decide +kernel
theorem dX4_reads_2 : decode cX4_reads 2 = .ok (.getfield 134, 3) := by decide +kernel
theorem dX4_reads_5 : decode cX4_reads 5 = .ok (.invokevirtual 137, 3) := by decide +kernel
theorem dX4_reads_8 : decode cX4_reads 8 = .ok (.istore_n 1, 1) := by decide +kernel
theorem dX4_reads_9 : decode cX4_reads 9 = .ok (.iload_n 1, 1) := by decide +kernel
theorem dX4_reads_10 : decode cX4_reads 10 = .ok (.bipush 43, 2) := by decide +kernel
theorem dX4_reads_12 : decode cX4_reads 12 = .ok (.if_icmp .eq 23, 3) := by decide +kernel
theorem dX4_reads_15 : decode cX4_reads 15 = .ok (.iload_n 1, 1) := by decide +kernel
theorem dX4_reads_16 : decode cX4_reads 16 = .ok (.bipush 45, 2) := by decide +kernel
theorem dX4_reads_18 : decode cX4_reads 18 = .ok (.if_icmp .eq 17, 3) := by decide +kernel
theorem dX4_reads_21 : decode cX4_reads 21 = .ok (.iload_n 1, 1) := by decide +kernel
theorem dX4_reads_22 : decode cX4_reads 22 = .ok (.bipush 61, 2) := by decide +kernel
theorem dX4_reads_24 : decode cX4_reads 24 = .ok (.if_icmp .eq 11, 3) := by decide +kernel
theorem dX4_reads_27 : decode cX4_reads 27 = .ok (.iload_n 1, 1) := by decide +kernel
theorem dX4_reads_28 : decode cX4_reads 28 = .ok (.bipush 33, 2) := by decide +kernel
theorem dX4_reads_30 : decode cX4_reads 30 = .ok (.if_icmp .eq 5, 3) := by decide +kernel
theorem dX4_reads_33 : decode cX4_reads 33 = .ok (.iconst 0, 1) := by decide +kernel
theorem dX4_reads_34 : decode cX4_reads 34 = .ok (.ireturn, 1) := by decide +kernel
theorem dX4_reads_35 : decode cX4_reads 35 = .ok (.aload_n 0, 1) := by decide +kernel
theorem dX4_reads_36 : decode cX4_reads 36 = .ok (.dup, 1) := by decide +kernel
theorem dX4_reads_37 : decode cX4_reads 37 = .ok (.getfield 134, 3) := by decide +kernel
theorem dX4_reads_40 : decode cX4_reads 40 = .ok (.iconst 1, 1) := by decide +kernel
theorem dX4_reads_41 : decode cX4_reads 41 = .ok (.iadd, 1) := by decide +kernel
theorem dX4_reads_42 : decode cX4_reads 42 = .ok (.putfield 134, 3) := by decide +kernel
theorem dX4_reads_45 : decode cX4_reads 45 = .ok (.iload_n 1, 1) := by decide +kernel
theorem dX4_reads_46 : decode cX4_reads 46 = .ok (.bipush 33, 2) := by decide +kernel
theorem dX4_reads_48 : decode cX4_reads 48 = .ok (.if_icmp .ne 26, 3) := by decide +kernel
theorem dX4_reads_51 : decode cX4_reads 51 = .ok (.aload_n 0, 1) := by decide +kernel
theorem dX4_reads_52 : decode cX4_reads 52 = .ok (.iconst 0, 1) := by decide +kernel
theorem dX4_reads_53 : decode cX4_reads 53 = .ok (.invokevirtual 146, 3) := by decide +kernel
theorem dX4_reads_56 : decode cX4_reads 56 = .ok (.ifCond .eq 16, 3) := by decide +kernel
theorem dX4_reads_59 : decode cX4_reads 59 = .ok (.aload_n 0, 1) := by decide +kernel
theorem dX4_reads_60 : decode cX4_reads 60 = .ok (.bipush 59, 2) := by decide +kernel
theorem dX4_reads_62 : decode cX4_reads 62 = .ok (.invokevirtual 149, 3) := by decide +kernel
theorem dX4_reads_65 : decode cX4_reads 65 = .ok (.ifCond .eq 7, 3) := by decide +kernel
theorem dX4_reads_68 : decode cX4_reads 68 = .ok (.iconst 1, 1) := by decide +kernel
theorem dX4_reads_69 : decode cX4_reads 69 = .ok (.goto 4, 3) := by decide +kernel
theorem dX4_reads_72 : decode cX4_reads 72 = .ok (.iconst 0, 1) := by decide +kernel
theorem dX4_reads_73 : decode cX4_reads 73 = .ok (.ireturn, 1) := by decide +kernel
theorem dX4_reads_74 : decode cX4_reads 74 = .ok (.iload_n 1, 1) := by decide +kernel
theorem dX4_reads_75 : decode cX4_reads 75 = .ok (.bipush 61, 2) := by decide +kernel
theorem dX4_reads_77 : decode cX4_reads 77 = .ok (.if_icmp .ne 39, 3) := by decide +kernel
theorem dX4_reads_80 : decode cX4_reads 80 = .ok (.aload_n 0, 1) := by decide +kernel
theorem dX4_reads_81 : decode cX4_reads 81 = .ok (.iconst 0, 1) := by decide +kernel
theorem dX4_reads_82 : decode cX4_reads 82 = .ok (.invokevirtual 146, 3) := by decide +kernel
theorem dX4_reads_85 : decode cX4_reads 85 = .ok (.ifCond .eq 29, 3) := by decide +kernel
theorem dX4_reads_88 : decode cX4_reads 88 = .ok (.aload_n 0, 1) := by decide +kernel
theorem dX4_reads_89 : decode cX4_reads 89 = .ok (.bipush 44, 2) := by decide +kernel
theorem dX4_reads_91 : decode cX4_reads 91 = .ok (.invokevirtual 149, 3) := by decide +kernel
theorem dX4_reads_94 : decode cX4_reads 94 = .ok (.ifCond .eq 20, 3) := by decide +kernel
theorem dX4_reads_97 : decode cX4_reads 97 = .ok (.aload_n 0, 1) := by decide +kernel
theorem dX4_reads_98 : decode cX4_reads 98 = .ok (.iconst 1, 1) := by decide +kernel
theorem dX4_reads_99 : decode cX4_reads 99 = .ok (.invokevirtual 146, 3) := by decide +kernel
theorem dX4_reads_102 : decode cX4_reads 102 = .ok (.ifCond .eq 12, 3) := by decide +kernel
theorem dX4_reads_105 : decode cX4_reads 105 = .ok (.aload_n 0, 1) := by decide +kernel
theorem dX4_reads_106 : decode cX4_reads 106 = .ok (.bipush 44, 2) := by decide +kernel
theorem dX4_reads_108 : decode cX4_reads 108 = .ok (.invokevirtual 149, 3) := by decide +kernel
theorem dX4_reads_111 : decode cX4_reads 111 = .ok (.ifCond .ne 5, 3) := by decide +kernel
theorem dX4_reads_114 : decode cX4_reads 114 = .ok (.iconst 0, 1) := by decide +kernel
theorem dX4_reads_115 : decode cX4_reads 115 = .ok (.ireturn, 1) := by decide +kernel
theorem dX4_reads_116 : decode cX4_reads 116 = .ok (.aload_n 0, 1) := by decide +kernel
theorem dX4_reads_117 : decode cX4_reads 117 = .ok (.invokevirtual 152, 3) := by decide +kernel
theorem dX4_reads_120 : decode cX4_reads 120 = .ok (.ifCond .eq 16, 3) := by decide +kernel
theorem dX4_reads_123 : decode cX4_reads 123 = .ok (.aload_n 0, 1) := by decide +kernel
theorem dX4_reads_124 : decode cX4_reads 124 = .ok (.bipush 59, 2) := by decide +kernel
theorem dX4_reads_126 : decode cX4_reads 126 = .ok (.invokevirtual 149, 3) := by decide +kernel
theorem dX4_reads_129 : decode cX4_reads 129 = .ok (.ifCond .eq 7, 3) := by decide +kernel
theorem dX4_reads_132 : decode cX4_reads 132 = .ok (.iconst 1, 1) := by decide +kernel
theorem dX4_reads_133 : decode cX4_reads 133 = .ok (.goto 4, 3) := by decide +kernel
theorem dX4_reads_136 : decode cX4_reads 136 = .ok (.iconst 0, 1) := by decide +kernel
theorem dX4_reads_137 : decode cX4_reads 137 = .ok (.ireturn, 1) := by decide +kernel
theorem dX4_wrong_0 : decode cX4_wrong 0 = .ok (.iload_n 1, 1) := by decide +kernel
theorem dX4_wrong_1 : decode cX4_wrong 1 = .ok (.bipush 33, 2) := by decide +kernel
theorem dX4_wrong_3 : decode cX4_wrong 3 = .ok (.if_icmp .ne 19, 3) := by decide +kernel
theorem dX4_wrong_6 : decode cX4_wrong 6 = .ok (.aload_n 0, 1) := by decide +kernel
theorem dX4_wrong_7 : decode cX4_wrong 7 = .ok (.getfield 28, 3) := by decide +kernel
theorem dX4_wrong_10 : decode cX4_wrong 10 = .ok (.iconst 0, 1) := by decide +kernel
theorem dX4_wrong_11 : decode cX4_wrong 11 = .ok (.iaload, 1) := by decide +kernel
theorem dX4_wrong_12 : decode cX4_wrong 12 = .ok (.iconst 2, 1) := by decide +kernel
theorem dX4_wrong_13 : decode cX4_wrong 13 = .ok (.if_icmp .le 7, 3) := by decide +kernel
theorem dX4_wrong_16 : decode cX4_wrong 16 = .ok (.iconst 2, 1) := by decide +kernel
theorem dX4_wrong_17 : decode cX4_wrong 17 = .ok (.goto 4, 3) := by decide +kernel
theorem dX4_wrong_20 : decode cX4_wrong 20 = .ok (.iconst (-1), 1) := by decide +kernel
theorem dX4_wrong_21 : decode cX4_wrong 21 = .ok (.ireturn, 1) := by decide +kernel
theorem dX4_wrong_22 : decode cX4_wrong 22 = .ok (.iload_n 1, 1) := by decide +kernel
theorem dX4_wrong_23 : decode cX4_wrong 23 = .ok (.bipush 61, 2) := by decide +kernel
theorem dX4_wrong_25 : decode cX4_wrong 25 = .ok (.if_icmp .ne 15, 3) := by decide +kernel
theorem dX4_wrong_28 : decode cX4_wrong 28 = .ok (.aload_n 0, 1) := by decide +kernel
theorem dX4_wrong_29 : decode cX4_wrong 29 = .ok (.getfield 28, 3) := by decide +kernel
theorem dX4_wrong_32 : decode cX4_wrong 32 = .ok (.iconst 0, 1) := by decide +kernel
theorem dX4_wrong_33 : decode cX4_wrong 33 = .ok (.iaload, 1) := by decide +kernel
theorem dX4_wrong_34 : decode cX4_wrong 34 = .ok (.iconst 2, 1) := by decide +kernel
theorem dX4_wrong_35 : decode cX4_wrong 35 = .ok (.if_icmp .le 5, 3) := by decide +kernel
theorem dX4_wrong_38 : decode cX4_wrong 38 = .ok (.iconst 0, 1) := by decide +kernel
theorem dX4_wrong_39 : decode cX4_wrong 39 = .ok (.ireturn, 1) := by decide +kernel
theorem dX4_wrong_40 : decode cX4_wrong 40 = .ok (.iload_n 1, 1) := by decide +kernel
theorem dX4_wrong_41 : decode cX4_wrong 41 = .ok (.bipush 61, 2) := by decide +kernel
theorem dX4_wrong_43 : decode cX4_wrong 43 = .ok (.if_icmp .ne 15, 3) := by decide +kernel
theorem dX4_wrong_46 : decode cX4_wrong 46 = .ok (.aload_n 0, 1) := by decide +kernel
theorem dX4_wrong_47 : decode cX4_wrong 47 = .ok (.getfield 28, 3) := by decide +kernel
theorem dX4_wrong_50 : decode cX4_wrong 50 = .ok (.iconst 1, 1) := by decide +kernel
theorem dX4_wrong_51 : decode cX4_wrong 51 = .ok (.iaload, 1) := by decide +kernel
theorem dX4_wrong_52 : decode cX4_wrong 52 = .ok (.iconst 5, 1) := by decide +kernel
theorem dX4_wrong_53 : decode cX4_wrong 53 = .ok (.if_icmp .le 5, 3) := by decide +kernel
theorem dX4_wrong_56 : decode cX4_wrong 56 = .ok (.iconst 1, 1) := by decide +kernel
theorem dX4_wrong_57 : decode cX4_wrong 57 = .ok (.ireturn, 1) := by decide +kernel
theorem dX4_wrong_58 : decode cX4_wrong 58 = .ok (.aload_n 0, 1) := by decide +kernel
theorem dX4_wrong_59 : decode cX4_wrong 59 = .ok (.getfield 140, 3) := by decide +kernel
theorem dX4_wrong_62 : decode cX4_wrong 62 = .ok (.bipush 6, 2) := by decide +kernel
theorem dX4_wrong_64 : decode cX4_wrong 64 = .ok (.if_icmp .le 7, 3) := by decide +kernel
theorem dX4_wrong_67 : decode cX4_wrong 67 = .ok (.iconst 3, 1) := by decide +kernel
theorem dX4_wrong_68 : decode cX4_wrong 68 = .ok (.goto 4, 3) := by decide +kernel
theorem dX4_wrong_71 : decode cX4_wrong 71 = .ok (.iconst (-1), 1) := by decide +kernel
theorem dX4_wrong_72 : decode cX4_wrong 72 = .ok (.ireturn, 1) := by decide +kernel
set_option maxRecDepth 20000 in
theorem ggX4_does_X4_numberWith : GoodIn wsX4_does wsX4_numberWith := goodIn_r _ [8, 2, 61, 62, 63, 64, 65, 66, 67, 68, 69, 70, 71, 72, 73, 74, 75, 76, 77] (by decide +kernel) (by decide +kernel)
set_option maxRecDepth 20000 in
theorem gX4_does_X4_numberWith : GoodIn wsX4_does (wsV RX4 47 RX4 yX4_numberWith wsX4_numberWith) := goodIn_app (goodIn_of _ (by decide +kernel)) ggX4_does_X4_numberWith
set_option maxRecDepth 20000 in
theorem ggX4_does_X4_compacts : GoodIn wsX4_does wsX4_compacts := goodIn_r _ [12, 2, 13, 14, 15, 16, 17, 18, 7, 19, 20, 21, 22, 23, 24, 25, 26, 27, 28, 29, 30, 31, 61, 62, 63, 64, 65, 66, 67, 68, 69, 70, 71, 72, 73, 74, 75, 76, 77] (by decide +kernel) (by decide +kernel)
set_option maxRecDepth 20000 in
theorem gX4_does_X4_compacts : GoodIn wsX4_does (wsV RX4 113 RX4 yX4_compacts wsX4_compacts) := goodIn_app (goodIn_of _ (by decide +kernel)) ggX4_does_X4_compacts
set_option maxRecDepth 20000 in
theorem ggX4_does_X4_canAcquire : GoodIn wsX4_does wsX4_canAcquire := goodIn_r _ [35, 2, 4, 5, 6, 7, 8, 36, 37, 38, 39, 20, 21, 22, 23, 61, 62, 63, 64, 65, 66, 67, 68, 69, 70, 71, 72, 73, 74, 75, 76, 77] (by decide +kernel) (by decide +kernel)
set_option maxRecDepth 20000 in
theorem gX4_does_X4_canAcquire : GoodIn wsX4_does (wsV RX4 62 RX4 yX4_canAcquire wsX4_canAcquire) := goodIn_app (goodIn_of _ (by decide +kernel)) ggX4_does_X4_canAcquire
set_option maxRecDepth 20000 in
theorem ggX4_does_X4_acquires : GoodIn wsX4_does wsX4_acquires := goodIn_r _ [43, 2, 4, 5, 6, 7, 8, 36, 37, 38, 39, 20, 21, 22, 23, 44, 45, 46, 47, 48, 61, 62, 63, 64, 65, 66, 67, 68, 69, 70, 71, 72, 73, 74, 75, 76, 77] (by decide +kernel) (by decide +kernel)
set_option maxRecDepth 20000 in
theorem gX4_does_X4_acquires : GoodIn wsX4_does (wsV RX4 69 RX4 yX4_acquires wsX4_acquires) := goodIn_app (goodIn_of _ (by decide +kernel)) ggX4_does_X4_acquires
set_option maxRecDepth 20000 in
theorem ggX4_does_X4_cellsWith : GoodIn wsX4_does wsX4_cellsWith := goodIn_r _ [52, 2, 61, 62, 63, 64, 65, 66, 67, 68, 69, 70, 71, 72, 73, 74, 75, 76, 77] (by decide +kernel) (by decide +kernel)
set_option maxRecDepth 20000 in
theorem gX4_does_X4_cellsWith : GoodIn wsX4_does (wsV RX4 86 RX4 yX4_cellsWith wsX4_cellsWith) := goodIn_app (goodIn_of _ (by decide +kernel)) ggX4_does_X4_cellsWith
set_option maxRecDepth 20000 in
theorem ggX4_does_X4_givesBack : GoodIn wsX4_does wsX4_givesBack := goodIn_r _ [56, 2, 61, 62, 63, 64, 65, 66, 67, 68, 69, 70, 71, 72, 73, 74, 75, 76, 77] (by decide +kernel) (by decide +kernel)
set_option maxRecDepth 20000 in
theorem gX4_does_X4_givesBack : GoodIn wsX4_does (wsV RX4 89 RX4 yX4_givesBack wsX4_givesBack) := goodIn_app (goodIn_of _ (by decide +kernel)) ggX4_does_X4_givesBack
set_option maxRecDepth 20000 in
theorem ggX4_does_X4_puts : GoodIn wsX4_does wsX4_puts := goodIn_r _ [60, 2, 53, 54, 55, 7, 56, 61, 62, 63, 64, 65, 66, 67, 68, 69, 70, 71, 72, 73, 74, 75, 76, 77] (by decide +kernel) (by decide +kernel)
set_option maxRecDepth 20000 in
theorem gX4_does_X4_puts : GoodIn wsX4_does (wsV RX4 96 RX4 yX4_puts wsX4_puts) := goodIn_app (goodIn_of _ (by decide +kernel)) ggX4_does_X4_puts
theorem dX4_does_0 : decode cX4_does 0 = .ok (.aload_n 0, 1) := by decide +kernel
theorem dX4_does_1 : decode cX4_does 1 = .ok (.aload_n 0, 1) := by decide +kernel
theorem dX4_does_2 : decode cX4_does 2 = .ok (.getfield 143, 3) := by decide +kernel
theorem dX4_does_5 : decode cX4_does 5 = .ok (.invokevirtual 47, 3) := by decide +kernel
theorem dX4_does_8 : decode cX4_does 8 = .ok (.istore_n 2, 1) := by decide +kernel
theorem dX4_does_9 : decode cX4_does 9 = .ok (.iload_n 1, 1) := by decide +kernel
theorem dX4_does_10 : decode cX4_does 10 = .ok (.bipush 33, 2) := by decide +kernel
theorem dX4_does_12 : decode cX4_does 12 = .ok (.if_icmp .ne 38, 3) := by decide +kernel
theorem dX4_does_15 : decode cX4_does 15 = .ok (.aload_n 0, 1) := by decide +kernel
theorem dX4_does_16 : decode cX4_does 16 = .ok (.getfield 7, 3) := by decide +kernel
theorem dX4_does_19 : decode cX4_does 19 = .ok (.iconst 0, 1) := by decide +kernel
theorem dX4_does_20 : decode cX4_does 20 = .ok (.iaload, 1) := by decide +kernel
theorem dX4_does_21 : decode cX4_does 21 = .ok (.sipush 999, 3) := by decide +kernel
theorem dX4_does_24 : decode cX4_does 24 = .ok (.if_icmp .ge 7, 3) := by decide +kernel
theorem dX4_does_27 : decode cX4_does 27 = .ok (.iconst 1, 1) := by decide +kernel
theorem dX4_does_28 : decode cX4_does 28 = .ok (.goto 4, 3) := by decide +kernel
theorem dX4_does_31 : decode cX4_does 31 = .ok (.iconst 0, 1) := by decide +kernel
theorem dX4_does_32 : decode cX4_does 32 = .ok (.istore_n 3, 1) := by decide +kernel
theorem dX4_does_33 : decode cX4_does 33 = .ok (.iload_n 3, 1) := by decide +kernel
theorem dX4_does_34 : decode cX4_does 34 = .ok (.ifCond .eq 14, 3) := by decide +kernel
theorem dX4_does_37 : decode cX4_does 37 = .ok (.aload_n 0, 1) := by decide +kernel
theorem dX4_does_38 : decode cX4_does 38 = .ok (.aload_n 0, 1) := by decide +kernel
theorem dX4_does_39 : decode cX4_does 39 = .ok (.getfield 28, 3) := by decide +kernel
theorem dX4_does_42 : decode cX4_does 42 = .ok (.iconst 0, 1) := by decide +kernel
theorem dX4_does_43 : decode cX4_does 43 = .ok (.iaload, 1) := by decide +kernel
theorem dX4_does_44 : decode cX4_does 44 = .ok (.invokevirtual 113, 3) := by decide +kernel
theorem dX4_does_47 : decode cX4_does 47 = .ok (.pop, 1) := by decide +kernel
theorem dX4_does_48 : decode cX4_does 48 = .ok (.iload_n 3, 1) := by decide +kernel
theorem dX4_does_49 : decode cX4_does 49 = .ok (.ireturn, 1) := by decide +kernel
theorem dX4_does_50 : decode cX4_does 50 = .ok (.iload_n 1, 1) := by decide +kernel
theorem dX4_does_51 : decode cX4_does 51 = .ok (.bipush 43, 2) := by decide +kernel
theorem dX4_does_53 : decode cX4_does 53 = .ok (.if_icmp .ne 27, 3) := by decide +kernel
theorem dX4_does_56 : decode cX4_does 56 = .ok (.aload_n 0, 1) := by decide +kernel
theorem dX4_does_57 : decode cX4_does 57 = .ok (.aload_n 0, 1) := by decide +kernel
theorem dX4_does_58 : decode cX4_does 58 = .ok (.getfield 143, 3) := by decide +kernel
theorem dX4_does_61 : decode cX4_does 61 = .ok (.invokevirtual 62, 3) := by decide +kernel
theorem dX4_does_64 : decode cX4_does 64 = .ok (.istore_n 3, 1) := by decide +kernel
theorem dX4_does_65 : decode cX4_does 65 = .ok (.iload_n 3, 1) := by decide +kernel
theorem dX4_does_66 : decode cX4_does 66 = .ok (.ifCond .eq 12, 3) := by decide +kernel
theorem dX4_does_69 : decode cX4_does 69 = .ok (.aload_n 0, 1) := by decide +kernel
theorem dX4_does_70 : decode cX4_does 70 = .ok (.aload_n 0, 1) := by decide +kernel
theorem dX4_does_71 : decode cX4_does 71 = .ok (.getfield 143, 3) := by decide +kernel
theorem dX4_does_74 : decode cX4_does 74 = .ok (.invokevirtual 69, 3) := by decide +kernel
theorem dX4_does_77 : decode cX4_does 77 = .ok (.pop, 1) := by decide +kernel
theorem dX4_does_78 : decode cX4_does 78 = .ok (.iload_n 3, 1) := by decide +kernel
theorem dX4_does_79 : decode cX4_does 79 = .ok (.ireturn, 1) := by decide +kernel
theorem dX4_does_80 : decode cX4_does 80 = .ok (.iload_n 2, 1) := by decide +kernel
theorem dX4_does_81 : decode cX4_does 81 = .ok (.ifCond .ge 5, 3) := by decide +kernel
theorem dX4_does_84 : decode cX4_does 84 = .ok (.iconst 0, 1) := by decide +kernel
theorem dX4_does_85 : decode cX4_does 85 = .ok (.ireturn, 1) := by decide +kernel
theorem dX4_does_86 : decode cX4_does 86 = .ok (.iload_n 1, 1) := by decide +kernel
theorem dX4_does_87 : decode cX4_does 87 = .ok (.bipush 45, 2) := by decide +kernel
theorem dX4_does_89 : decode cX4_does 89 = .ok (.if_icmp .ne 28, 3) := by decide +kernel
theorem dX4_does_92 : decode cX4_does 92 = .ok (.aload_n 0, 1) := by decide +kernel
theorem dX4_does_93 : decode cX4_does 93 = .ok (.getfield 7, 3) := by decide +kernel
theorem dX4_does_96 : decode cX4_does 96 = .ok (.bipush 44, 2) := by decide +kernel
theorem dX4_does_98 : decode cX4_does 98 = .ok (.iload_n 2, 1) := by decide +kernel
theorem dX4_does_99 : decode cX4_does 99 = .ok (.iadd, 1) := by decide +kernel
theorem dX4_does_100 : decode cX4_does 100 = .ok (.iaload, 1) := by decide +kernel
theorem dX4_does_101 : decode cX4_does 101 = .ok (.aload_n 0, 1) := by decide +kernel
theorem dX4_does_102 : decode cX4_does 102 = .ok (.iload_n 2, 1) := by decide +kernel
theorem dX4_does_103 : decode cX4_does 103 = .ok (.invokevirtual 86, 3) := by decide +kernel
theorem dX4_does_106 : decode cX4_does 106 = .ok (.if_icmp .le 7, 3) := by decide +kernel
theorem dX4_does_109 : decode cX4_does 109 = .ok (.iconst 1, 1) := by decide +kernel
theorem dX4_does_110 : decode cX4_does 110 = .ok (.goto 27, 3) := by decide +kernel
theorem dX4_does_113 : decode cX4_does 113 = .ok (.iconst 0, 1) := by decide +kernel
theorem dX4_does_114 : decode cX4_does 114 = .ok (.goto 23, 3) := by decide +kernel
theorem dX4_does_117 : decode cX4_does 117 = .ok (.aload_n 0, 1) := by decide +kernel
theorem dX4_does_118 : decode cX4_does 118 = .ok (.getfield 7, 3) := by decide +kernel
theorem dX4_does_121 : decode cX4_does 121 = .ok (.bipush 44, 2) := by decide +kernel
theorem dX4_does_123 : decode cX4_does 123 = .ok (.iload_n 2, 1) := by decide +kernel
theorem dX4_does_124 : decode cX4_does 124 = .ok (.iadd, 1) := by decide +kernel
theorem dX4_does_125 : decode cX4_does 125 = .ok (.iaload, 1) := by decide +kernel
theorem dX4_does_126 : decode cX4_does 126 = .ok (.sipush 999, 3) := by decide +kernel
theorem dX4_does_129 : decode cX4_does 129 = .ok (.if_icmp .ge 7, 3) := by decide +kernel
theorem dX4_does_132 : decode cX4_does 132 = .ok (.iconst 1, 1) := by decide +kernel
theorem dX4_does_133 : decode cX4_does 133 = .ok (.goto 4, 3) := by decide +kernel
theorem dX4_does_136 : decode cX4_does 136 = .ok (.iconst 0, 1) := by decide +kernel
theorem dX4_does_137 : decode cX4_does 137 = .ok (.istore_n 3, 1) := by decide +kernel
theorem dX4_does_138 : decode cX4_does 138 = .ok (.iload_n 3, 1) := by decide +kernel
theorem dX4_does_139 : decode cX4_does 139 = .ok (.ifCond .eq 18, 3) := by decide +kernel
theorem dX4_does_142 : decode cX4_does 142 = .ok (.iload_n 1, 1) := by decide +kernel
theorem dX4_does_143 : decode cX4_does 143 = .ok (.bipush 45, 2) := by decide +kernel
theorem dX4_does_145 : decode cX4_does 145 = .ok (.if_icmp .ne 12, 3) := by decide +kernel
theorem dX4_does_148 : decode cX4_does 148 = .ok (.aload_n 0, 1) := by decide +kernel
theorem dX4_does_149 : decode cX4_does 149 = .ok (.iload_n 2, 1) := by decide +kernel
theorem dX4_does_150 : decode cX4_does 150 = .ok (.invokevirtual 89, 3) := by decide +kernel
theorem dX4_does_153 : decode cX4_does 153 = .ok (.pop, 1) := by decide +kernel
theorem dX4_does_154 : decode cX4_does 154 = .ok (.goto 29, 3) := by decide +kernel
theorem dX4_does_157 : decode cX4_does 157 = .ok (.iload_n 3, 1) := by decide +kernel
theorem dX4_does_158 : decode cX4_does 158 = .ok (.ifCond .eq 25, 3) := by decide +kernel
theorem dX4_does_161 : decode cX4_does 161 = .ok (.aload_n 0, 1) := by decide +kernel
theorem dX4_does_162 : decode cX4_does 162 = .ok (.bipush 6, 2) := by decide +kernel
theorem dX4_does_164 : decode cX4_does 164 = .ok (.aload_n 0, 1) := by decide +kernel
theorem dX4_does_165 : decode cX4_does 165 = .ok (.getfield 28, 3) := by decide +kernel
theorem dX4_does_168 : decode cX4_does 168 = .ok (.iconst 0, 1) := by decide +kernel
theorem dX4_does_169 : decode cX4_does 169 = .ok (.iaload, 1) := by decide +kernel
theorem dX4_does_170 : decode cX4_does 170 = .ok (.imul, 1) := by decide +kernel
theorem dX4_does_171 : decode cX4_does 171 = .ok (.aload_n 0, 1) := by decide +kernel
theorem dX4_does_172 : decode cX4_does 172 = .ok (.getfield 28, 3) := by decide +kernel
theorem dX4_does_175 : decode cX4_does 175 = .ok (.iconst 1, 1) := by decide +kernel
theorem dX4_does_176 : decode cX4_does 176 = .ok (.iaload, 1) := by decide +kernel
theorem dX4_does_177 : decode cX4_does 177 = .ok (.iadd, 1) := by decide +kernel
theorem dX4_does_178 : decode cX4_does 178 = .ok (.iload_n 2, 1) := by decide +kernel
theorem dX4_does_179 : decode cX4_does 179 = .ok (.invokevirtual 96, 3) := by decide +kernel
theorem dX4_does_182 : decode cX4_does 182 = .ok (.pop, 1) := by decide +kernel
theorem dX4_does_183 : decode cX4_does 183 = .ok (.iload_n 3, 1) := by decide +kernel
theorem dX4_does_184 : decode cX4_does 184 = .ok (.ireturn, 1) := by decide +kernel
set_option maxRecDepth 20000 in
theorem ggX4_doesAll_X4_letter : GoodIn wsX4_doesAll wsX4_letter := goodIn_r _ [10, 3, 11, 99, 100, 101, 102, 103, 104, 105, 106, 107, 108, 109, 110, 111, 112, 113, 114, 115] (by decide +kernel) (by decide +kernel)
set_option maxRecDepth 20000 in
theorem gX4_doesAll_X4_letter : GoodIn wsX4_doesAll (wsV RX4 137 RX4 yX4_letter wsX4_letter) := goodIn_app (goodIn_of _ (by decide +kernel)) ggX4_doesAll_X4_letter
set_option maxRecDepth 20000 in
theorem ggX4_doesAll_X4_reads : GoodIn wsX4_doesAll wsX4_reads := goodIn_r _ [15, 2, 6, 7, 8, 9, 10, 3, 11, 16, 17, 18, 19, 20, 21, 22, 23, 24, 25, 26, 27, 28, 29, 30, 31, 32, 33, 99, 100, 101, 102, 103, 104, 105, 106, 107, 108, 109, 110, 111, 112, 113, 114, 115] (by decide +kernel) (by decide +kernel)
set_option maxRecDepth 20000 in
theorem gX4_doesAll_X4_reads : GoodIn wsX4_doesAll (wsV RX4 162 RX4 yX4_reads wsX4_reads) := goodIn_app (goodIn_of _ (by decide +kernel)) ggX4_doesAll_X4_reads
set_option maxRecDepth 20000 in
theorem ggX4_doesAll_X4_wrong : GoodIn wsX4_doesAll wsX4_wrong := goodIn_r _ [37, 20, 32, 99, 100, 101, 102, 103, 104, 105, 106, 107, 108, 109, 110, 111, 112, 113, 114, 115] (by decide +kernel) (by decide +kernel)
set_option maxRecDepth 20000 in
theorem gX4_doesAll_X4_wrong : GoodIn wsX4_doesAll (wsV RX4 168 RX4 yX4_wrong wsX4_wrong) := goodIn_app (goodIn_of _ (by decide +kernel)) ggX4_doesAll_X4_wrong
set_option maxRecDepth 20000 in
theorem ggX4_doesAll_X4_does : GoodIn wsX4_doesAll wsX4_does := goodIn_r _ [41, 33, 42, 20, 43, 44, 45, 9, 46, 47, 48, 49, 50, 51, 52, 53, 54, 55, 56, 57, 58, 59, 60, 61, 62, 63, 64, 65, 66, 67, 68, 69, 70, 71, 72, 73, 74, 75, 76, 77, 78, 79, 80, 81, 82, 83, 84, 85, 86, 87, 88, 89, 90, 91, 92, 93, 94, 95, 96, 97, 98, 99, 100, 101, 102, 103, 104, 105, 106, 107, 108, 109, 110, 111, 112, 113, 114, 115] (by decide +kernel) (by decide +kernel)
set_option maxRecDepth 20000 in
theorem gX4_doesAll_X4_does : GoodIn wsX4_doesAll (wsV RX4 171 RX4 yX4_does wsX4_does) := goodIn_app (goodIn_of _ (by decide +kernel)) ggX4_doesAll_X4_does
theorem dX4_doesAll_0 : decode cX4_doesAll 0 = .ok (.iconst 0, 1) := by decide +kernel
theorem dX4_doesAll_1 : decode cX4_doesAll 1 = .ok (.istore_n 1, 1) := by decide +kernel
theorem dX4_doesAll_2 : decode cX4_doesAll 2 = .ok (.aload_n 0, 1) := by decide +kernel
theorem dX4_doesAll_3 : decode cX4_doesAll 3 = .ok (.iconst 0, 1) := by decide +kernel
theorem dX4_doesAll_4 : decode cX4_doesAll 4 = .ok (.putfield 156, 3) := by decide +kernel
theorem dX4_doesAll_7 : decode cX4_doesAll 7 = .ok (.aload_n 0, 1) := by decide +kernel
theorem dX4_doesAll_8 : decode cX4_doesAll 8 = .ok (.iconst 0, 1) := by decide +kernel
theorem dX4_doesAll_9 : decode cX4_doesAll 9 = .ok (.putfield 134, 3) := by decide +kernel
theorem dX4_doesAll_12 : decode cX4_doesAll 12 = .ok (.aload_n 0, 1) := by decide +kernel
theorem dX4_doesAll_13 : decode cX4_doesAll 13 = .ok (.getfield 134, 3) := by decide +kernel
theorem dX4_doesAll_16 : decode cX4_doesAll 16 = .ok (.aload_n 0, 1) := by decide +kernel
theorem dX4_doesAll_17 : decode cX4_doesAll 17 = .ok (.getfield 131, 3) := by decide +kernel
theorem dX4_doesAll_20 : decode cX4_doesAll 20 = .ok (.if_icmp .ge 102, 3) := by decide +kernel
theorem dX4_doesAll_23 : decode cX4_doesAll 23 = .ok (.aload_n 0, 1) := by decide +kernel
theorem dX4_doesAll_24 : decode cX4_doesAll 24 = .ok (.getfield 156, 3) := by decide +kernel
theorem dX4_doesAll_27 : decode cX4_doesAll 27 = .ok (.ifCond .ne 95, 3) := by decide +kernel
theorem dX4_doesAll_30 : decode cX4_doesAll 30 = .ok (.aload_n 0, 1) := by decide +kernel
theorem dX4_doesAll_31 : decode cX4_doesAll 31 = .ok (.aload_n 0, 1) := by decide +kernel
theorem dX4_doesAll_32 : decode cX4_doesAll 32 = .ok (.getfield 134, 3) := by decide +kernel
theorem dX4_doesAll_35 : decode cX4_doesAll 35 = .ok (.putfield 159, 3) := by decide +kernel
theorem dX4_doesAll_38 : decode cX4_doesAll 38 = .ok (.aload_n 0, 1) := by decide +kernel
theorem dX4_doesAll_39 : decode cX4_doesAll 39 = .ok (.aload_n 0, 1) := by decide +kernel
theorem dX4_doesAll_40 : decode cX4_doesAll 40 = .ok (.getfield 159, 3) := by decide +kernel
theorem dX4_doesAll_43 : decode cX4_doesAll 43 = .ok (.invokevirtual 137, 3) := by decide +kernel
theorem dX4_doesAll_46 : decode cX4_doesAll 46 = .ok (.istore_n 2, 1) := by decide +kernel
theorem dX4_doesAll_47 : decode cX4_doesAll 47 = .ok (.aload_n 0, 1) := by decide +kernel
theorem dX4_doesAll_48 : decode cX4_doesAll 48 = .ok (.invokevirtual 162, 3) := by decide +kernel
theorem dX4_doesAll_51 : decode cX4_doesAll 51 = .ok (.ifCond .ne 24, 3) := by decide +kernel
theorem dX4_doesAll_54 : decode cX4_doesAll 54 = .ok (.aload_n 0, 1) := by decide +kernel
theorem dX4_doesAll_55 : decode cX4_doesAll 55 = .ok (.iconst 1, 1) := by decide +kernel
theorem dX4_doesAll_56 : decode cX4_doesAll 56 = .ok (.putfield 156, 3) := by decide +kernel
theorem dX4_doesAll_59 : decode cX4_doesAll 59 = .ok (.aload_n 0, 1) := by decide +kernel
theorem dX4_doesAll_60 : decode cX4_doesAll 60 = .ok (.aload_n 0, 1) := by decide +kernel
theorem dX4_doesAll_61 : decode cX4_doesAll 61 = .ok (.getfield 134, 3) := by decide +kernel
theorem dX4_doesAll_64 : decode cX4_doesAll 64 = .ok (.aload_n 0, 1) := by decide +kernel
theorem dX4_doesAll_65 : decode cX4_doesAll 65 = .ok (.getfield 159, 3) := by decide +kernel
theorem dX4_doesAll_68 : decode cX4_doesAll 68 = .ok (.isub, 1) := by decide +kernel
theorem dX4_doesAll_69 : decode cX4_doesAll 69 = .ok (.putfield 165, 3) := by decide +kernel
theorem dX4_doesAll_72 : decode cX4_doesAll 72 = .ok (.goto 47, 3) := by decide +kernel
theorem dX4_doesAll_75 : decode cX4_doesAll 75 = .ok (.aload_n 0, 1) := by decide +kernel
theorem dX4_doesAll_76 : decode cX4_doesAll 76 = .ok (.iload_n 2, 1) := by decide +kernel
theorem dX4_doesAll_77 : decode cX4_doesAll 77 = .ok (.invokevirtual 168, 3) := by decide +kernel
theorem dX4_doesAll_80 : decode cX4_doesAll 80 = .ok (.ifCond .lt 20, 3) := by decide +kernel
theorem dX4_doesAll_83 : decode cX4_doesAll 83 = .ok (.aload_n 0, 1) := by decide +kernel
theorem dX4_doesAll_84 : decode cX4_doesAll 84 = .ok (.iconst 2, 1) := by decide +kernel
theorem dX4_doesAll_85 : decode cX4_doesAll 85 = .ok (.putfield 156, 3) := by decide +kernel
theorem dX4_doesAll_88 : decode cX4_doesAll 88 = .ok (.aload_n 0, 1) := by decide +kernel
theorem dX4_doesAll_89 : decode cX4_doesAll 89 = .ok (.aload_n 0, 1) := by decide +kernel
theorem dX4_doesAll_90 : decode cX4_doesAll 90 = .ok (.iload_n 2, 1) := by decide +kernel
theorem dX4_doesAll_91 : decode cX4_doesAll 91 = .ok (.invokevirtual 168, 3) := by decide +kernel
theorem dX4_doesAll_94 : decode cX4_doesAll 94 = .ok (.putfield 165, 3) := by decide +kernel
theorem dX4_doesAll_97 : decode cX4_doesAll 97 = .ok (.goto 22, 3) := by decide +kernel
theorem dX4_doesAll_100 : decode cX4_doesAll 100 = .ok (.aload_n 0, 1) := by decide +kernel
theorem dX4_doesAll_101 : decode cX4_doesAll 101 = .ok (.iload_n 2, 1) := by decide +kernel
theorem dX4_doesAll_102 : decode cX4_doesAll 102 = .ok (.invokevirtual 171, 3) := by decide +kernel
theorem dX4_doesAll_105 : decode cX4_doesAll 105 = .ok (.ifCond .ne 11, 3) := by decide +kernel
theorem dX4_doesAll_108 : decode cX4_doesAll 108 = .ok (.aload_n 0, 1) := by decide +kernel
theorem dX4_doesAll_109 : decode cX4_doesAll 109 = .ok (.iconst 3, 1) := by decide +kernel
theorem dX4_doesAll_110 : decode cX4_doesAll 110 = .ok (.putfield 156, 3) := by decide +kernel
theorem dX4_doesAll_113 : decode cX4_doesAll 113 = .ok (.goto 6, 3) := by decide +kernel
theorem dX4_doesAll_116 : decode cX4_doesAll 116 = .ok (.iinc 1 1, 3) := by decide +kernel
theorem dX4_doesAll_119 : decode cX4_doesAll 119 = .ok (.goto (-107), 3) := by decide +kernel
theorem dX4_doesAll_122 : decode cX4_doesAll 122 = .ok (.iload_n 1, 1) := by decide +kernel
theorem dX4_doesAll_123 : decode cX4_doesAll 123 = .ok (.ireturn, 1) := by decide +kernel
theorem dX4_lays_0 : decode cX4_lays 0 = .ok (.iconst 0, 1) := by decide +kernel
theorem dX4_lays_1 : decode cX4_lays 1 = .ok (.istore_n 1, 1) := by decide +kernel
theorem dX4_lays_2 : decode cX4_lays 2 = .ok (.iload_n 1, 1) := by decide +kernel
theorem dX4_lays_3 : decode cX4_lays 3 = .ok (.sipush 511, 3) := by decide +kernel
theorem dX4_lays_6 : decode cX4_lays 6 = .ok (.if_icmp .ge 21, 3) := by decide +kernel
theorem dX4_lays_9 : decode cX4_lays 9 = .ok (.aload_n 0, 1) := by decide +kernel
theorem dX4_lays_10 : decode cX4_lays 10 = .ok (.getfield 16, 3) := by decide +kernel
theorem dX4_lays_13 : decode cX4_lays 13 = .ok (.iload_n 1, 1) := by decide +kernel
theorem dX4_lays_14 : decode cX4_lays 14 = .ok (.aload_n 0, 1) := by decide +kernel
theorem dX4_lays_15 : decode cX4_lays 15 = .ok (.getfield 7, 3) := by decide +kernel
theorem dX4_lays_18 : decode cX4_lays 18 = .ok (.iload_n 1, 1) := by decide +kernel
theorem dX4_lays_19 : decode cX4_lays 19 = .ok (.iaload, 1) := by decide +kernel
theorem dX4_lays_20 : decode cX4_lays 20 = .ok (.iastore, 1) := by decide +kernel
theorem dX4_lays_21 : decode cX4_lays 21 = .ok (.iinc 1 1, 3) := by decide +kernel
theorem dX4_lays_24 : decode cX4_lays 24 = .ok (.goto (-22), 3) := by decide +kernel
theorem dX4_lays_27 : decode cX4_lays 27 = .ok (.return_, 1) := by decide +kernel
theorem dX4_back_0 : decode cX4_back 0 = .ok (.iconst 0, 1) := by decide +kernel
theorem dX4_back_1 : decode cX4_back 1 = .ok (.istore_n 1, 1) := by decide +kernel
theorem dX4_back_2 : decode cX4_back 2 = .ok (.iload_n 1, 1) := by decide +kernel
theorem dX4_back_3 : decode cX4_back 3 = .ok (.sipush 511, 3) := by decide +kernel
theorem dX4_back_6 : decode cX4_back 6 = .ok (.if_icmp .ge 21, 3) := by decide +kernel
theorem dX4_back_9 : decode cX4_back 9 = .ok (.aload_n 0, 1) := by decide +kernel
theorem dX4_back_10 : decode cX4_back 10 = .ok (.getfield 7, 3) := by decide +kernel
theorem dX4_back_13 : decode cX4_back 13 = .ok (.iload_n 1, 1) := by decide +kernel
theorem dX4_back_14 : decode cX4_back 14 = .ok (.aload_n 0, 1) := by decide +kernel
theorem dX4_back_15 : decode cX4_back 15 = .ok (.getfield 16, 3) := by decide +kernel
theorem dX4_back_18 : decode cX4_back 18 = .ok (.iload_n 1, 1) := by decide +kernel
theorem dX4_back_19 : decode cX4_back 19 = .ok (.iaload, 1) := by decide +kernel
theorem dX4_back_20 : decode cX4_back 20 = .ok (.iastore, 1) := by decide +kernel
theorem dX4_back_21 : decode cX4_back 21 = .ok (.iinc 1 1, 3) := by decide +kernel
theorem dX4_back_24 : decode cX4_back 24 = .ok (.goto (-22), 3) := by decide +kernel
theorem dX4_back_27 : decode cX4_back 27 = .ok (.return_, 1) := by decide +kernel
set_option maxRecDepth 20000 in
theorem ggX4_fault_X4_within : GoodIn wsX4_fault wsX4_within := goodIn_r _ [9] (by decide +kernel) (by decide +kernel)
set_option maxRecDepth 20000 in
theorem gX4_fault_X4_within : GoodIn wsX4_fault (va_wsS RX4 37 yX4_within wsX4_within) := goodIn_app (goodIn_of _ (by decide +kernel)) ggX4_fault_X4_within
set_option maxRecDepth 20000 in
theorem ggX4_fault_X4_lays : GoodIn wsX4_fault wsX4_lays := goodIn_r _ [13, 14, 15, 114, 115, 116, 117, 118, 119, 120, 121, 122, 123, 124, 125, 126, 127, 128, 129, 130] (by decide +kernel) (by decide +kernel)
set_option maxRecDepth 20000 in
theorem gX4_fault_X4_lays : GoodIn wsX4_fault (wsV RX4 174 RX4 yX4_lays wsX4_lays) := goodIn_app (goodIn_of _ (by decide +kernel)) ggX4_fault_X4_lays
set_option maxRecDepth 20000 in
theorem ggX4_fault_X4_doesAll : GoodIn wsX4_fault wsX4_doesAll := goodIn_r _ [19, 2, 20, 21, 4, 5, 22, 23, 24, 8, 25, 26, 27, 28, 29, 30, 31, 32, 33, 34, 35, 6, 7, 9, 36, 37, 38, 39, 40, 41, 42, 43, 44, 45, 46, 47, 48, 49, 50, 51, 52, 53, 15, 54, 55, 56, 57, 58, 59, 60, 61, 62, 63, 64, 65, 66, 67, 68, 69, 70, 71, 72, 73, 74, 75, 76, 77, 78, 79, 80, 81, 82, 83, 84, 85, 86, 87, 88, 89, 90, 91, 92, 93, 94, 95, 96, 97, 98, 99, 100, 101, 102, 103, 104, 105, 106, 107, 108, 109, 114, 115, 116, 117, 118, 119, 120, 121, 122, 123, 124, 125, 126, 127, 128, 129, 130] (by decide +kernel) (by decide +kernel)
set_option maxRecDepth 20000 in
theorem gX4_fault_X4_doesAll : GoodIn wsX4_fault (wsV RX4 177 RX4 yX4_doesAll wsX4_doesAll) := goodIn_app (goodIn_of _ (by decide +kernel)) ggX4_fault_X4_doesAll
set_option maxRecDepth 20000 in
theorem ggX4_fault_X4_back : GoodIn wsX4_fault wsX4_back := goodIn_r _ [113, 15, 14, 114, 115, 116, 117, 118, 119, 120, 121, 122, 123, 124, 125, 126, 127, 128, 129, 130] (by decide +kernel) (by decide +kernel)
set_option maxRecDepth 20000 in
theorem gX4_fault_X4_back : GoodIn wsX4_fault (wsV RX4 180 RX4 yX4_back wsX4_back) := goodIn_app (goodIn_of _ (by decide +kernel)) ggX4_fault_X4_back
theorem dX4_fault_0 : decode cX4_fault 0 = .ok (.iload_n 1, 1) := by decide +kernel
theorem dX4_fault_1 : decode cX4_fault 1 = .ok (.iconst 0, 1) := by decide +kernel
theorem dX4_fault_2 : decode cX4_fault 2 = .ok (.iconst 2, 1) := by decide +kernel
theorem dX4_fault_3 : decode cX4_fault 3 = .ok (.invokestatic 37, 3) := by decide +kernel
theorem dX4_fault_6 : decode cX4_fault 6 = .ok (.ifCond .ne 6, 3) := by decide +kernel
theorem dX4_fault_9 : decode cX4_fault 9 = .ok (.ldc 61, 2) := by decide +kernel
theorem dX4_fault_11 : decode cX4_fault 11 = .ok (.ireturn, 1) := by decide +kernel
theorem dX4_fault_12 : decode cX4_fault 12 = .ok (.aload_n 0, 1) := by decide +kernel
theorem dX4_fault_13 : decode cX4_fault 13 = .ok (.invokevirtual 174, 3) := by decide +kernel
theorem dX4_fault_16 : decode cX4_fault 16 = .ok (.aload_n 0, 1) := by decide +kernel
theorem dX4_fault_17 : decode cX4_fault 17 = .ok (.invokevirtual 177, 3) := by decide +kernel
theorem dX4_fault_20 : decode cX4_fault 20 = .ok (.pop, 1) := by decide +kernel
theorem dX4_fault_21 : decode cX4_fault 21 = .ok (.aload_n 0, 1) := by decide +kernel
theorem dX4_fault_22 : decode cX4_fault 22 = .ok (.invokevirtual 180, 3) := by decide +kernel
theorem dX4_fault_25 : decode cX4_fault 25 = .ok (.aload_n 0, 1) := by decide +kernel
theorem dX4_fault_26 : decode cX4_fault 26 = .ok (.getfield 156, 3) := by decide +kernel
theorem dX4_fault_29 : decode cX4_fault 29 = .ok (.ifCond .eq 16, 3) := by decide +kernel
theorem dX4_fault_32 : decode cX4_fault 32 = .ok (.iload_n 1, 1) := by decide +kernel
theorem dX4_fault_33 : decode cX4_fault 33 = .ok (.iconst 2, 1) := by decide +kernel
theorem dX4_fault_34 : decode cX4_fault 34 = .ok (.if_icmp .ne 14, 3) := by decide +kernel
theorem dX4_fault_37 : decode cX4_fault 37 = .ok (.aload_n 0, 1) := by decide +kernel
theorem dX4_fault_38 : decode cX4_fault 38 = .ok (.getfield 156, 3) := by decide +kernel
theorem dX4_fault_41 : decode cX4_fault 41 = .ok (.iconst 3, 1) := by decide +kernel
theorem dX4_fault_42 : decode cX4_fault 42 = .ok (.if_icmp .ne 6, 3) := by decide +kernel
theorem dX4_fault_45 : decode cX4_fault 45 = .ok (.ldc 99, 2) := by decide +kernel
theorem dX4_fault_47 : decode cX4_fault 47 = .ok (.ireturn, 1) := by decide +kernel
theorem dX4_fault_48 : decode cX4_fault 48 = .ok (.iload_n 1, 1) := by decide +kernel
theorem dX4_fault_49 : decode cX4_fault 49 = .ok (.ifCond .ne 10, 3) := by decide +kernel
theorem dX4_fault_52 : decode cX4_fault 52 = .ok (.aload_n 0, 1) := by decide +kernel
theorem dX4_fault_53 : decode cX4_fault 53 = .ok (.getfield 159, 3) := by decide +kernel
theorem dX4_fault_56 : decode cX4_fault 56 = .ok (.goto 19, 3) := by decide +kernel
theorem dX4_fault_59 : decode cX4_fault 59 = .ok (.iload_n 1, 1) := by decide +kernel
theorem dX4_fault_60 : decode cX4_fault 60 = .ok (.iconst 1, 1) := by decide +kernel
theorem dX4_fault_61 : decode cX4_fault 61 = .ok (.if_icmp .ne 10, 3) := by decide +kernel
theorem dX4_fault_64 : decode cX4_fault 64 = .ok (.aload_n 0, 1) := by decide +kernel
theorem dX4_fault_65 : decode cX4_fault 65 = .ok (.getfield 156, 3) := by decide +kernel
theorem dX4_fault_68 : decode cX4_fault 68 = .ok (.goto 7, 3) := by decide +kernel
theorem dX4_fault_71 : decode cX4_fault 71 = .ok (.aload_n 0, 1) := by decide +kernel
theorem dX4_fault_72 : decode cX4_fault 72 = .ok (.getfield 165, 3) := by decide +kernel
theorem dX4_fault_75 : decode cX4_fault 75 = .ok (.ireturn, 1) := by decide +kernel
set_option maxRecDepth 20000 in
theorem ggX4_play_X4_lays : GoodIn wsX4_play wsX4_lays := goodIn_r _ [7, 8, 9, 119, 120, 121, 122, 123, 124, 125, 126, 127, 128, 129, 130, 131, 132, 133, 134, 135] (by decide +kernel) (by decide +kernel)
set_option maxRecDepth 20000 in
theorem gX4_play_X4_lays : GoodIn wsX4_play (wsV RX4 174 RX4 yX4_lays wsX4_lays) := goodIn_app (goodIn_of _ (by decide +kernel)) ggX4_play_X4_lays
set_option maxRecDepth 20000 in
theorem ggX4_play_X4_doesAll : GoodIn wsX4_play wsX4_doesAll := goodIn_r _ [13, 1, 14, 15, 16, 17, 18, 19, 20, 6, 21, 22, 23, 24, 25, 26, 27, 28, 29, 30, 31, 32, 33, 34, 35, 36, 37, 38, 39, 40, 41, 42, 43, 44, 45, 46, 47, 48, 49, 50, 51, 52, 9, 53, 54, 55, 56, 57, 58, 59, 60, 61, 62, 63, 64, 65, 66, 67, 68, 69, 70, 71, 72, 73, 74, 75, 76, 77, 78, 79, 80, 81, 82, 83, 84, 85, 86, 87, 88, 89, 90, 91, 92, 93, 94, 95, 96, 97, 98, 99, 100, 101, 102, 103, 104, 105, 106, 107, 108, 119, 120, 121, 122, 123, 124, 125, 126, 127, 128, 129, 130, 131, 132, 133, 134, 135] (by decide +kernel) (by decide +kernel)
set_option maxRecDepth 20000 in
theorem gX4_play_X4_doesAll : GoodIn wsX4_play (wsV RX4 177 RX4 yX4_doesAll wsX4_doesAll) := goodIn_app (goodIn_of _ (by decide +kernel)) ggX4_play_X4_doesAll
set_option maxRecDepth 20000 in
theorem ggX4_play_X4_back : GoodIn wsX4_play wsX4_back := goodIn_r _ [112, 9, 8, 119, 120, 121, 122, 123, 124, 125, 126, 127, 128, 129, 130, 131, 132, 133, 134, 135] (by decide +kernel) (by decide +kernel)
set_option maxRecDepth 20000 in
theorem gX4_play_X4_back : GoodIn wsX4_play (wsV RX4 180 RX4 yX4_back wsX4_back) := goodIn_app (goodIn_of _ (by decide +kernel)) ggX4_play_X4_back
set_option maxRecDepth 20000 in
theorem ggX4_play_X4_saves : GoodIn wsX4_play wsX4_saves := goodIn_r _ [116, 117, 118, 9, 119, 120, 121, 122, 123, 124, 125, 126, 127, 128, 129, 130, 131, 132, 133, 134, 135] (by decide +kernel) (by decide +kernel)
set_option maxRecDepth 20000 in
theorem gX4_play_X4_saves : GoodIn wsX4_play (wsV RX4 66 RX4 yX4_saves wsX4_saves) := goodIn_app (goodIn_of _ (by decide +kernel)) ggX4_play_X4_saves
theorem dX4_play_0 : decode cX4_play 0 = .ok (.aload_n 0, 1) := by decide +kernel
theorem dX4_play_1 : decode cX4_play 1 = .ok (.invokevirtual 174, 3) := by decide +kernel
theorem dX4_play_4 : decode cX4_play 4 = .ok (.aload_n 0, 1) := by decide +kernel
theorem dX4_play_5 : decode cX4_play 5 = .ok (.invokevirtual 177, 3) := by decide +kernel
theorem dX4_play_8 : decode cX4_play 8 = .ok (.pop, 1) := by decide +kernel
theorem dX4_play_9 : decode cX4_play 9 = .ok (.aload_n 0, 1) := by decide +kernel
theorem dX4_play_10 : decode cX4_play 10 = .ok (.invokevirtual 180, 3) := by decide +kernel
theorem dX4_play_13 : decode cX4_play 13 = .ok (.aload_n 0, 1) := by decide +kernel
theorem dX4_play_14 : decode cX4_play 14 = .ok (.getfield 156, 3) := by decide +kernel
theorem dX4_play_17 : decode cX4_play 17 = .ok (.ifCond .eq 6, 3) := by decide +kernel
theorem dX4_play_20 : decode cX4_play 20 = .ok (.ldc 35, 2) := by decide +kernel
theorem dX4_play_22 : decode cX4_play 22 = .ok (.ireturn, 1) := by decide +kernel
theorem dX4_play_23 : decode cX4_play 23 = .ok (.aload_n 0, 1) := by decide +kernel
theorem dX4_play_24 : decode cX4_play 24 = .ok (.invokevirtual 66, 3) := by decide +kernel
theorem dX4_play_27 : decode cX4_play 27 = .ok (.aload_n 0, 1) := by decide +kernel
theorem dX4_play_28 : decode cX4_play 28 = .ok (.invokevirtual 177, 3) := by decide +kernel
theorem dX4_play_31 : decode cX4_play 31 = .ok (.ireturn, 1) := by decide +kernel
theorem dJ9_min_7cf53_0 : decode cJ9_min_7cf53 0 = .ok (.iload_n 0, 1) := by decide +kernel
theorem dJ9_min_7cf53_1 : decode cJ9_min_7cf53 1 = .ok (.iload_n 1, 1) := by decide +kernel
theorem dJ9_min_7cf53_2 : decode cJ9_min_7cf53 2 = .ok (.if_icmp .gt 7, 3) := by decide +kernel
theorem dJ9_min_7cf53_5 : decode cJ9_min_7cf53 5 = .ok (.iload_n 0, 1) := by decide +kernel
theorem dJ9_min_7cf53_6 : decode cJ9_min_7cf53 6 = .ok (.goto 4, 3) := by decide +kernel
theorem dJ9_min_7cf53_9 : decode cJ9_min_7cf53 9 = .ok (.iload_n 1, 1) := by decide +kernel
theorem dJ9_min_7cf53_10 : decode cJ9_min_7cf53 10 = .ok (.ireturn, 1) := by decide +kernel
theorem dJ7_fill_53178_0 : decode cJ7_fill_53178 0 = .ok (.iconst 0, 1) := by decide +kernel
theorem dJ7_fill_53178_1 : decode cJ7_fill_53178 1 = .ok (.istore_n 2, 1) := by decide +kernel
theorem dJ7_fill_53178_2 : decode cJ7_fill_53178 2 = .ok (.aload_n 0, 1) := by decide +kernel
theorem dJ7_fill_53178_3 : decode cJ7_fill_53178 3 = .ok (.arraylength, 1) := by decide +kernel
theorem dJ7_fill_53178_4 : decode cJ7_fill_53178 4 = .ok (.istore_n 3, 1) := by decide +kernel
theorem dJ7_fill_53178_5 : decode cJ7_fill_53178 5 = .ok (.iload_n 2, 1) := by decide +kernel
theorem dJ7_fill_53178_6 : decode cJ7_fill_53178 6 = .ok (.iload_n 3, 1) := by decide +kernel
theorem dJ7_fill_53178_7 : decode cJ7_fill_53178 7 = .ok (.if_icmp .ge 13, 3) := by decide +kernel
theorem dJ7_fill_53178_10 : decode cJ7_fill_53178 10 = .ok (.aload_n 0, 1) := by decide +kernel
theorem dJ7_fill_53178_11 : decode cJ7_fill_53178 11 = .ok (.iload_n 2, 1) := by decide +kernel
theorem dJ7_fill_53178_12 : decode cJ7_fill_53178 12 = .ok (.iload_n 1, 1) := by decide +kernel
theorem dJ7_fill_53178_13 : decode cJ7_fill_53178 13 = .ok (.iastore, 1) := by decide +kernel
theorem dJ7_fill_53178_14 : decode cJ7_fill_53178 14 = .ok (.iinc 2 1, 3) := by decide +kernel
theorem dJ7_fill_53178_17 : decode cJ7_fill_53178 17 = .ok (.goto (-12), 3) := by decide +kernel
theorem dJ7_fill_53178_20 : decode cJ7_fill_53178 20 = .ok (.return_, 1) := by decide +kernel
set_option maxRecDepth 20000 in
theorem ggL_law_X3_init : GoodIn wsL_law wsX3_init := goodIn_r _ [8, 9, 10, 11, 12, 13, 14, 15, 16, 17, 18, 19, 20, 21, 22, 23, 24, 25, 26, 27, 28, 29, 30, 31, 32, 33, 34, 35, 36, 37, 38, 39, 40, 41, 42, 43, 44, 45, 46, 47, 48, 49, 50, 51, 52, 53, 54, 55, 56, 656, 657, 658, 659, 660, 661, 662, 663, 664, 665, 666, 667, 668, 669, 670, 634, 635, 636, 637, 638, 671, 672, 673, 674, 675, 676, 677, 678, 679, 680, 681, 682, 683, 684] (by decide +kernel) (by decide +kernel)
set_option maxRecDepth 20000 in
theorem gL_law_X3_init : GoodIn wsL_law (wsX3_init) := ggL_law_X3_init
set_option maxRecDepth 20000 in
theorem ggL_law_X4_init : GoodIn wsL_law wsX4_init := goodIn_r _ [59, 60, 10, 11, 29, 61, 62, 63, 64, 65, 66, 67, 639, 640, 641, 642, 643, 644, 645, 646, 647, 648, 649, 650, 651, 652, 653, 654, 655] (by decide +kernel) (by decide +kernel)
set_option maxRecDepth 20000 in
theorem gL_law_X4_init : GoodIn wsL_law (wsX4_init) := ggL_law_X4_init
set_option maxRecDepth 20000 in
theorem ggL_law_X3_acquire : GoodIn wsL_law wsX3_acquire := goodIn_r _ [71, 72, 15, 73, 74, 75, 2, 76, 77, 78, 79, 80, 14, 81, 82, 83, 84, 85, 30, 86, 87, 88, 89, 31, 90, 91, 92, 93, 94, 95, 96, 16, 97, 98, 99, 100, 101, 102, 103, 104, 32, 33, 105, 106, 107, 34, 35, 36, 37, 38, 39, 108, 109, 110, 111, 112, 113, 114, 115, 116, 117, 118, 119, 120, 121, 122, 123, 124, 634, 635, 636, 637, 638, 656, 657, 658, 659, 660, 661, 662, 663, 664, 665, 666, 667, 668, 669, 670] (by decide +kernel) (by decide +kernel)
set_option maxRecDepth 20000 in
theorem gL_law_X3_acquire : GoodIn wsL_law (wsV RL 13 RX3 yX3_acquire wsX3_acquire) := goodIn_app (goodIn_of _ (by decide +kernel)) ggL_law_X3_acquire
set_option maxRecDepth 20000 in
theorem ggL_law_X4_acquire : GoodIn wsL_law wsX4_acquire := goodIn_r _ [128, 129, 130, 131, 132, 5, 133, 134, 135, 136, 137, 138, 139, 140, 141, 61, 142, 143, 144, 145, 146, 147, 148, 149, 150, 151, 152, 153, 154, 155, 156, 157, 158, 62, 159, 160, 161, 162, 163, 164, 165, 166, 167, 639, 640, 641, 642, 643, 644, 645, 646, 647, 648, 649, 650, 651, 652, 653, 654, 655] (by decide +kernel) (by decide +kernel)
set_option maxRecDepth 20000 in
theorem gL_law_X4_acquire : GoodIn wsL_law (wsV RL 17 RX4 yX4_acquire wsX4_acquire) := goodIn_app (goodIn_of _ (by decide +kernel)) ggL_law_X4_acquire
set_option maxRecDepth 20000 in
theorem ggL_law_X3_use : GoodIn wsL_law wsX3_use := goodIn_r _ [171, 15, 172, 73, 173, 174, 175, 14, 176, 124, 105, 38, 37, 39, 30, 32, 90, 2, 91, 177, 87, 88, 89, 31, 92, 93, 94, 95, 96, 16, 97, 98, 99, 100, 101, 102, 103, 104, 33, 106, 107, 34, 35, 36, 178, 113, 114, 115, 634, 635, 636, 637, 638, 656, 657, 658, 659, 660, 661, 662, 663, 664, 665, 666, 667, 668, 669, 670] (by decide +kernel) (by decide +kernel)
set_option maxRecDepth 20000 in
theorem gL_law_X3_use : GoodIn wsL_law (wsV RL 18 RX3 yX3_use wsX3_use) := goodIn_app (goodIn_of _ (by decide +kernel)) ggL_law_X3_use
set_option maxRecDepth 20000 in
theorem ggL_law_X4_use : GoodIn wsL_law wsX4_use := goodIn_r _ [182, 183, 61, 184, 130, 185, 186, 187, 5, 188, 167, 189, 190, 191, 192, 193, 194, 195, 196, 150, 151, 152, 153, 154, 155, 156, 157, 158, 62, 639, 640, 641, 642, 643, 644, 645, 646, 647, 648, 649, 650, 651, 652, 653, 654, 655] (by decide +kernel) (by decide +kernel)
set_option maxRecDepth 20000 in
theorem gL_law_X4_use : GoodIn wsL_law (wsV RL 21 RX4 yX4_use wsX4_use) := goodIn_app (goodIn_of _ (by decide +kernel)) ggL_law_X4_use
set_option maxRecDepth 20000 in
theorem ggL_law_X3_release : GoodIn wsL_law wsX3_release := goodIn_r _ [200, 15, 172, 201, 173, 174, 175, 14, 176, 124, 105, 38, 37, 39, 30, 32, 90, 2, 91, 202, 203, 204, 205, 31, 206, 207, 208, 209, 33, 92, 93, 94, 95, 96, 16, 97, 98, 99, 100, 101, 102, 103, 104, 106, 107, 34, 35, 36, 210, 211, 212, 213, 634, 635, 636, 637, 638, 656, 657, 658, 659, 660, 661, 662, 663, 664, 665, 666, 667, 668, 669, 670] (by decide +kernel) (by decide +kernel)
set_option maxRecDepth 20000 in
theorem gL_law_X3_release : GoodIn wsL_law (wsV RL 22 RX3 yX3_release wsX3_release) := goodIn_app (goodIn_of _ (by decide +kernel)) ggL_law_X3_release
set_option maxRecDepth 20000 in
theorem ggL_law_X4_release : GoodIn wsL_law wsX4_release := goodIn_r _ [217, 183, 61, 184, 218, 185, 186, 187, 5, 188, 167, 189, 190, 191, 192, 193, 194, 195, 196, 150, 151, 152, 153, 219, 220, 221, 222, 154, 155, 156, 157, 158, 62, 223, 224, 225, 226, 639, 640, 641, 642, 643, 644, 645, 646, 647, 648, 649, 650, 651, 652, 653, 654, 655] (by decide +kernel) (by decide +kernel)
set_option maxRecDepth 20000 in
theorem gL_law_X4_release : GoodIn wsL_law (wsV RL 25 RX4 yX4_release wsX4_release) := goodIn_app (goodIn_of _ (by decide +kernel)) ggL_law_X4_release
set_option maxRecDepth 20000 in
theorem ggL_law_X3_follow : GoodIn wsL_law wsX3_follow := goodIn_r _ [230, 15, 172, 173, 174, 175, 14, 176, 124, 105, 38, 37, 39, 30, 32, 90, 2, 91, 116, 117, 118, 119, 120, 121, 122, 123, 634, 635, 636, 637, 638, 656, 657, 658, 659, 660, 661, 662, 663, 664, 665, 666, 667, 668, 669, 670] (by decide +kernel) (by decide +kernel)
set_option maxRecDepth 20000 in
theorem gL_law_X3_follow : GoodIn wsL_law (wsV RL 26 RX3 yX3_follow wsX3_follow) := goodIn_app (goodIn_of _ (by decide +kernel)) ggL_law_X3_follow
set_option maxRecDepth 20000 in
theorem ggL_law_X4_follow : GoodIn wsL_law wsX4_follow := goodIn_r _ [234, 183, 184, 185, 186, 187, 5, 188, 167, 61, 189, 190, 191, 192, 193, 194, 195, 196, 150, 151, 152, 153, 163, 164, 165, 166, 639, 640, 641, 642, 643, 644, 645, 646, 647, 648, 649, 650, 651, 652, 653, 654, 655] (by decide +kernel) (by decide +kernel)
set_option maxRecDepth 20000 in
theorem gL_law_X4_follow : GoodIn wsL_law (wsV RL 29 RX4 yX4_follow wsX4_follow) := goodIn_app (goodIn_of _ (by decide +kernel)) ggL_law_X4_follow
set_option maxRecDepth 20000 in
theorem ggL_law_X3_nameOf : GoodIn wsL_law wsX3_nameOf := goodIn_r _ [238, 15, 172, 239, 173, 174, 175, 14, 176, 124, 105, 38, 37, 39, 30, 32, 90, 2, 91, 634, 635, 636, 637, 638, 656, 657, 658, 659, 660, 661, 662, 663, 664, 665, 666, 667, 668, 669, 670] (by decide +kernel) (by decide +kernel)
set_option maxRecDepth 20000 in
theorem gL_law_X3_nameOf : GoodIn wsL_law (wsV RL 30 RX3 yX3_nameOf wsX3_nameOf) := goodIn_app (goodIn_of _ (by decide +kernel)) ggL_law_X3_nameOf
set_option maxRecDepth 20000 in
theorem ggL_law_X4_nameOf : GoodIn wsL_law wsX4_nameOf := goodIn_r _ [243, 183, 61, 184, 185, 186, 187, 5, 188, 167, 189, 190, 191, 192, 193, 194, 195, 196, 150, 151, 152, 153, 639, 640, 641, 642, 643, 644, 645, 646, 647, 648, 649, 650, 651, 652, 653, 654, 655] (by decide +kernel) (by decide +kernel)
set_option maxRecDepth 20000 in
theorem gL_law_X4_nameOf : GoodIn wsL_law (wsV RL 33 RX4 yX4_nameOf wsX4_nameOf) := goodIn_app (goodIn_of _ (by decide +kernel)) ggL_law_X4_nameOf
set_option maxRecDepth 20000 in
theorem ggL_law_X3_why : GoodIn wsL_law wsX3_why := goodIn_r _ [247, 15, 173, 174, 175, 14, 176, 124, 105, 38, 37, 39, 30, 32, 90, 2, 91, 634, 635, 636, 637, 638, 656, 657, 658, 659, 660, 661, 662, 663, 664, 665, 666, 667, 668, 669, 670] (by decide +kernel) (by decide +kernel)
set_option maxRecDepth 20000 in
theorem gL_law_X3_why : GoodIn wsL_law (wsV RL 34 RX3 yX3_why wsX3_why) := goodIn_app (goodIn_of _ (by decide +kernel)) ggL_law_X3_why
set_option maxRecDepth 20000 in
theorem ggL_law_X4_why : GoodIn wsL_law wsX4_why := goodIn_r _ [251, 185, 186, 187, 5, 188, 167, 61, 184, 189, 190, 191, 192, 193, 194, 195, 196, 150, 151, 152, 153, 639, 640, 641, 642, 643, 644, 645, 646, 647, 648, 649, 650, 651, 652, 653, 654, 655] (by decide +kernel) (by decide +kernel)
set_option maxRecDepth 20000 in
theorem gL_law_X4_why : GoodIn wsL_law (wsV RL 37 RX4 yX4_why wsX4_why) := goodIn_app (goodIn_of _ (by decide +kernel)) ggL_law_X4_why
set_option maxRecDepth 20000 in
theorem ggL_law_X3_put : GoodIn wsL_law wsX3_put := goodIn_r _ [255, 72, 15, 172, 73, 256, 257, 2, 258, 259, 90, 91, 173, 174, 175, 14, 176, 124, 105, 38, 37, 39, 30, 32, 177, 87, 88, 89, 31, 92, 93, 94, 95, 96, 16, 97, 98, 99, 100, 101, 102, 103, 104, 33, 106, 107, 34, 35, 36, 260, 261, 262, 263, 264, 265, 266, 112, 113, 114, 115, 267, 211, 212, 213, 634, 635, 636, 637, 638, 656, 657, 658, 659, 660, 661, 662, 663, 664, 665, 666, 667, 668, 669, 670] (by decide +kernel) (by decide +kernel)
set_option maxRecDepth 20000 in
theorem gL_law_X3_put : GoodIn wsL_law (wsV RL 38 RX3 yX3_put wsX3_put) := goodIn_app (goodIn_of _ (by decide +kernel)) ggL_law_X3_put
set_option maxRecDepth 20000 in
theorem ggL_law_X4_put : GoodIn wsL_law wsX4_put := goodIn_r _ [271, 129, 183, 61, 184, 130, 272, 273, 5, 274, 135, 136, 137, 185, 186, 187, 188, 167, 189, 190, 191, 192, 193, 194, 195, 196, 150, 151, 152, 153, 154, 155, 156, 157, 158, 62, 275, 276, 277, 278, 223, 224, 225, 226, 639, 640, 641, 642, 643, 644, 645, 646, 647, 648, 649, 650, 651, 652, 653, 654, 655] (by decide +kernel) (by decide +kernel)
set_option maxRecDepth 20000 in
theorem gL_law_X4_put : GoodIn wsL_law (wsV RL 42 RX4 yX4_put wsX4_put) := goodIn_app (goodIn_of _ (by decide +kernel)) ggL_law_X4_put
set_option maxRecDepth 20000 in
theorem ggL_law_X3_clear : GoodIn wsL_law wsX3_clear := goodIn_r _ [282, 72, 15, 283, 201, 256, 257, 2, 258, 259, 90, 91, 260, 261, 262, 92, 93, 94, 95, 96, 16, 97, 98, 99, 14, 100, 30, 101, 102, 103, 104, 31, 32, 33, 105, 106, 107, 34, 35, 36, 37, 38, 39, 284, 285, 286, 287, 267, 211, 212, 213, 634, 635, 636, 637, 638, 656, 657, 658, 659, 660, 661, 662, 663, 664, 665, 666, 667, 668, 669, 670] (by decide +kernel) (by decide +kernel)
set_option maxRecDepth 20000 in
theorem gL_law_X3_clear : GoodIn wsL_law (wsV RL 43 RX3 yX3_clear wsX3_clear) := goodIn_app (goodIn_of _ (by decide +kernel)) ggL_law_X3_clear
set_option maxRecDepth 20000 in
theorem ggL_law_X4_clear : GoodIn wsL_law wsX4_clear := goodIn_r _ [291, 129, 61, 218, 272, 273, 5, 274, 135, 136, 137, 154, 155, 156, 157, 158, 62, 223, 224, 225, 226, 639, 640, 641, 642, 643, 644, 645, 646, 647, 648, 649, 650, 651, 652, 653, 654, 655] (by decide +kernel) (by decide +kernel)
set_option maxRecDepth 20000 in
theorem gL_law_X4_clear : GoodIn wsL_law (wsV RL 47 RX4 yX4_clear wsX4_clear) := goodIn_app (goodIn_of _ (by decide +kernel)) ggL_law_X4_clear
set_option maxRecDepth 20000 in
theorem ggL_law_X3_cellOf : GoodIn wsL_law wsX3_cellOf := goodIn_r _ [295, 72, 15, 283, 296, 256, 257, 2, 258, 259, 90, 91, 260, 261, 262, 116, 117, 118, 14, 119, 105, 32, 120, 121, 122, 123, 124, 634, 635, 636, 637, 638, 656, 657, 658, 659, 660, 661, 662, 663, 664, 665, 666, 667, 668, 669, 670] (by decide +kernel) (by decide +kernel)
set_option maxRecDepth 20000 in
theorem gL_law_X3_cellOf : GoodIn wsL_law (wsV RL 48 RX3 yX3_cellOf wsX3_cellOf) := goodIn_app (goodIn_of _ (by decide +kernel)) ggL_law_X3_cellOf
set_option maxRecDepth 20000 in
theorem ggL_law_X4_cellOf : GoodIn wsL_law wsX4_cellOf := goodIn_r _ [300, 129, 61, 301, 272, 273, 5, 274, 135, 136, 137, 163, 164, 165, 166, 167, 639, 640, 641, 642, 643, 644, 645, 646, 647, 648, 649, 650, 651, 652, 653, 654, 655] (by decide +kernel) (by decide +kernel)
set_option maxRecDepth 20000 in
theorem gL_law_X4_cellOf : GoodIn wsL_law (wsV RL 51 RX4 yX4_cellOf wsX4_cellOf) := goodIn_app (goodIn_of _ (by decide +kernel)) ggL_law_X4_cellOf
set_option maxRecDepth 20000 in
theorem ggL_law_X3_compact : GoodIn wsL_law wsX3_compact := goodIn_r _ [305, 72, 15, 73, 259, 90, 2, 91, 306, 307, 308, 14, 309, 105, 92, 93, 94, 95, 96, 16, 97, 98, 99, 100, 30, 101, 102, 103, 104, 31, 32, 33, 106, 107, 34, 35, 36, 37, 38, 39, 310, 311, 312, 313, 314, 315, 316, 317, 318, 319, 320, 321, 322, 323, 324, 325, 326, 327, 328, 329, 330, 331, 332, 40, 41, 42, 43, 44, 45, 333, 334, 335, 336, 634, 635, 636, 637, 638, 656, 657, 658, 659, 660, 661, 662, 663, 664, 665, 666, 667, 668, 669, 670] (by decide +kernel) (by decide +kernel)
set_option maxRecDepth 20000 in
theorem gL_law_X3_compact : GoodIn wsL_law (wsV RL 52 RX3 yX3_compact wsX3_compact) := goodIn_app (goodIn_of _ (by decide +kernel)) ggL_law_X3_compact
set_option maxRecDepth 20000 in
theorem ggL_law_X4_compact : GoodIn wsL_law wsX4_compact := goodIn_r _ [340, 129, 61, 130, 135, 136, 5, 137, 154, 155, 156, 157, 158, 62, 341, 342, 343, 344, 66, 345, 65, 346, 347, 348, 349, 150, 151, 152, 153, 350, 351, 352, 353, 354, 355, 356, 357, 639, 640, 641, 642, 643, 644, 645, 646, 647, 648, 649, 650, 651, 652, 653, 654, 655] (by decide +kernel) (by decide +kernel)
set_option maxRecDepth 20000 in
theorem gL_law_X4_compact : GoodIn wsL_law (wsV RL 55 RX4 yX4_compact wsX4_compact) := goodIn_app (goodIn_of _ (by decide +kernel)) ggL_law_X4_compact
set_option maxRecDepth 20000 in
theorem ggL_law_X3_numberOf : GoodIn wsL_law wsX3_numberOf := goodIn_r _ [361, 72, 15, 239, 296, 362, 363, 259, 90, 2, 91, 364, 207, 208, 14, 209, 33, 116, 117, 118, 119, 105, 32, 120, 121, 122, 123, 124, 634, 635, 636, 637, 638, 656, 657, 658, 659, 660, 661, 662, 663, 664, 665, 666, 667, 668, 669, 670] (by decide +kernel) (by decide +kernel)
set_option maxRecDepth 20000 in
theorem gL_law_X3_numberOf : GoodIn wsL_law (wsV RL 56 RX3 yX3_numberOf wsX3_numberOf) := goodIn_app (goodIn_of _ (by decide +kernel)) ggL_law_X3_numberOf
set_option maxRecDepth 20000 in
theorem ggL_law_X4_numberOf : GoodIn wsL_law wsX4_numberOf := goodIn_r _ [368, 129, 61, 301, 135, 136, 5, 137, 150, 151, 152, 153, 219, 220, 221, 222, 163, 164, 165, 166, 167, 639, 640, 641, 642, 643, 644, 645, 646, 647, 648, 649, 650, 651, 652, 653, 654, 655] (by decide +kernel) (by decide +kernel)
set_option maxRecDepth 20000 in
theorem gL_law_X4_numberOf : GoodIn wsL_law (wsV RL 59 RX4 yX4_numberOf wsX4_numberOf) := goodIn_app (goodIn_of _ (by decide +kernel)) ggL_law_X4_numberOf
set_option maxRecDepth 20000 in
theorem ggL_law_X3_find : GoodIn wsL_law wsX3_find := goodIn_r _ [372, 72, 15, 296, 74, 75, 2, 76, 77, 373, 83, 84, 14, 85, 30, 634, 635, 636, 637, 638, 656, 657, 658, 659, 660, 661, 662, 663, 664, 665, 666, 667, 668, 669, 670] (by decide +kernel) (by decide +kernel)
set_option maxRecDepth 20000 in
theorem gL_law_X3_find : GoodIn wsL_law (wsV RL 60 RX3 yX3_find wsX3_find) := goodIn_app (goodIn_of _ (by decide +kernel)) ggL_law_X3_find
set_option maxRecDepth 20000 in
theorem ggL_law_X4_find : GoodIn wsL_law wsX4_find := goodIn_r _ [377, 129, 301, 131, 132, 5, 133, 134, 135, 136, 137, 142, 143, 144, 145, 61, 639, 640, 641, 642, 643, 644, 645, 646, 647, 648, 649, 650, 651, 652, 653, 654, 655] (by decide +kernel) (by decide +kernel)
set_option maxRecDepth 20000 in
theorem gL_law_X4_find : GoodIn wsL_law (wsV RL 63 RX4 yX4_find wsX4_find) := goodIn_app (goodIn_of _ (by decide +kernel)) ggL_law_X4_find
set_option maxRecDepth 20000 in
theorem ggL_law_X3_nameAt : GoodIn wsL_law wsX3_nameAt := goodIn_r _ [381, 72, 15, 239, 296, 259, 90, 2, 91, 382, 315, 316, 14, 317, 30, 318, 319, 320, 321, 31, 322, 323, 324, 634, 635, 636, 637, 638, 656, 657, 658, 659, 660, 661, 662, 663, 664, 665, 666, 667, 668, 669, 670] (by decide +kernel) (by decide +kernel)
set_option maxRecDepth 20000 in
theorem gL_law_X3_nameAt : GoodIn wsL_law (wsV RL 64 RX3 yX3_nameAt wsX3_nameAt) := goodIn_app (goodIn_of _ (by decide +kernel)) ggL_law_X3_nameAt
set_option maxRecDepth 20000 in
theorem ggL_law_X4_nameAt : GoodIn wsL_law wsX4_nameAt := goodIn_r _ [386, 129, 345, 61, 65, 301, 135, 136, 5, 137, 346, 347, 348, 349, 150, 151, 152, 153, 350, 351, 352, 353, 354, 355, 356, 357, 639, 640, 641, 642, 643, 644, 645, 646, 647, 648, 649, 650, 651, 652, 653, 654, 655] (by decide +kernel) (by decide +kernel)
set_option maxRecDepth 20000 in
theorem gL_law_X4_nameAt : GoodIn wsL_law (wsV RL 67 RX4 yX4_nameAt wsX4_nameAt) := goodIn_app (goodIn_of _ (by decide +kernel)) ggL_law_X4_nameAt
set_option maxRecDepth 20000 in
theorem ggL_law_X3_beginning : GoodIn wsL_law wsX3_beginning := goodIn_r _ [390, 72, 15, 239, 74, 75, 2, 76, 77, 391, 392, 393, 634, 635, 636, 637, 638, 656, 657, 658, 659, 660, 661, 662, 663, 664, 665, 666, 667, 668, 669, 670] (by decide +kernel) (by decide +kernel)
set_option maxRecDepth 20000 in
theorem gL_law_X3_beginning : GoodIn wsL_law (wsV RL 68 RX3 yX3_beginning wsX3_beginning) := goodIn_app (goodIn_of _ (by decide +kernel)) ggL_law_X3_beginning
set_option maxRecDepth 20000 in
theorem ggL_law_X4_beginning : GoodIn wsL_law wsX4_beginning := goodIn_r _ [397, 129, 61, 131, 132, 5, 133, 134, 135, 136, 137, 150, 151, 152, 153, 398, 399, 400, 639, 640, 641, 642, 643, 644, 645, 646, 647, 648, 649, 650, 651, 652, 653, 654, 655] (by decide +kernel) (by decide +kernel)
set_option maxRecDepth 20000 in
theorem gL_law_X4_beginning : GoodIn wsL_law (wsV RL 71 RX4 yX4_beginning wsX4_beginning) := goodIn_app (goodIn_of _ (by decide +kernel)) ggL_law_X4_beginning
set_option maxRecDepth 20000 in
theorem ggL_law_X3_behind : GoodIn wsL_law wsX3_behind := goodIn_r _ [404, 72, 15, 239, 296, 74, 75, 2, 76, 77, 405, 322, 323, 324, 634, 635, 636, 637, 638, 656, 657, 658, 659, 660, 661, 662, 663, 664, 665, 666, 667, 668, 669, 670] (by decide +kernel) (by decide +kernel)
set_option maxRecDepth 20000 in
theorem gL_law_X3_behind : GoodIn wsL_law (wsV RL 72 RX3 yX3_behind wsX3_behind) := goodIn_app (goodIn_of _ (by decide +kernel)) ggL_law_X3_behind
set_option maxRecDepth 20000 in
theorem ggL_law_X4_behind : GoodIn wsL_law wsX4_behind := goodIn_r _ [409, 129, 345, 61, 65, 301, 131, 132, 5, 133, 134, 135, 136, 137, 346, 347, 348, 349, 150, 151, 152, 153, 350, 351, 352, 353, 354, 355, 356, 357, 639, 640, 641, 642, 643, 644, 645, 646, 647, 648, 649, 650, 651, 652, 653, 654, 655] (by decide +kernel) (by decide +kernel)
set_option maxRecDepth 20000 in
theorem gL_law_X4_behind : GoodIn wsL_law (wsV RL 75 RX4 yX4_behind wsX4_behind) := goodIn_app (goodIn_of _ (by decide +kernel)) ggL_law_X4_behind
set_option maxRecDepth 20000 in
theorem ggL_law_X3_wouldBe : GoodIn wsL_law wsX3_wouldBe := goodIn_r _ [413, 72, 15, 239, 296, 259, 90, 2, 91, 382, 315, 316, 14, 317, 30, 318, 319, 320, 321, 31, 322, 323, 324, 634, 635, 636, 637, 638, 656, 657, 658, 659, 660, 661, 662, 663, 664, 665, 666, 667, 668, 669, 670] (by decide +kernel) (by decide +kernel)
set_option maxRecDepth 20000 in
theorem gL_law_X3_wouldBe : GoodIn wsL_law (wsV RL 76 RX3 yX3_wouldBe wsX3_wouldBe) := goodIn_app (goodIn_of _ (by decide +kernel)) ggL_law_X3_wouldBe
set_option maxRecDepth 20000 in
theorem ggL_law_X4_wouldBe : GoodIn wsL_law wsX4_wouldBe := goodIn_r _ [417, 129, 345, 65, 301, 135, 136, 5, 137, 346, 347, 348, 349, 150, 151, 152, 153, 61, 350, 351, 352, 353, 354, 355, 356, 357, 639, 640, 641, 642, 643, 644, 645, 646, 647, 648, 649, 650, 651, 652, 653, 654, 655] (by decide +kernel) (by decide +kernel)
set_option maxRecDepth 20000 in
theorem gL_law_X4_wouldBe : GoodIn wsL_law (wsV RL 79 RX4 yX4_wouldBe wsX4_wouldBe) := goodIn_app (goodIn_of _ (by decide +kernel)) ggL_law_X4_wouldBe
set_option maxRecDepth 20000 in
theorem ggL_law_X3_compaction : GoodIn wsL_law wsX3_compaction := goodIn_r _ [421, 72, 15, 422, 296, 423, 424, 425, 259, 90, 2, 91, 426, 427, 428, 14, 429, 38, 37, 121, 122, 123, 124, 430, 174, 175, 176, 105, 39, 30, 32, 634, 635, 636, 637, 638, 656, 657, 658, 659, 660, 661, 662, 663, 664, 665, 666, 667, 668, 669, 670] (by decide +kernel) (by decide +kernel)
set_option maxRecDepth 20000 in
theorem gL_law_X3_compaction : GoodIn wsL_law (wsV RL 80 RX3 yX3_compaction wsX3_compaction) := goodIn_app (goodIn_of _ (by decide +kernel)) ggL_law_X3_compaction
set_option maxRecDepth 20000 in
theorem ggL_law_X4_compaction : GoodIn wsL_law wsX4_compaction := goodIn_r _ [434, 129, 301, 135, 136, 5, 137, 189, 190, 191, 192, 61, 193, 194, 195, 196, 435, 436, 437, 438, 167, 185, 186, 187, 188, 184, 150, 151, 152, 153, 639, 640, 641, 642, 643, 644, 645, 646, 647, 648, 649, 650, 651, 652, 653, 654, 655] (by decide +kernel) (by decide +kernel)
set_option maxRecDepth 20000 in
theorem gL_law_X4_compaction : GoodIn wsL_law (wsV RL 83 RX4 yX4_compaction wsX4_compaction) := goodIn_app (goodIn_of _ (by decide +kernel)) ggL_law_X4_compaction
set_option maxRecDepth 20000 in
theorem ggL_law_X3_count : GoodIn wsL_law wsX3_count := goodIn_r _ [442, 15, 283, 422, 443, 444, 445, 446, 447, 448, 96, 20, 449, 72, 450, 326, 327, 14, 328, 30, 451, 452, 453, 454, 31, 364, 207, 208, 209, 33, 455, 456, 457, 458, 634, 635, 636, 637, 638, 656, 657, 658, 659, 660, 661, 662, 663, 664, 665, 666, 667, 668, 669, 670, 671, 672] (by decide +kernel) (by decide +kernel)
set_option maxRecDepth 20000 in
theorem gL_law_X3_count : GoodIn wsL_law (wsV RL 84 RX3 yX3_count wsX3_count) := goodIn_app (goodIn_of _ (by decide +kernel)) ggL_law_X3_count
set_option maxRecDepth 20000 in
theorem ggL_law_X4_count : GoodIn wsL_law wsX4_count := goodIn_r _ [462, 61, 158, 463, 129, 464, 465, 466, 5, 467, 150, 151, 152, 153, 468, 469, 470, 471, 219, 220, 221, 222, 472, 473, 474, 475, 189, 190, 191, 192, 639, 640, 641, 642, 643, 644, 645, 646, 647, 648, 649, 650, 651, 652, 653, 654, 655] (by decide +kernel) (by decide +kernel)
set_option maxRecDepth 20000 in
theorem gL_law_X4_count : GoodIn wsL_law (wsV RL 87 RX4 yX4_count wsX4_count) := goodIn_app (goodIn_of _ (by decide +kernel)) ggL_law_X4_count
set_option maxRecDepth 20000 in
theorem ggL_law_X3_undo : GoodIn wsL_law wsX3_undo := goodIn_r _ [479, 96, 201, 15, 16, 97, 98, 99, 14, 100, 30, 101, 102, 103, 104, 31, 32, 33, 105, 106, 107, 34, 35, 36, 37, 38, 39, 634, 635, 636, 637, 638, 656, 657, 658, 659, 660, 661, 662, 663, 664, 665, 666, 667, 668, 669, 670] (by decide +kernel) (by decide +kernel)
set_option maxRecDepth 20000 in
theorem gL_law_X3_undo : GoodIn wsL_law (wsV RL 88 RX3 yX3_undo wsX3_undo) := goodIn_app (goodIn_of _ (by decide +kernel)) ggL_law_X3_undo
set_option maxRecDepth 20000 in
theorem ggL_law_X4_undo : GoodIn wsL_law wsX4_undo := goodIn_r _ [483, 158, 218, 61, 62, 639, 640, 641, 642, 643, 644, 645, 646, 647, 648, 649, 650, 651, 652, 653, 654, 655] (by decide +kernel) (by decide +kernel)
set_option maxRecDepth 20000 in
theorem gL_law_X4_undo : GoodIn wsL_law (wsV RL 92 RX4 yX4_undo wsX4_undo) := goodIn_app (goodIn_of _ (by decide +kernel)) ggL_law_X4_undo
set_option maxRecDepth 20000 in
theorem ggL_law_X3_type : GoodIn wsL_law wsX3_type := goodIn_r _ [487, 72, 20, 449, 73, 488, 489, 490, 19, 491, 492, 50, 90, 2, 91, 634, 635, 636, 637, 638, 671, 672] (by decide +kernel) (by decide +kernel)
set_option maxRecDepth 20000 in
theorem gL_law_X3_type : GoodIn wsL_law (wsV RL 93 RX3 yX3_type wsX3_type) := goodIn_app (goodIn_of _ (by decide +kernel)) ggL_law_X3_type
set_option maxRecDepth 20000 in
theorem ggL_law_X4_type : GoodIn wsL_law wsX4_type := goodIn_r _ [496, 129, 463, 130, 64, 135, 136, 5, 137, 639, 640, 641, 642, 643, 644, 645, 646, 647, 648, 649, 650, 651, 652, 653, 654, 655] (by decide +kernel) (by decide +kernel)
set_option maxRecDepth 20000 in
theorem gL_law_X4_type : GoodIn wsL_law (wsV RL 96 RX4 yX4_type wsX4_type) := goodIn_app (goodIn_of _ (by decide +kernel)) ggL_law_X4_type
set_option maxRecDepth 20000 in
theorem ggL_law_X3_clearText : GoodIn wsL_law wsX3_clearText := goodIn_r _ [500, 20, 449, 634, 635, 636, 637, 638, 671, 672] (by decide +kernel) (by decide +kernel)
set_option maxRecDepth 20000 in
theorem gL_law_X3_clearText : GoodIn wsL_law (wsV RL 97 RX3 yX3_clearText wsX3_clearText) := goodIn_app (goodIn_of _ (by decide +kernel)) ggL_law_X3_clearText
set_option maxRecDepth 20000 in
theorem ggL_law_X4_clearText : GoodIn wsL_law wsX4_clearText := goodIn_r _ [504, 463, 639, 640, 641, 642, 643, 644, 645, 646, 647, 648, 649, 650, 651, 652, 653, 654, 655] (by decide +kernel) (by decide +kernel)
set_option maxRecDepth 20000 in
theorem gL_law_X4_clearText : GoodIn wsL_law (wsV RL 100 RX4 yX4_clearText wsX4_clearText) := goodIn_app (goodIn_of _ (by decide +kernel)) ggL_law_X4_clearText
set_option maxRecDepth 20000 in
theorem ggL_law_X3_fault : GoodIn wsL_law wsX3_fault := goodIn_r _ [508, 72, 24, 15, 20, 509, 296, 510, 511, 259, 90, 2, 91, 512, 513, 514, 23, 515, 55, 516, 517, 518, 519, 520, 521, 98, 99, 14, 100, 30, 101, 102, 103, 104, 31, 32, 33, 105, 106, 107, 34, 35, 36, 37, 38, 39, 522, 523, 524, 525, 526, 527, 528, 529, 530, 531, 532, 533, 534, 19, 535, 492, 50, 536, 537, 538, 539, 540, 541, 542, 543, 544, 545, 546, 547, 548, 549, 550, 551, 552, 553, 554, 555, 556, 557, 558, 559, 560, 561, 83, 84, 85, 562, 563, 564, 565, 566, 79, 80, 81, 82, 86, 87, 88, 89, 567, 203, 204, 205, 206, 207, 208, 209, 568, 569, 307, 308, 309, 570, 109, 110, 111, 112, 113, 114, 115, 571, 211, 212, 213, 261, 262, 572, 264, 265, 266, 267, 573, 311, 312, 313, 314, 315, 316, 317, 318, 319, 320, 321, 322, 323, 324, 325, 326, 327, 328, 329, 330, 331, 332, 40, 41, 42, 43, 44, 45, 333, 334, 335, 336, 634, 635, 636, 637, 638, 673, 674, 675, 676, 677, 678, 679, 680, 681, 682, 683, 684, 671, 672, 656, 657, 658, 659, 660, 661, 662, 663, 664, 665, 666, 667, 668, 669, 670] (by decide +kernel) (by decide +kernel)
set_option maxRecDepth 20000 in
theorem gL_law_X3_fault : GoodIn wsL_law (wsV RL 101 RX3 yX3_fault wsX3_fault) := goodIn_app (goodIn_of _ (by decide +kernel)) ggL_law_X3_fault
set_option maxRecDepth 20000 in
theorem ggL_law_X4_fault : GoodIn wsL_law wsX4_fault := goodIn_r _ [577, 129, 578, 301, 579, 580, 135, 136, 5, 137, 581, 582, 583, 584, 63, 61, 585, 586, 587, 588, 589, 463, 590, 591, 592, 593, 64, 594, 595, 596, 597, 598, 599, 600, 601, 67, 602, 603, 604, 605, 606, 607, 608, 609, 610, 611, 612, 613, 614, 615, 616, 617, 618, 619, 142, 143, 144, 145, 341, 342, 343, 344, 66, 345, 65, 346, 347, 348, 349, 150, 151, 152, 153, 350, 351, 352, 353, 354, 355, 356, 357, 138, 139, 140, 141, 146, 147, 148, 149, 159, 160, 161, 162, 163, 164, 165, 166, 167, 219, 220, 221, 222, 223, 224, 225, 226, 275, 276, 277, 278, 620, 621, 622, 623, 639, 640, 641, 642, 643, 644, 645, 646, 647, 648, 649, 650, 651, 652, 653, 654, 655] (by decide +kernel) (by decide +kernel)
set_option maxRecDepth 20000 in
theorem gL_law_X4_fault : GoodIn wsL_law (wsV RL 104 RX4 yX4_fault wsX4_fault) := goodIn_app (goodIn_of _ (by decide +kernel)) ggL_law_X4_fault
set_option maxRecDepth 20000 in
theorem ggL_law_X3_play : GoodIn wsL_law wsX3_play := goodIn_r _ [627, 24, 15, 20, 509, 201, 628, 629, 512, 513, 514, 23, 515, 55, 516, 517, 518, 519, 520, 521, 98, 99, 14, 100, 30, 101, 102, 103, 104, 31, 32, 33, 105, 106, 107, 34, 35, 36, 37, 38, 39, 522, 523, 524, 525, 526, 527, 528, 529, 530, 531, 532, 533, 534, 19, 535, 492, 50, 90, 2, 91, 536, 537, 538, 539, 540, 541, 542, 543, 544, 545, 546, 547, 548, 549, 550, 551, 552, 553, 554, 555, 556, 557, 558, 559, 560, 561, 83, 84, 85, 562, 563, 564, 565, 566, 79, 80, 81, 82, 86, 87, 88, 89, 567, 203, 204, 205, 206, 207, 208, 209, 568, 569, 307, 308, 309, 570, 109, 110, 111, 112, 113, 114, 115, 571, 211, 212, 213, 261, 262, 572, 264, 265, 266, 267, 573, 311, 312, 313, 314, 315, 316, 317, 318, 319, 320, 321, 322, 323, 324, 325, 326, 327, 328, 329, 330, 331, 332, 40, 41, 42, 43, 44, 45, 333, 334, 335, 336, 92, 93, 94, 95, 96, 16, 97, 634, 635, 636, 637, 638, 673, 674, 675, 676, 677, 678, 679, 680, 681, 682, 683, 684, 671, 672, 656, 657, 658, 659, 660, 661, 662, 663, 664, 665, 666, 667, 668, 669, 670] (by decide +kernel) (by decide +kernel)
set_option maxRecDepth 20000 in
theorem gL_law_X3_play : GoodIn wsL_law (wsV RL 105 RX3 yX3_play wsX3_play) := goodIn_app (goodIn_of _ (by decide +kernel)) ggL_law_X3_play
set_option maxRecDepth 20000 in
theorem ggL_law_X4_play : GoodIn wsL_law wsX4_play := goodIn_r _ [633, 578, 218, 581, 582, 583, 5, 584, 63, 61, 585, 586, 587, 588, 589, 463, 579, 580, 590, 591, 592, 593, 64, 594, 595, 596, 597, 598, 599, 600, 601, 67, 135, 136, 137, 602, 603, 604, 605, 606, 607, 608, 609, 610, 611, 612, 613, 614, 615, 616, 617, 618, 619, 142, 143, 144, 145, 341, 342, 343, 344, 66, 345, 65, 346, 347, 348, 349, 150, 151, 152, 153, 350, 351, 352, 353, 354, 355, 356, 357, 138, 139, 140, 141, 146, 147, 148, 149, 159, 160, 161, 162, 163, 164, 165, 166, 167, 219, 220, 221, 222, 223, 224, 225, 226, 275, 276, 277, 278, 620, 621, 622, 623, 154, 155, 156, 157, 158, 62, 639, 640, 641, 642, 643, 644, 645, 646, 647, 648, 649, 650, 651, 652, 653, 654, 655] (by decide +kernel) (by decide +kernel)
set_option maxRecDepth 20000 in
theorem gL_law_X4_play : GoodIn wsL_law (wsV RL 108 RX4 yX4_play wsX4_play) := goodIn_app (goodIn_of _ (by decide +kernel)) ggL_law_X4_play
theorem dL_law_0 : decode cL_law 0 = .ok (.new 7, 3) := by decide +kernel
theorem dL_law_3 : decode cL_law 3 = .ok (.dup, 1) := by decide +kernel
theorem dL_law_4 : decode cL_law 4 = .ok (.invokespecial 9, 3) := by decide +kernel
theorem dL_law_7 : decode cL_law 7 = .ok (.astore_n 1, 1) := by decide +kernel
theorem dL_law_8 : decode cL_law 8 = .ok (.new 10, 3) := by decide +kernel
theorem dL_law_11 : decode cL_law 11 = .ok (.dup, 1) := by decide +kernel
theorem dL_law_12 : decode cL_law 12 = .ok (.invokespecial 12, 3) := by decide +kernel
theorem dL_law_15 : decode cL_law 15 = .ok (.astore_n 2, 1) := by decide +kernel
theorem dL_law_16 : decode cL_law 16 = .ok (.iconst 0, 1) := by decide +kernel
theorem dL_law_17 : decode cL_law 17 = .ok (.istore_n 3, 1) := by decide +kernel
theorem dL_law_18 : decode cL_law 18 = .ok (.iload_n 3, 1) := by decide +kernel
theorem dL_law_19 : decode cL_law 19 = .ok (.aload_n 0, 1) := by decide +kernel
theorem dL_law_20 : decode cL_law 20 = .ok (.arraylength, 1) := by decide +kernel
theorem dL_law_21 : decode cL_law 21 = .ok (.iconst 4, 1) := by decide +kernel
theorem dL_law_22 : decode cL_law 22 = .ok (.isub, 1) := by decide +kernel
theorem dL_law_23 : decode cL_law 23 = .ok (.if_icmp .gt 702, 3) := by decide +kernel
theorem dL_law_26 : decode cL_law 26 = .ok (.aload_n 0, 1) := by decide +kernel
theorem dL_law_27 : decode cL_law 27 = .ok (.iload_n 3, 1) := by decide +kernel
theorem dL_law_28 : decode cL_law 28 = .ok (.iaload, 1) := by decide +kernel
theorem dL_law_29 : decode cL_law 29 = .ok (.bipush 31, 2) := by decide +kernel
theorem dL_law_31 : decode cL_law 31 = .ok (.iand, 1) := by decide +kernel
theorem dL_law_32 : decode cL_law 32 = .ok (.tableswitch 687 0 22 #[108, 131, 154, 177, 200, 223, 246, 289, 322, 355, 378, 411, 434, 467, 490, 513, 546, 579, 602, 615, 638, 651, 674], 108) := by decide +kernel
theorem dL_law_140 : decode cL_law 140 = .ok (.aload_n 1, 1) := by decide +kernel
theorem dL_law_141 : decode cL_law 141 = .ok (.aload_n 0, 1) := by decide +kernel
theorem dL_law_142 : decode cL_law 142 = .ok (.iload_n 3, 1) := by decide +kernel
theorem dL_law_143 : decode cL_law 143 = .ok (.iconst 1, 1) := by decide +kernel
theorem dL_law_144 : decode cL_law 144 = .ok (.iadd, 1) := by decide +kernel
theorem dL_law_145 : decode cL_law 145 = .ok (.iaload, 1) := by decide +kernel
theorem dL_law_146 : decode cL_law 146 = .ok (.invokevirtual 13, 3) := by decide +kernel
theorem dL_law_149 : decode cL_law 149 = .ok (.aload_n 2, 1) := by decide +kernel
theorem dL_law_150 : decode cL_law 150 = .ok (.aload_n 0, 1) := by decide +kernel
theorem dL_law_151 : decode cL_law 151 = .ok (.iload_n 3, 1) := by decide +kernel
theorem dL_law_152 : decode cL_law 152 = .ok (.iconst 1, 1) := by decide +kernel
theorem dL_law_153 : decode cL_law 153 = .ok (.iadd, 1) := by decide +kernel
theorem dL_law_154 : decode cL_law 154 = .ok (.iaload, 1) := by decide +kernel
theorem dL_law_155 : decode cL_law 155 = .ok (.invokevirtual 17, 3) := by decide +kernel
theorem dL_law_158 : decode cL_law 158 = .ok (.if_icmp .eq 561, 3) := by decide +kernel
theorem dL_law_161 : decode cL_law 161 = .ok (.iconst 0, 1) := by decide +kernel
theorem dL_law_162 : decode cL_law 162 = .ok (.ireturn, 1) := by decide +kernel
theorem dL_law_163 : decode cL_law 163 = .ok (.aload_n 1, 1) := by decide +kernel
theorem dL_law_164 : decode cL_law 164 = .ok (.aload_n 0, 1) := by decide +kernel
theorem dL_law_165 : decode cL_law 165 = .ok (.iload_n 3, 1) := by decide +kernel
theorem dL_law_166 : decode cL_law 166 = .ok (.iconst 1, 1) := by decide +kernel
theorem dL_law_167 : decode cL_law 167 = .ok (.iadd, 1) := by decide +kernel
theorem dL_law_168 : decode cL_law 168 = .ok (.iaload, 1) := by decide +kernel
theorem dL_law_169 : decode cL_law 169 = .ok (.invokevirtual 18, 3) := by decide +kernel
theorem dL_law_172 : decode cL_law 172 = .ok (.aload_n 2, 1) := by decide +kernel
theorem dL_law_173 : decode cL_law 173 = .ok (.aload_n 0, 1) := by decide +kernel
theorem dL_law_174 : decode cL_law 174 = .ok (.iload_n 3, 1) := by decide +kernel
theorem dL_law_175 : decode cL_law 175 = .ok (.iconst 1, 1) := by decide +kernel
theorem dL_law_176 : decode cL_law 176 = .ok (.iadd, 1) := by decide +kernel
theorem dL_law_177 : decode cL_law 177 = .ok (.iaload, 1) := by decide +kernel
theorem dL_law_178 : decode cL_law 178 = .ok (.invokevirtual 21, 3) := by decide +kernel
theorem dL_law_181 : decode cL_law 181 = .ok (.if_icmp .eq 538, 3) := by decide +kernel
theorem dL_law_184 : decode cL_law 184 = .ok (.iconst 0, 1) := by decide +kernel
theorem dL_law_185 : decode cL_law 185 = .ok (.ireturn, 1) := by decide +kernel
theorem dL_law_186 : decode cL_law 186 = .ok (.aload_n 1, 1) := by decide +kernel
theorem dL_law_187 : decode cL_law 187 = .ok (.aload_n 0, 1) := by decide +kernel
theorem dL_law_188 : decode cL_law 188 = .ok (.iload_n 3, 1) := by decide +kernel
theorem dL_law_189 : decode cL_law 189 = .ok (.iconst 1, 1) := by decide +kernel
theorem dL_law_190 : decode cL_law 190 = .ok (.iadd, 1) := by decide +kernel
theorem dL_law_191 : decode cL_law 191 = .ok (.iaload, 1) := by decide +kernel
theorem dL_law_192 : decode cL_law 192 = .ok (.invokevirtual 22, 3) := by decide +kernel
theorem dL_law_195 : decode cL_law 195 = .ok (.aload_n 2, 1) := by decide +kernel
theorem dL_law_196 : decode cL_law 196 = .ok (.aload_n 0, 1) := by decide +kernel
theorem dL_law_197 : decode cL_law 197 = .ok (.iload_n 3, 1) := by decide +kernel
theorem dL_law_198 : decode cL_law 198 = .ok (.iconst 1, 1) := by decide +kernel
theorem dL_law_199 : decode cL_law 199 = .ok (.iadd, 1) := by decide +kernel
theorem dL_law_200 : decode cL_law 200 = .ok (.iaload, 1) := by decide +kernel
theorem dL_law_201 : decode cL_law 201 = .ok (.invokevirtual 25, 3) := by decide +kernel
theorem dL_law_204 : decode cL_law 204 = .ok (.if_icmp .eq 515, 3) := by decide +kernel
theorem dL_law_207 : decode cL_law 207 = .ok (.iconst 0, 1) := by decide +kernel
theorem dL_law_208 : decode cL_law 208 = .ok (.ireturn, 1) := by decide +kernel
theorem dL_law_209 : decode cL_law 209 = .ok (.aload_n 1, 1) := by decide +kernel
theorem dL_law_210 : decode cL_law 210 = .ok (.aload_n 0, 1) := by decide +kernel
theorem dL_law_211 : decode cL_law 211 = .ok (.iload_n 3, 1) := by decide +kernel
theorem dL_law_212 : decode cL_law 212 = .ok (.iconst 1, 1) := by decide +kernel
theorem dL_law_213 : decode cL_law 213 = .ok (.iadd, 1) := by decide +kernel
theorem dL_law_214 : decode cL_law 214 = .ok (.iaload, 1) := by decide +kernel
theorem dL_law_215 : decode cL_law 215 = .ok (.invokevirtual 26, 3) := by decide +kernel
theorem dL_law_218 : decode cL_law 218 = .ok (.aload_n 2, 1) := by decide +kernel
theorem dL_law_219 : decode cL_law 219 = .ok (.aload_n 0, 1) := by decide +kernel
theorem dL_law_220 : decode cL_law 220 = .ok (.iload_n 3, 1) := by decide +kernel
theorem dL_law_221 : decode cL_law 221 = .ok (.iconst 1, 1) := by decide +kernel
theorem dL_law_222 : decode cL_law 222 = .ok (.iadd, 1) := by decide +kernel
theorem dL_law_223 : decode cL_law 223 = .ok (.iaload, 1) := by decide +kernel
theorem dL_law_224 : decode cL_law 224 = .ok (.invokevirtual 29, 3) := by decide +kernel
theorem dL_law_227 : decode cL_law 227 = .ok (.if_icmp .eq 492, 3) := by decide +kernel
theorem dL_law_230 : decode cL_law 230 = .ok (.iconst 0, 1) := by decide +kernel
theorem dL_law_231 : decode cL_law 231 = .ok (.ireturn, 1) := by decide +kernel
theorem dL_law_232 : decode cL_law 232 = .ok (.aload_n 1, 1) := by decide +kernel
theorem dL_law_233 : decode cL_law 233 = .ok (.aload_n 0, 1) := by decide +kernel
theorem dL_law_234 : decode cL_law 234 = .ok (.iload_n 3, 1) := by decide +kernel
theorem dL_law_235 : decode cL_law 235 = .ok (.iconst 1, 1) := by decide +kernel
theorem dL_law_236 : decode cL_law 236 = .ok (.iadd, 1) := by decide +kernel
theorem dL_law_237 : decode cL_law 237 = .ok (.iaload, 1) := by decide +kernel
theorem dL_law_238 : decode cL_law 238 = .ok (.invokevirtual 30, 3) := by decide +kernel
theorem dL_law_241 : decode cL_law 241 = .ok (.aload_n 2, 1) := by decide +kernel
theorem dL_law_242 : decode cL_law 242 = .ok (.aload_n 0, 1) := by decide +kernel
theorem dL_law_243 : decode cL_law 243 = .ok (.iload_n 3, 1) := by decide +kernel
theorem dL_law_244 : decode cL_law 244 = .ok (.iconst 1, 1) := by decide +kernel
theorem dL_law_245 : decode cL_law 245 = .ok (.iadd, 1) := by decide +kernel
theorem dL_law_246 : decode cL_law 246 = .ok (.iaload, 1) := by decide +kernel
theorem dL_law_247 : decode cL_law 247 = .ok (.invokevirtual 33, 3) := by decide +kernel
theorem dL_law_250 : decode cL_law 250 = .ok (.if_icmp .eq 469, 3) := by decide +kernel
theorem dL_law_253 : decode cL_law 253 = .ok (.iconst 0, 1) := by decide +kernel
theorem dL_law_254 : decode cL_law 254 = .ok (.ireturn, 1) := by decide +kernel
theorem dL_law_255 : decode cL_law 255 = .ok (.aload_n 1, 1) := by decide +kernel
theorem dL_law_256 : decode cL_law 256 = .ok (.aload_n 0, 1) := by decide +kernel
theorem dL_law_257 : decode cL_law 257 = .ok (.iload_n 3, 1) := by decide +kernel
theorem dL_law_258 : decode cL_law 258 = .ok (.iconst 1, 1) := by decide +kernel
theorem dL_law_259 : decode cL_law 259 = .ok (.iadd, 1) := by decide +kernel
theorem dL_law_260 : decode cL_law 260 = .ok (.iaload, 1) := by decide +kernel
theorem dL_law_261 : decode cL_law 261 = .ok (.invokevirtual 34, 3) := by decide +kernel
theorem dL_law_264 : decode cL_law 264 = .ok (.aload_n 2, 1) := by decide +kernel
theorem dL_law_265 : decode cL_law 265 = .ok (.aload_n 0, 1) := by decide +kernel
theorem dL_law_266 : decode cL_law 266 = .ok (.iload_n 3, 1) := by decide +kernel
theorem dL_law_267 : decode cL_law 267 = .ok (.iconst 1, 1) := by decide +kernel
theorem dL_law_268 : decode cL_law 268 = .ok (.iadd, 1) := by decide +kernel
theorem dL_law_269 : decode cL_law 269 = .ok (.iaload, 1) := by decide +kernel
theorem dL_law_270 : decode cL_law 270 = .ok (.invokevirtual 37, 3) := by decide +kernel
theorem dL_law_273 : decode cL_law 273 = .ok (.if_icmp .eq 446, 3) := by decide +kernel
theorem dL_law_276 : decode cL_law 276 = .ok (.iconst 0, 1) := by decide +kernel
theorem dL_law_277 : decode cL_law 277 = .ok (.ireturn, 1) := by decide +kernel
theorem dL_law_278 : decode cL_law 278 = .ok (.aload_n 1, 1) := by decide +kernel
theorem dL_law_279 : decode cL_law 279 = .ok (.aload_n 0, 1) := by decide +kernel
theorem dL_law_280 : decode cL_law 280 = .ok (.iload_n 3, 1) := by decide +kernel
theorem dL_law_281 : decode cL_law 281 = .ok (.iconst 1, 1) := by decide +kernel
theorem dL_law_282 : decode cL_law 282 = .ok (.iadd, 1) := by decide +kernel
theorem dL_law_283 : decode cL_law 283 = .ok (.iaload, 1) := by decide +kernel
theorem dL_law_284 : decode cL_law 284 = .ok (.aload_n 0, 1) := by decide +kernel
theorem dL_law_285 : decode cL_law 285 = .ok (.iload_n 3, 1) := by decide +kernel
theorem dL_law_286 : decode cL_law 286 = .ok (.iconst 2, 1) := by decide +kernel
theorem dL_law_287 : decode cL_law 287 = .ok (.iadd, 1) := by decide +kernel
theorem dL_law_288 : decode cL_law 288 = .ok (.iaload, 1) := by decide +kernel
theorem dL_law_289 : decode cL_law 289 = .ok (.aload_n 0, 1) := by decide +kernel
theorem dL_law_290 : decode cL_law 290 = .ok (.iload_n 3, 1) := by decide +kernel
theorem dL_law_291 : decode cL_law 291 = .ok (.iconst 3, 1) := by decide +kernel
theorem dL_law_292 : decode cL_law 292 = .ok (.iadd, 1) := by decide +kernel
theorem dL_law_293 : decode cL_law 293 = .ok (.iaload, 1) := by decide +kernel
theorem dL_law_294 : decode cL_law 294 = .ok (.invokevirtual 38, 3) := by decide +kernel
theorem dL_law_297 : decode cL_law 297 = .ok (.aload_n 2, 1) := by decide +kernel
theorem dL_law_298 : decode cL_law 298 = .ok (.aload_n 0, 1) := by decide +kernel
theorem dL_law_299 : decode cL_law 299 = .ok (.iload_n 3, 1) := by decide +kernel
theorem dL_law_300 : decode cL_law 300 = .ok (.iconst 1, 1) := by decide +kernel
theorem dL_law_301 : decode cL_law 301 = .ok (.iadd, 1) := by decide +kernel
theorem dL_law_302 : decode cL_law 302 = .ok (.iaload, 1) := by decide +kernel
theorem dL_law_303 : decode cL_law 303 = .ok (.aload_n 0, 1) := by decide +kernel
theorem dL_law_304 : decode cL_law 304 = .ok (.iload_n 3, 1) := by decide +kernel
theorem dL_law_305 : decode cL_law 305 = .ok (.iconst 2, 1) := by decide +kernel
theorem dL_law_306 : decode cL_law 306 = .ok (.iadd, 1) := by decide +kernel
theorem dL_law_307 : decode cL_law 307 = .ok (.iaload, 1) := by decide +kernel
theorem dL_law_308 : decode cL_law 308 = .ok (.aload_n 0, 1) := by decide +kernel
theorem dL_law_309 : decode cL_law 309 = .ok (.iload_n 3, 1) := by decide +kernel
theorem dL_law_310 : decode cL_law 310 = .ok (.iconst 3, 1) := by decide +kernel
theorem dL_law_311 : decode cL_law 311 = .ok (.iadd, 1) := by decide +kernel
theorem dL_law_312 : decode cL_law 312 = .ok (.iaload, 1) := by decide +kernel
theorem dL_law_313 : decode cL_law 313 = .ok (.invokevirtual 42, 3) := by decide +kernel
theorem dL_law_316 : decode cL_law 316 = .ok (.if_icmp .eq 403, 3) := by decide +kernel
theorem dL_law_319 : decode cL_law 319 = .ok (.iconst 0, 1) := by decide +kernel
theorem dL_law_320 : decode cL_law 320 = .ok (.ireturn, 1) := by decide +kernel
theorem dL_law_321 : decode cL_law 321 = .ok (.aload_n 1, 1) := by decide +kernel
theorem dL_law_322 : decode cL_law 322 = .ok (.aload_n 0, 1) := by decide +kernel
theorem dL_law_323 : decode cL_law 323 = .ok (.iload_n 3, 1) := by decide +kernel
theorem dL_law_324 : decode cL_law 324 = .ok (.iconst 1, 1) := by decide +kernel
theorem dL_law_325 : decode cL_law 325 = .ok (.iadd, 1) := by decide +kernel
theorem dL_law_326 : decode cL_law 326 = .ok (.iaload, 1) := by decide +kernel
theorem dL_law_327 : decode cL_law 327 = .ok (.aload_n 0, 1) := by decide +kernel
theorem dL_law_328 : decode cL_law 328 = .ok (.iload_n 3, 1) := by decide +kernel
theorem dL_law_329 : decode cL_law 329 = .ok (.iconst 2, 1) := by decide +kernel
theorem dL_law_330 : decode cL_law 330 = .ok (.iadd, 1) := by decide +kernel
theorem dL_law_331 : decode cL_law 331 = .ok (.iaload, 1) := by decide +kernel
theorem dL_law_332 : decode cL_law 332 = .ok (.invokevirtual 43, 3) := by decide +kernel
theorem dL_law_335 : decode cL_law 335 = .ok (.aload_n 2, 1) := by decide +kernel
theorem dL_law_336 : decode cL_law 336 = .ok (.aload_n 0, 1) := by decide +kernel
theorem dL_law_337 : decode cL_law 337 = .ok (.iload_n 3, 1) := by decide +kernel
theorem dL_law_338 : decode cL_law 338 = .ok (.iconst 1, 1) := by decide +kernel
theorem dL_law_339 : decode cL_law 339 = .ok (.iadd, 1) := by decide +kernel
theorem dL_law_340 : decode cL_law 340 = .ok (.iaload, 1) := by decide +kernel
theorem dL_law_341 : decode cL_law 341 = .ok (.aload_n 0, 1) := by decide +kernel
theorem dL_law_342 : decode cL_law 342 = .ok (.iload_n 3, 1) := by decide +kernel
theorem dL_law_343 : decode cL_law 343 = .ok (.iconst 2, 1) := by decide +kernel
theorem dL_law_344 : decode cL_law 344 = .ok (.iadd, 1) := by decide +kernel
theorem dL_law_345 : decode cL_law 345 = .ok (.iaload, 1) := by decide +kernel
theorem dL_law_346 : decode cL_law 346 = .ok (.invokevirtual 47, 3) := by decide +kernel
theorem dL_law_349 : decode cL_law 349 = .ok (.if_icmp .eq 370, 3) := by decide +kernel
theorem dL_law_352 : decode cL_law 352 = .ok (.iconst 0, 1) := by decide +kernel
theorem dL_law_353 : decode cL_law 353 = .ok (.ireturn, 1) := by decide +kernel
theorem dL_law_354 : decode cL_law 354 = .ok (.aload_n 1, 1) := by decide +kernel
theorem dL_law_355 : decode cL_law 355 = .ok (.aload_n 0, 1) := by decide +kernel
theorem dL_law_356 : decode cL_law 356 = .ok (.iload_n 3, 1) := by decide +kernel
theorem dL_law_357 : decode cL_law 357 = .ok (.iconst 1, 1) := by decide +kernel
theorem dL_law_358 : decode cL_law 358 = .ok (.iadd, 1) := by decide +kernel
theorem dL_law_359 : decode cL_law 359 = .ok (.iaload, 1) := by decide +kernel
theorem dL_law_360 : decode cL_law 360 = .ok (.aload_n 0, 1) := by decide +kernel
theorem dL_law_361 : decode cL_law 361 = .ok (.iload_n 3, 1) := by decide +kernel
theorem dL_law_362 : decode cL_law 362 = .ok (.iconst 2, 1) := by decide +kernel
theorem dL_law_363 : decode cL_law 363 = .ok (.iadd, 1) := by decide +kernel
theorem dL_law_364 : decode cL_law 364 = .ok (.iaload, 1) := by decide +kernel
theorem dL_law_365 : decode cL_law 365 = .ok (.invokevirtual 48, 3) := by decide +kernel
theorem dL_law_368 : decode cL_law 368 = .ok (.aload_n 2, 1) := by decide +kernel
theorem dL_law_369 : decode cL_law 369 = .ok (.aload_n 0, 1) := by decide +kernel
theorem dL_law_370 : decode cL_law 370 = .ok (.iload_n 3, 1) := by decide +kernel
theorem dL_law_371 : decode cL_law 371 = .ok (.iconst 1, 1) := by decide +kernel
theorem dL_law_372 : decode cL_law 372 = .ok (.iadd, 1) := by decide +kernel
theorem dL_law_373 : decode cL_law 373 = .ok (.iaload, 1) := by decide +kernel
theorem dL_law_374 : decode cL_law 374 = .ok (.aload_n 0, 1) := by decide +kernel
theorem dL_law_375 : decode cL_law 375 = .ok (.iload_n 3, 1) := by decide +kernel
theorem dL_law_376 : decode cL_law 376 = .ok (.iconst 2, 1) := by decide +kernel
theorem dL_law_377 : decode cL_law 377 = .ok (.iadd, 1) := by decide +kernel
theorem dL_law_378 : decode cL_law 378 = .ok (.iaload, 1) := by decide +kernel
theorem dL_law_379 : decode cL_law 379 = .ok (.invokevirtual 51, 3) := by decide +kernel
theorem dL_law_382 : decode cL_law 382 = .ok (.if_icmp .eq 337, 3) := by decide +kernel
theorem dL_law_385 : decode cL_law 385 = .ok (.iconst 0, 1) := by decide +kernel
theorem dL_law_386 : decode cL_law 386 = .ok (.ireturn, 1) := by decide +kernel
theorem dL_law_387 : decode cL_law 387 = .ok (.aload_n 1, 1) := by decide +kernel
theorem dL_law_388 : decode cL_law 388 = .ok (.aload_n 0, 1) := by decide +kernel
theorem dL_law_389 : decode cL_law 389 = .ok (.iload_n 3, 1) := by decide +kernel
theorem dL_law_390 : decode cL_law 390 = .ok (.iconst 1, 1) := by decide +kernel
theorem dL_law_391 : decode cL_law 391 = .ok (.iadd, 1) := by decide +kernel
theorem dL_law_392 : decode cL_law 392 = .ok (.iaload, 1) := by decide +kernel
theorem dL_law_393 : decode cL_law 393 = .ok (.invokevirtual 52, 3) := by decide +kernel
theorem dL_law_396 : decode cL_law 396 = .ok (.aload_n 2, 1) := by decide +kernel
theorem dL_law_397 : decode cL_law 397 = .ok (.aload_n 0, 1) := by decide +kernel
theorem dL_law_398 : decode cL_law 398 = .ok (.iload_n 3, 1) := by decide +kernel
theorem dL_law_399 : decode cL_law 399 = .ok (.iconst 1, 1) := by decide +kernel
theorem dL_law_400 : decode cL_law 400 = .ok (.iadd, 1) := by decide +kernel
theorem dL_law_401 : decode cL_law 401 = .ok (.iaload, 1) := by decide +kernel
theorem dL_law_402 : decode cL_law 402 = .ok (.invokevirtual 55, 3) := by decide +kernel
theorem dL_law_405 : decode cL_law 405 = .ok (.if_icmp .eq 314, 3) := by decide +kernel
theorem dL_law_408 : decode cL_law 408 = .ok (.iconst 0, 1) := by decide +kernel
theorem dL_law_409 : decode cL_law 409 = .ok (.ireturn, 1) := by decide +kernel
theorem dL_law_410 : decode cL_law 410 = .ok (.aload_n 1, 1) := by decide +kernel
theorem dL_law_411 : decode cL_law 411 = .ok (.aload_n 0, 1) := by decide +kernel
theorem dL_law_412 : decode cL_law 412 = .ok (.iload_n 3, 1) := by decide +kernel
theorem dL_law_413 : decode cL_law 413 = .ok (.iconst 1, 1) := by decide +kernel
theorem dL_law_414 : decode cL_law 414 = .ok (.iadd, 1) := by decide +kernel
theorem dL_law_415 : decode cL_law 415 = .ok (.iaload, 1) := by decide +kernel
theorem dL_law_416 : decode cL_law 416 = .ok (.aload_n 0, 1) := by decide +kernel
theorem dL_law_417 : decode cL_law 417 = .ok (.iload_n 3, 1) := by decide +kernel
theorem dL_law_418 : decode cL_law 418 = .ok (.iconst 2, 1) := by decide +kernel
theorem dL_law_419 : decode cL_law 419 = .ok (.iadd, 1) := by decide +kernel
theorem dL_law_420 : decode cL_law 420 = .ok (.iaload, 1) := by decide +kernel
theorem dL_law_421 : decode cL_law 421 = .ok (.invokevirtual 56, 3) := by decide +kernel
theorem dL_law_424 : decode cL_law 424 = .ok (.aload_n 2, 1) := by decide +kernel
theorem dL_law_425 : decode cL_law 425 = .ok (.aload_n 0, 1) := by decide +kernel
theorem dL_law_426 : decode cL_law 426 = .ok (.iload_n 3, 1) := by decide +kernel
theorem dL_law_427 : decode cL_law 427 = .ok (.iconst 1, 1) := by decide +kernel
theorem dL_law_428 : decode cL_law 428 = .ok (.iadd, 1) := by decide +kernel
theorem dL_law_429 : decode cL_law 429 = .ok (.iaload, 1) := by decide +kernel
theorem dL_law_430 : decode cL_law 430 = .ok (.aload_n 0, 1) := by decide +kernel
theorem dL_law_431 : decode cL_law 431 = .ok (.iload_n 3, 1) := by decide +kernel
theorem dL_law_432 : decode cL_law 432 = .ok (.iconst 2, 1) := by decide +kernel
theorem dL_law_433 : decode cL_law 433 = .ok (.iadd, 1) := by decide +kernel
theorem dL_law_434 : decode cL_law 434 = .ok (.iaload, 1) := by decide +kernel
theorem dL_law_435 : decode cL_law 435 = .ok (.invokevirtual 59, 3) := by decide +kernel
theorem dL_law_438 : decode cL_law 438 = .ok (.if_icmp .eq 281, 3) := by decide +kernel
theorem dL_law_441 : decode cL_law 441 = .ok (.iconst 0, 1) := by decide +kernel
theorem dL_law_442 : decode cL_law 442 = .ok (.ireturn, 1) := by decide +kernel
theorem dL_law_443 : decode cL_law 443 = .ok (.aload_n 1, 1) := by decide +kernel
theorem dL_law_444 : decode cL_law 444 = .ok (.aload_n 0, 1) := by decide +kernel
theorem dL_law_445 : decode cL_law 445 = .ok (.iload_n 3, 1) := by decide +kernel
theorem dL_law_446 : decode cL_law 446 = .ok (.iconst 1, 1) := by decide +kernel
theorem dL_law_447 : decode cL_law 447 = .ok (.iadd, 1) := by decide +kernel
theorem dL_law_448 : decode cL_law 448 = .ok (.iaload, 1) := by decide +kernel
theorem dL_law_449 : decode cL_law 449 = .ok (.invokevirtual 60, 3) := by decide +kernel
theorem dL_law_452 : decode cL_law 452 = .ok (.aload_n 2, 1) := by decide +kernel
theorem dL_law_453 : decode cL_law 453 = .ok (.aload_n 0, 1) := by decide +kernel
theorem dL_law_454 : decode cL_law 454 = .ok (.iload_n 3, 1) := by decide +kernel
theorem dL_law_455 : decode cL_law 455 = .ok (.iconst 1, 1) := by decide +kernel
theorem dL_law_456 : decode cL_law 456 = .ok (.iadd, 1) := by decide +kernel
theorem dL_law_457 : decode cL_law 457 = .ok (.iaload, 1) := by decide +kernel
theorem dL_law_458 : decode cL_law 458 = .ok (.invokevirtual 63, 3) := by decide +kernel
theorem dL_law_461 : decode cL_law 461 = .ok (.if_icmp .eq 258, 3) := by decide +kernel
theorem dL_law_464 : decode cL_law 464 = .ok (.iconst 0, 1) := by decide +kernel
theorem dL_law_465 : decode cL_law 465 = .ok (.ireturn, 1) := by decide +kernel
theorem dL_law_466 : decode cL_law 466 = .ok (.aload_n 1, 1) := by decide +kernel
theorem dL_law_467 : decode cL_law 467 = .ok (.aload_n 0, 1) := by decide +kernel
theorem dL_law_468 : decode cL_law 468 = .ok (.iload_n 3, 1) := by decide +kernel
theorem dL_law_469 : decode cL_law 469 = .ok (.iconst 1, 1) := by decide +kernel
theorem dL_law_470 : decode cL_law 470 = .ok (.iadd, 1) := by decide +kernel
theorem dL_law_471 : decode cL_law 471 = .ok (.iaload, 1) := by decide +kernel
theorem dL_law_472 : decode cL_law 472 = .ok (.aload_n 0, 1) := by decide +kernel
theorem dL_law_473 : decode cL_law 473 = .ok (.iload_n 3, 1) := by decide +kernel
theorem dL_law_474 : decode cL_law 474 = .ok (.iconst 2, 1) := by decide +kernel
theorem dL_law_475 : decode cL_law 475 = .ok (.iadd, 1) := by decide +kernel
theorem dL_law_476 : decode cL_law 476 = .ok (.iaload, 1) := by decide +kernel
theorem dL_law_477 : decode cL_law 477 = .ok (.invokevirtual 64, 3) := by decide +kernel
theorem dL_law_480 : decode cL_law 480 = .ok (.aload_n 2, 1) := by decide +kernel
theorem dL_law_481 : decode cL_law 481 = .ok (.aload_n 0, 1) := by decide +kernel
theorem dL_law_482 : decode cL_law 482 = .ok (.iload_n 3, 1) := by decide +kernel
theorem dL_law_483 : decode cL_law 483 = .ok (.iconst 1, 1) := by decide +kernel
theorem dL_law_484 : decode cL_law 484 = .ok (.iadd, 1) := by decide +kernel
theorem dL_law_485 : decode cL_law 485 = .ok (.iaload, 1) := by decide +kernel
theorem dL_law_486 : decode cL_law 486 = .ok (.aload_n 0, 1) := by decide +kernel
theorem dL_law_487 : decode cL_law 487 = .ok (.iload_n 3, 1) := by decide +kernel
theorem dL_law_488 : decode cL_law 488 = .ok (.iconst 2, 1) := by decide +kernel
theorem dL_law_489 : decode cL_law 489 = .ok (.iadd, 1) := by decide +kernel
theorem dL_law_490 : decode cL_law 490 = .ok (.iaload, 1) := by decide +kernel
theorem dL_law_491 : decode cL_law 491 = .ok (.invokevirtual 67, 3) := by decide +kernel
theorem dL_law_494 : decode cL_law 494 = .ok (.if_icmp .eq 225, 3) := by decide +kernel
theorem dL_law_497 : decode cL_law 497 = .ok (.iconst 0, 1) := by decide +kernel
theorem dL_law_498 : decode cL_law 498 = .ok (.ireturn, 1) := by decide +kernel
theorem dL_law_499 : decode cL_law 499 = .ok (.aload_n 1, 1) := by decide +kernel
theorem dL_law_500 : decode cL_law 500 = .ok (.aload_n 0, 1) := by decide +kernel
theorem dL_law_501 : decode cL_law 501 = .ok (.iload_n 3, 1) := by decide +kernel
theorem dL_law_502 : decode cL_law 502 = .ok (.iconst 1, 1) := by decide +kernel
theorem dL_law_503 : decode cL_law 503 = .ok (.iadd, 1) := by decide +kernel
theorem dL_law_504 : decode cL_law 504 = .ok (.iaload, 1) := by decide +kernel
theorem dL_law_505 : decode cL_law 505 = .ok (.invokevirtual 68, 3) := by decide +kernel
theorem dL_law_508 : decode cL_law 508 = .ok (.aload_n 2, 1) := by decide +kernel
theorem dL_law_509 : decode cL_law 509 = .ok (.aload_n 0, 1) := by decide +kernel
theorem dL_law_510 : decode cL_law 510 = .ok (.iload_n 3, 1) := by decide +kernel
theorem dL_law_511 : decode cL_law 511 = .ok (.iconst 1, 1) := by decide +kernel
theorem dL_law_512 : decode cL_law 512 = .ok (.iadd, 1) := by decide +kernel
theorem dL_law_513 : decode cL_law 513 = .ok (.iaload, 1) := by decide +kernel
theorem dL_law_514 : decode cL_law 514 = .ok (.invokevirtual 71, 3) := by decide +kernel
theorem dL_law_517 : decode cL_law 517 = .ok (.if_icmp .eq 202, 3) := by decide +kernel
theorem dL_law_520 : decode cL_law 520 = .ok (.iconst 0, 1) := by decide +kernel
theorem dL_law_521 : decode cL_law 521 = .ok (.ireturn, 1) := by decide +kernel
theorem dL_law_522 : decode cL_law 522 = .ok (.aload_n 1, 1) := by decide +kernel
theorem dL_law_523 : decode cL_law 523 = .ok (.aload_n 0, 1) := by decide +kernel
theorem dL_law_524 : decode cL_law 524 = .ok (.iload_n 3, 1) := by decide +kernel
theorem dL_law_525 : decode cL_law 525 = .ok (.iconst 1, 1) := by decide +kernel
theorem dL_law_526 : decode cL_law 526 = .ok (.iadd, 1) := by decide +kernel
theorem dL_law_527 : decode cL_law 527 = .ok (.iaload, 1) := by decide +kernel
theorem dL_law_528 : decode cL_law 528 = .ok (.invokevirtual 72, 3) := by decide +kernel
theorem dL_law_531 : decode cL_law 531 = .ok (.aload_n 2, 1) := by decide +kernel
theorem dL_law_532 : decode cL_law 532 = .ok (.aload_n 0, 1) := by decide +kernel
theorem dL_law_533 : decode cL_law 533 = .ok (.iload_n 3, 1) := by decide +kernel
theorem dL_law_534 : decode cL_law 534 = .ok (.iconst 1, 1) := by decide +kernel
theorem dL_law_535 : decode cL_law 535 = .ok (.iadd, 1) := by decide +kernel
theorem dL_law_536 : decode cL_law 536 = .ok (.iaload, 1) := by decide +kernel
theorem dL_law_537 : decode cL_law 537 = .ok (.invokevirtual 75, 3) := by decide +kernel
theorem dL_law_540 : decode cL_law 540 = .ok (.if_icmp .eq 179, 3) := by decide +kernel
theorem dL_law_543 : decode cL_law 543 = .ok (.iconst 0, 1) := by decide +kernel
theorem dL_law_544 : decode cL_law 544 = .ok (.ireturn, 1) := by decide +kernel
theorem dL_law_545 : decode cL_law 545 = .ok (.aload_n 1, 1) := by decide +kernel
theorem dL_law_546 : decode cL_law 546 = .ok (.aload_n 0, 1) := by decide +kernel
theorem dL_law_547 : decode cL_law 547 = .ok (.iload_n 3, 1) := by decide +kernel
theorem dL_law_548 : decode cL_law 548 = .ok (.iconst 1, 1) := by decide +kernel
theorem dL_law_549 : decode cL_law 549 = .ok (.iadd, 1) := by decide +kernel
theorem dL_law_550 : decode cL_law 550 = .ok (.iaload, 1) := by decide +kernel
theorem dL_law_551 : decode cL_law 551 = .ok (.aload_n 0, 1) := by decide +kernel
theorem dL_law_552 : decode cL_law 552 = .ok (.iload_n 3, 1) := by decide +kernel
theorem dL_law_553 : decode cL_law 553 = .ok (.iconst 2, 1) := by decide +kernel
theorem dL_law_554 : decode cL_law 554 = .ok (.iadd, 1) := by decide +kernel
theorem dL_law_555 : decode cL_law 555 = .ok (.iaload, 1) := by decide +kernel
theorem dL_law_556 : decode cL_law 556 = .ok (.invokevirtual 76, 3) := by decide +kernel
theorem dL_law_559 : decode cL_law 559 = .ok (.aload_n 2, 1) := by decide +kernel
theorem dL_law_560 : decode cL_law 560 = .ok (.aload_n 0, 1) := by decide +kernel
theorem dL_law_561 : decode cL_law 561 = .ok (.iload_n 3, 1) := by decide +kernel
theorem dL_law_562 : decode cL_law 562 = .ok (.iconst 1, 1) := by decide +kernel
theorem dL_law_563 : decode cL_law 563 = .ok (.iadd, 1) := by decide +kernel
theorem dL_law_564 : decode cL_law 564 = .ok (.iaload, 1) := by decide +kernel
theorem dL_law_565 : decode cL_law 565 = .ok (.aload_n 0, 1) := by decide +kernel
theorem dL_law_566 : decode cL_law 566 = .ok (.iload_n 3, 1) := by decide +kernel
theorem dL_law_567 : decode cL_law 567 = .ok (.iconst 2, 1) := by decide +kernel
theorem dL_law_568 : decode cL_law 568 = .ok (.iadd, 1) := by decide +kernel
theorem dL_law_569 : decode cL_law 569 = .ok (.iaload, 1) := by decide +kernel
theorem dL_law_570 : decode cL_law 570 = .ok (.invokevirtual 79, 3) := by decide +kernel
theorem dL_law_573 : decode cL_law 573 = .ok (.if_icmp .eq 146, 3) := by decide +kernel
theorem dL_law_576 : decode cL_law 576 = .ok (.iconst 0, 1) := by decide +kernel
theorem dL_law_577 : decode cL_law 577 = .ok (.ireturn, 1) := by decide +kernel
theorem dL_law_578 : decode cL_law 578 = .ok (.aload_n 1, 1) := by decide +kernel
theorem dL_law_579 : decode cL_law 579 = .ok (.aload_n 0, 1) := by decide +kernel
theorem dL_law_580 : decode cL_law 580 = .ok (.iload_n 3, 1) := by decide +kernel
theorem dL_law_581 : decode cL_law 581 = .ok (.iconst 1, 1) := by decide +kernel
theorem dL_law_582 : decode cL_law 582 = .ok (.iadd, 1) := by decide +kernel
theorem dL_law_583 : decode cL_law 583 = .ok (.iaload, 1) := by decide +kernel
theorem dL_law_584 : decode cL_law 584 = .ok (.aload_n 0, 1) := by decide +kernel
theorem dL_law_585 : decode cL_law 585 = .ok (.iload_n 3, 1) := by decide +kernel
theorem dL_law_586 : decode cL_law 586 = .ok (.iconst 2, 1) := by decide +kernel
theorem dL_law_587 : decode cL_law 587 = .ok (.iadd, 1) := by decide +kernel
theorem dL_law_588 : decode cL_law 588 = .ok (.iaload, 1) := by decide +kernel
theorem dL_law_589 : decode cL_law 589 = .ok (.invokevirtual 80, 3) := by decide +kernel
theorem dL_law_592 : decode cL_law 592 = .ok (.aload_n 2, 1) := by decide +kernel
theorem dL_law_593 : decode cL_law 593 = .ok (.aload_n 0, 1) := by decide +kernel
theorem dL_law_594 : decode cL_law 594 = .ok (.iload_n 3, 1) := by decide +kernel
theorem dL_law_595 : decode cL_law 595 = .ok (.iconst 1, 1) := by decide +kernel
theorem dL_law_596 : decode cL_law 596 = .ok (.iadd, 1) := by decide +kernel
theorem dL_law_597 : decode cL_law 597 = .ok (.iaload, 1) := by decide +kernel
theorem dL_law_598 : decode cL_law 598 = .ok (.aload_n 0, 1) := by decide +kernel
theorem dL_law_599 : decode cL_law 599 = .ok (.iload_n 3, 1) := by decide +kernel
theorem dL_law_600 : decode cL_law 600 = .ok (.iconst 2, 1) := by decide +kernel
theorem dL_law_601 : decode cL_law 601 = .ok (.iadd, 1) := by decide +kernel
theorem dL_law_602 : decode cL_law 602 = .ok (.iaload, 1) := by decide +kernel
theorem dL_law_603 : decode cL_law 603 = .ok (.invokevirtual 83, 3) := by decide +kernel
theorem dL_law_606 : decode cL_law 606 = .ok (.if_icmp .eq 113, 3) := by decide +kernel
theorem dL_law_609 : decode cL_law 609 = .ok (.iconst 0, 1) := by decide +kernel
theorem dL_law_610 : decode cL_law 610 = .ok (.ireturn, 1) := by decide +kernel
theorem dL_law_611 : decode cL_law 611 = .ok (.aload_n 1, 1) := by decide +kernel
theorem dL_law_612 : decode cL_law 612 = .ok (.aload_n 0, 1) := by decide +kernel
theorem dL_law_613 : decode cL_law 613 = .ok (.iload_n 3, 1) := by decide +kernel
theorem dL_law_614 : decode cL_law 614 = .ok (.iconst 1, 1) := by decide +kernel
theorem dL_law_615 : decode cL_law 615 = .ok (.iadd, 1) := by decide +kernel
theorem dL_law_616 : decode cL_law 616 = .ok (.iaload, 1) := by decide +kernel
theorem dL_law_617 : decode cL_law 617 = .ok (.invokevirtual 84, 3) := by decide +kernel
theorem dL_law_620 : decode cL_law 620 = .ok (.aload_n 2, 1) := by decide +kernel
theorem dL_law_621 : decode cL_law 621 = .ok (.aload_n 0, 1) := by decide +kernel
theorem dL_law_622 : decode cL_law 622 = .ok (.iload_n 3, 1) := by decide +kernel
theorem dL_law_623 : decode cL_law 623 = .ok (.iconst 1, 1) := by decide +kernel
theorem dL_law_624 : decode cL_law 624 = .ok (.iadd, 1) := by decide +kernel
theorem dL_law_625 : decode cL_law 625 = .ok (.iaload, 1) := by decide +kernel
theorem dL_law_626 : decode cL_law 626 = .ok (.invokevirtual 87, 3) := by decide +kernel
theorem dL_law_629 : decode cL_law 629 = .ok (.if_icmp .eq 90, 3) := by decide +kernel
theorem dL_law_632 : decode cL_law 632 = .ok (.iconst 0, 1) := by decide +kernel
theorem dL_law_633 : decode cL_law 633 = .ok (.ireturn, 1) := by decide +kernel
theorem dL_law_634 : decode cL_law 634 = .ok (.aload_n 1, 1) := by decide +kernel
theorem dL_law_635 : decode cL_law 635 = .ok (.invokevirtual 88, 3) := by decide +kernel
theorem dL_law_638 : decode cL_law 638 = .ok (.aload_n 2, 1) := by decide +kernel
theorem dL_law_639 : decode cL_law 639 = .ok (.invokevirtual 92, 3) := by decide +kernel
theorem dL_law_642 : decode cL_law 642 = .ok (.if_icmp .eq 77, 3) := by decide +kernel
theorem dL_law_645 : decode cL_law 645 = .ok (.iconst 0, 1) := by decide +kernel
theorem dL_law_646 : decode cL_law 646 = .ok (.ireturn, 1) := by decide +kernel
theorem dL_law_647 : decode cL_law 647 = .ok (.aload_n 1, 1) := by decide +kernel
theorem dL_law_648 : decode cL_law 648 = .ok (.aload_n 0, 1) := by decide +kernel
theorem dL_law_649 : decode cL_law 649 = .ok (.iload_n 3, 1) := by decide +kernel
theorem dL_law_650 : decode cL_law 650 = .ok (.iconst 1, 1) := by decide +kernel
theorem dL_law_651 : decode cL_law 651 = .ok (.iadd, 1) := by decide +kernel
theorem dL_law_652 : decode cL_law 652 = .ok (.iaload, 1) := by decide +kernel
theorem dL_law_653 : decode cL_law 653 = .ok (.invokevirtual 93, 3) := by decide +kernel
theorem dL_law_656 : decode cL_law 656 = .ok (.aload_n 2, 1) := by decide +kernel
theorem dL_law_657 : decode cL_law 657 = .ok (.aload_n 0, 1) := by decide +kernel
theorem dL_law_658 : decode cL_law 658 = .ok (.iload_n 3, 1) := by decide +kernel
theorem dL_law_659 : decode cL_law 659 = .ok (.iconst 1, 1) := by decide +kernel
theorem dL_law_660 : decode cL_law 660 = .ok (.iadd, 1) := by decide +kernel
theorem dL_law_661 : decode cL_law 661 = .ok (.iaload, 1) := by decide +kernel
theorem dL_law_662 : decode cL_law 662 = .ok (.invokevirtual 96, 3) := by decide +kernel
theorem dL_law_665 : decode cL_law 665 = .ok (.if_icmp .eq 54, 3) := by decide +kernel
theorem dL_law_668 : decode cL_law 668 = .ok (.iconst 0, 1) := by decide +kernel
theorem dL_law_669 : decode cL_law 669 = .ok (.ireturn, 1) := by decide +kernel
theorem dL_law_670 : decode cL_law 670 = .ok (.aload_n 1, 1) := by decide +kernel
theorem dL_law_671 : decode cL_law 671 = .ok (.invokevirtual 97, 3) := by decide +kernel
theorem dL_law_674 : decode cL_law 674 = .ok (.aload_n 2, 1) := by decide +kernel
theorem dL_law_675 : decode cL_law 675 = .ok (.invokevirtual 100, 3) := by decide +kernel
theorem dL_law_678 : decode cL_law 678 = .ok (.if_icmp .eq 41, 3) := by decide +kernel
theorem dL_law_681 : decode cL_law 681 = .ok (.iconst 0, 1) := by decide +kernel
theorem dL_law_682 : decode cL_law 682 = .ok (.ireturn, 1) := by decide +kernel
theorem dL_law_683 : decode cL_law 683 = .ok (.aload_n 1, 1) := by decide +kernel
theorem dL_law_684 : decode cL_law 684 = .ok (.aload_n 0, 1) := by decide +kernel
theorem dL_law_685 : decode cL_law 685 = .ok (.iload_n 3, 1) := by decide +kernel
theorem dL_law_686 : decode cL_law 686 = .ok (.iconst 1, 1) := by decide +kernel
theorem dL_law_687 : decode cL_law 687 = .ok (.iadd, 1) := by decide +kernel
theorem dL_law_688 : decode cL_law 688 = .ok (.iaload, 1) := by decide +kernel
theorem dL_law_689 : decode cL_law 689 = .ok (.invokevirtual 101, 3) := by decide +kernel
theorem dL_law_692 : decode cL_law 692 = .ok (.aload_n 2, 1) := by decide +kernel
theorem dL_law_693 : decode cL_law 693 = .ok (.aload_n 0, 1) := by decide +kernel
theorem dL_law_694 : decode cL_law 694 = .ok (.iload_n 3, 1) := by decide +kernel
theorem dL_law_695 : decode cL_law 695 = .ok (.iconst 1, 1) := by decide +kernel
theorem dL_law_696 : decode cL_law 696 = .ok (.iadd, 1) := by decide +kernel
theorem dL_law_697 : decode cL_law 697 = .ok (.iaload, 1) := by decide +kernel
theorem dL_law_698 : decode cL_law 698 = .ok (.invokevirtual 104, 3) := by decide +kernel
theorem dL_law_701 : decode cL_law 701 = .ok (.if_icmp .eq 18, 3) := by decide +kernel
theorem dL_law_704 : decode cL_law 704 = .ok (.iconst 0, 1) := by decide +kernel
theorem dL_law_705 : decode cL_law 705 = .ok (.ireturn, 1) := by decide +kernel
theorem dL_law_706 : decode cL_law 706 = .ok (.aload_n 1, 1) := by decide +kernel
theorem dL_law_707 : decode cL_law 707 = .ok (.invokevirtual 105, 3) := by decide +kernel
theorem dL_law_710 : decode cL_law 710 = .ok (.aload_n 2, 1) := by decide +kernel
theorem dL_law_711 : decode cL_law 711 = .ok (.invokevirtual 108, 3) := by decide +kernel
theorem dL_law_714 : decode cL_law 714 = .ok (.if_icmp .eq 5, 3) := by decide +kernel
theorem dL_law_717 : decode cL_law 717 = .ok (.iconst 0, 1) := by decide +kernel
theorem dL_law_718 : decode cL_law 718 = .ok (.ireturn, 1) := by decide +kernel
theorem dL_law_719 : decode cL_law 719 = .ok (.iinc 3 4, 3) := by decide +kernel
theorem dL_law_722 : decode cL_law 722 = .ok (.goto (-704), 3) := by decide +kernel
theorem dL_law_725 : decode cL_law 725 = .ok (.iconst 1, 1) := by decide +kernel
theorem dL_law_726 : decode cL_law 726 = .ok (.ireturn, 1) := by decide +kernel
abbrev vwCl : List vw_C := [(RX0, TX0, 12), (RX1, TX1, 15), (RX2, TX2, 2), (RX3, TX3, 5), (RX4, TX4, 17)]
