theorem dX4_compaction_0 : decode cX4_compaction 0 = .ok (.iload_n 1, 1) := by decide +kernel
theorem dX4_compaction_1 : decode cX4_compaction 1 = .ok (.iconst 0, 1) := by decide +kernel
theorem dX4_compaction_2 : decode cX4_compaction 2 = .ok (.iconst 2, 1) := by decide +kernel
theorem dX4_compaction_3 : decode cX4_compaction 3 = .ok (.invokestatic 37, 3) := by decide +kernel
theorem dX4_compaction_6 : decode cX4_compaction 6 = .ok (.ifCond .eq 12, 3) := by decide +kernel
theorem dX4_compaction_9 : decode cX4_compaction 9 = .ok (.iload_n 2, 1) := by decide +kernel
theorem dX4_compaction_10 : decode cX4_compaction 10 = .ok (.iconst 0, 1) := by decide +kernel
theorem dX4_compaction_11 : decode cX4_compaction 11 = .ok (.iconst 3, 1) := by decide +kernel
theorem dX4_compaction_12 : decode cX4_compaction 12 = .ok (.invokestatic 37, 3) := by decide +kernel
theorem dX4_compaction_15 : decode cX4_compaction 15 = .ok (.ifCond .ne 6, 3) := by decide +kernel
theorem dX4_compaction_18 : decode cX4_compaction 18 = .ok (.ldc 61, 2) := by decide +kernel
theorem dX4_compaction_20 : decode cX4_compaction 20 = .ok (.ireturn, 1) := by decide +kernel
theorem dX4_compaction_21 : decode cX4_compaction 21 = .ok (.iload_n 1, 1) := by decide +kernel
theorem dX4_compaction_22 : decode cX4_compaction 22 = .ok (.aload_n 0, 1) := by decide +kernel
theorem dX4_compaction_23 : decode cX4_compaction 23 = .ok (.invokevirtual 72, 3) := by decide +kernel
theorem dX4_compaction_26 : decode cX4_compaction 26 = .ok (.if_icmp .lt 6, 3) := by decide +kernel
theorem dX4_compaction_29 : decode cX4_compaction 29 = .ok (.ldc 99, 2) := by decide +kernel
theorem dX4_compaction_31 : decode cX4_compaction 31 = .ok (.ireturn, 1) := by decide +kernel
theorem dX4_compaction_32 : decode cX4_compaction 32 = .ok (.iload_n 2, 1) := by decide +kernel
theorem dX4_compaction_33 : decode cX4_compaction 33 = .ok (.iconst 3, 1) := by decide +kernel
theorem dX4_compaction_34 : decode cX4_compaction 34 = .ok (.if_icmp .ge 12, 3) := by decide +kernel
theorem dX4_compaction_37 : decode cX4_compaction 37 = .ok (.aload_n 0, 1) := by decide +kernel
theorem dX4_compaction_38 : decode cX4_compaction 38 = .ok (.iload_n 1, 1) := by decide +kernel
theorem dX4_compaction_39 : decode cX4_compaction 39 = .ok (.iload_n 2, 1) := by decide +kernel
theorem dX4_compaction_40 : decode cX4_compaction 40 = .ok (.invokevirtual 75, 3) := by decide +kernel
theorem dX4_compaction_43 : decode cX4_compaction 43 = .ok (.goto 8, 3) := by decide +kernel
theorem dX4_compaction_46 : decode cX4_compaction 46 = .ok (.aload_n 0, 1) := by decide +kernel
theorem dX4_compaction_47 : decode cX4_compaction 47 = .ok (.iload_n 1, 1) := by decide +kernel
theorem dX4_compaction_48 : decode cX4_compaction 48 = .ok (.invokevirtual 119, 3) := by decide +kernel
theorem dX4_compaction_51 : decode cX4_compaction 51 = .ok (.ireturn, 1) := by decide +kernel
set_option maxRecDepth 20000 in
theorem ggX4_namesAll_X4_isNamed : GoodIn wsX4_namesAll wsX4_isNamed := goodIn_r _ [5, 6, 7, 8, 9, 10, 11, 12, 13, 14, 15, 16, 17, 18, 19, 20, 21, 22, 23] (by decide +kernel) (by decide +kernel)
set_option maxRecDepth 20000 in
theorem gX4_namesAll_X4_isNamed : GoodIn wsX4_namesAll (wsV RX4 42 RX4 yX4_isNamed wsX4_isNamed) := goodIn_app (goodIn_of _ (by decide +kernel)) ggX4_namesAll_X4_isNamed
theorem dX4_namesAll_0 : decode cX4_namesAll 0 = .ok (.iconst 0, 1) := by decide +kernel
theorem dX4_namesAll_1 : decode cX4_namesAll 1 = .ok (.istore_n 1, 1) := by decide +kernel
theorem dX4_namesAll_2 : decode cX4_namesAll 2 = .ok (.iconst 0, 1) := by decide +kernel
theorem dX4_namesAll_3 : decode cX4_namesAll 3 = .ok (.istore_n 2, 1) := by decide +kernel
theorem dX4_namesAll_4 : decode cX4_namesAll 4 = .ok (.iload_n 2, 1) := by decide +kernel
theorem dX4_namesAll_5 : decode cX4_namesAll 5 = .ok (.bipush 40, 2) := by decide +kernel
theorem dX4_namesAll_7 : decode cX4_namesAll 7 = .ok (.if_icmp .ge 25, 3) := by decide +kernel
theorem dX4_namesAll_10 : decode cX4_namesAll 10 = .ok (.iload_n 1, 1) := by decide +kernel
theorem dX4_namesAll_11 : decode cX4_namesAll 11 = .ok (.aload_n 0, 1) := by decide +kernel
theorem dX4_namesAll_12 : decode cX4_namesAll 12 = .ok (.iload_n 2, 1) := by decide +kernel
theorem dX4_namesAll_13 : decode cX4_namesAll 13 = .ok (.invokevirtual 42, 3) := by decide +kernel
theorem dX4_namesAll_16 : decode cX4_namesAll 16 = .ok (.ifCond .eq 7, 3) := by decide +kernel
theorem dX4_namesAll_19 : decode cX4_namesAll 19 = .ok (.iconst 1, 1) := by decide +kernel
theorem dX4_namesAll_20 : decode cX4_namesAll 20 = .ok (.goto 4, 3) := by decide +kernel
theorem dX4_namesAll_23 : decode cX4_namesAll 23 = .ok (.iconst 0, 1) := by decide +kernel
theorem dX4_namesAll_24 : decode cX4_namesAll 24 = .ok (.iadd, 1) := by decide +kernel
theorem dX4_namesAll_25 : decode cX4_namesAll 25 = .ok (.istore_n 1, 1) := by decide +kernel
theorem dX4_namesAll_26 : decode cX4_namesAll 26 = .ok (.iinc 2 1, 3) := by decide +kernel
theorem dX4_namesAll_29 : decode cX4_namesAll 29 = .ok (.goto (-25), 3) := by decide +kernel
theorem dX4_namesAll_32 : decode cX4_namesAll 32 = .ok (.iload_n 1, 1) := by decide +kernel
theorem dX4_namesAll_33 : decode cX4_namesAll 33 = .ok (.ireturn, 1) := by decide +kernel
theorem dX4_usersAll_0 : decode cX4_usersAll 0 = .ok (.iconst 0, 1) := by decide +kernel
theorem dX4_usersAll_1 : decode cX4_usersAll 1 = .ok (.istore_n 1, 1) := by decide +kernel
theorem dX4_usersAll_2 : decode cX4_usersAll 2 = .ok (.iconst 0, 1) := by decide +kernel
theorem dX4_usersAll_3 : decode cX4_usersAll 3 = .ok (.istore_n 2, 1) := by decide +kernel
theorem dX4_usersAll_4 : decode cX4_usersAll 4 = .ok (.iload_n 2, 1) := by decide +kernel
theorem dX4_usersAll_5 : decode cX4_usersAll 5 = .ok (.bipush 40, 2) := by decide +kernel
theorem dX4_usersAll_7 : decode cX4_usersAll 7 = .ok (.if_icmp .ge 21, 3) := by decide +kernel
theorem dX4_usersAll_10 : decode cX4_usersAll 10 = .ok (.iload_n 1, 1) := by decide +kernel
theorem dX4_usersAll_11 : decode cX4_usersAll 11 = .ok (.aload_n 0, 1) := by decide +kernel
theorem dX4_usersAll_12 : decode cX4_usersAll 12 = .ok (.getfield 7, 3) := by decide +kernel
theorem dX4_usersAll_15 : decode cX4_usersAll 15 = .ok (.bipush 44, 2) := by decide +kernel
theorem dX4_usersAll_17 : decode cX4_usersAll 17 = .ok (.iload_n 2, 1) := by decide +kernel
theorem dX4_usersAll_18 : decode cX4_usersAll 18 = .ok (.iadd, 1) := by decide +kernel
theorem dX4_usersAll_19 : decode cX4_usersAll 19 = .ok (.iaload, 1) := by decide +kernel
theorem dX4_usersAll_20 : decode cX4_usersAll 20 = .ok (.iadd, 1) := by decide +kernel
theorem dX4_usersAll_21 : decode cX4_usersAll 21 = .ok (.istore_n 1, 1) := by decide +kernel
theorem dX4_usersAll_22 : decode cX4_usersAll 22 = .ok (.iinc 2 1, 3) := by decide +kernel
theorem dX4_usersAll_25 : decode cX4_usersAll 25 = .ok (.goto (-21), 3) := by decide +kernel
theorem dX4_usersAll_28 : decode cX4_usersAll 28 = .ok (.iload_n 1, 1) := by decide +kernel
theorem dX4_usersAll_29 : decode cX4_usersAll 29 = .ok (.ireturn, 1) := by decide +kernel
set_option maxRecDepth 20000 in
theorem ggX4_highest_X4_isNamed : GoodIn wsX4_highest wsX4_isNamed := goodIn_r _ [5, 6, 7, 8, 9, 10, 11, 12, 13, 14, 15, 16, 17, 18, 19, 20, 21, 22, 23] (by decide +kernel) (by decide +kernel)
set_option maxRecDepth 20000 in
theorem gX4_highest_X4_isNamed : GoodIn wsX4_highest (wsV RX4 42 RX4 yX4_isNamed wsX4_isNamed) := goodIn_app (goodIn_of _ (by decide +kernel)) ggX4_highest_X4_isNamed
theorem dX4_highest_0 : decode cX4_highest 0 = .ok (.iconst 0, 1) := by decide +kernel
theorem dX4_highest_1 : decode cX4_highest 1 = .ok (.istore_n 1, 1) := by decide +kernel
theorem dX4_highest_2 : decode cX4_highest 2 = .ok (.iconst 0, 1) := by decide +kernel
theorem dX4_highest_3 : decode cX4_highest 3 = .ok (.istore_n 2, 1) := by decide +kernel
theorem dX4_highest_4 : decode cX4_highest 4 = .ok (.iload_n 2, 1) := by decide +kernel
theorem dX4_highest_5 : decode cX4_highest 5 = .ok (.bipush 40, 2) := by decide +kernel
theorem dX4_highest_7 : decode cX4_highest 7 = .ok (.if_icmp .ge 25, 3) := by decide +kernel
theorem dX4_highest_10 : decode cX4_highest 10 = .ok (.aload_n 0, 1) := by decide +kernel
theorem dX4_highest_11 : decode cX4_highest 11 = .ok (.iload_n 2, 1) := by decide +kernel
theorem dX4_highest_12 : decode cX4_highest 12 = .ok (.invokevirtual 42, 3) := by decide +kernel
theorem dX4_highest_15 : decode cX4_highest 15 = .ok (.ifCond .eq 9, 3) := by decide +kernel
theorem dX4_highest_18 : decode cX4_highest 18 = .ok (.iload_n 2, 1) := by decide +kernel
theorem dX4_highest_19 : decode cX4_highest 19 = .ok (.iconst 1, 1) := by decide +kernel
theorem dX4_highest_20 : decode cX4_highest 20 = .ok (.iadd, 1) := by decide +kernel
theorem dX4_highest_21 : decode cX4_highest 21 = .ok (.goto 4, 3) := by decide +kernel
theorem dX4_highest_24 : decode cX4_highest 24 = .ok (.iload_n 1, 1) := by decide +kernel
theorem dX4_highest_25 : decode cX4_highest 25 = .ok (.istore_n 1, 1) := by decide +kernel
theorem dX4_highest_26 : decode cX4_highest 26 = .ok (.iinc 2 1, 3) := by decide +kernel
theorem dX4_highest_29 : decode cX4_highest 29 = .ok (.goto (-25), 3) := by decide +kernel
theorem dX4_highest_32 : decode cX4_highest 32 = .ok (.iload_n 1, 1) := by decide +kernel
theorem dX4_highest_33 : decode cX4_highest 33 = .ok (.ireturn, 1) := by decide +kernel
set_option maxRecDepth 20000 in
theorem ggX4_count_X4_namesAll : GoodIn wsX4_count wsX4_namesAll := goodIn_r _ [9, 10, 11, 12, 8, 13, 1, 30, 31, 32, 33, 34, 35, 36, 37, 38, 39, 40, 41, 42, 43, 44, 45, 46] (by decide +kernel) (by decide +kernel)
set_option maxRecDepth 20000 in
theorem gX4_count_X4_namesAll : GoodIn wsX4_count (wsV RX4 122 RX4 yX4_namesAll wsX4_namesAll) := goodIn_app (goodIn_of _ (by decide +kernel)) ggX4_count_X4_namesAll
set_option maxRecDepth 20000 in
theorem ggX4_count_X4_usersAll : GoodIn wsX4_count wsX4_usersAll := goodIn_r _ [17, 1, 30, 31, 32, 33, 34, 35, 36, 37, 38, 39, 40, 41, 42, 43, 44, 45, 46] (by decide +kernel) (by decide +kernel)
set_option maxRecDepth 20000 in
theorem gX4_count_X4_usersAll : GoodIn wsX4_count (wsV RX4 125 RX4 yX4_usersAll wsX4_usersAll) := goodIn_app (goodIn_of _ (by decide +kernel)) ggX4_count_X4_usersAll
set_option maxRecDepth 20000 in
theorem ggX4_count_X4_cellsWith : GoodIn wsX4_count wsX4_cellsWith := goodIn_r _ [21, 1, 30, 31, 32, 33, 34, 35, 36, 37, 38, 39, 40, 41, 42, 43, 44, 45, 46] (by decide +kernel) (by decide +kernel)
set_option maxRecDepth 20000 in
theorem gX4_count_X4_cellsWith : GoodIn wsX4_count (wsV RX4 86 RX4 yX4_cellsWith wsX4_cellsWith) := goodIn_app (goodIn_of _ (by decide +kernel)) ggX4_count_X4_cellsWith
set_option maxRecDepth 20000 in
theorem ggX4_count_X4_highest : GoodIn wsX4_count wsX4_highest := goodIn_r _ [25, 10, 11, 12, 8, 13, 1, 30, 31, 32, 33, 34, 35, 36, 37, 38, 39, 40, 41, 42, 43, 44, 45, 46] (by decide +kernel) (by decide +kernel)
set_option maxRecDepth 20000 in
theorem gX4_count_X4_highest : GoodIn wsX4_count (wsV RX4 128 RX4 yX4_highest wsX4_highest) := goodIn_app (goodIn_of _ (by decide +kernel)) ggX4_count_X4_highest
set_option maxRecDepth 20000 in
theorem ggX4_count_X4_kept : GoodIn wsX4_count wsX4_kept := goodIn_r _ [29, 1, 30, 31, 32, 33, 34, 35, 36, 37, 38, 39, 40, 41, 42, 43, 44, 45, 46] (by decide +kernel) (by decide +kernel)
set_option maxRecDepth 20000 in
theorem gX4_count_X4_kept : GoodIn wsX4_count (wsV RX4 72 RX4 yX4_kept wsX4_kept) := goodIn_app (goodIn_of _ (by decide +kernel)) ggX4_count_X4_kept
theorem dX4_count_0 : decode cX4_count 0 = .ok (.iload_n 1, 1) := by decide +kernel
theorem dX4_count_1 : decode cX4_count 1 = .ok (.tableswitch 129 0 10 #[59, 64, 69, 78, 85, 90, 100, 107, 114, 119, 124], 59) := by decide +kernel
theorem dX4_count_60 : decode cX4_count 60 = .ok (.aload_n 0, 1) := by decide +kernel
theorem dX4_count_61 : decode cX4_count 61 = .ok (.invokevirtual 122, 3) := by decide +kernel
theorem dX4_count_64 : decode cX4_count 64 = .ok (.ireturn, 1) := by decide +kernel
theorem dX4_count_65 : decode cX4_count 65 = .ok (.aload_n 0, 1) := by decide +kernel
theorem dX4_count_66 : decode cX4_count 66 = .ok (.invokevirtual 125, 3) := by decide +kernel
theorem dX4_count_69 : decode cX4_count 69 = .ok (.ireturn, 1) := by decide +kernel
theorem dX4_count_70 : decode cX4_count 70 = .ok (.bipush 18, 2) := by decide +kernel
theorem dX4_count_72 : decode cX4_count 72 = .ok (.aload_n 0, 1) := by decide +kernel
theorem dX4_count_73 : decode cX4_count 73 = .ok (.iconst (-1), 1) := by decide +kernel
theorem dX4_count_74 : decode cX4_count 74 = .ok (.invokevirtual 86, 3) := by decide +kernel
theorem dX4_count_77 : decode cX4_count 77 = .ok (.isub, 1) := by decide +kernel
theorem dX4_count_78 : decode cX4_count 78 = .ok (.ireturn, 1) := by decide +kernel
theorem dX4_count_79 : decode cX4_count 79 = .ok (.aload_n 0, 1) := by decide +kernel
theorem dX4_count_80 : decode cX4_count 80 = .ok (.getfield 7, 3) := by decide +kernel
theorem dX4_count_83 : decode cX4_count 83 = .ok (.iconst 0, 1) := by decide +kernel
theorem dX4_count_84 : decode cX4_count 84 = .ok (.iaload, 1) := by decide +kernel
theorem dX4_count_85 : decode cX4_count 85 = .ok (.ireturn, 1) := by decide +kernel
theorem dX4_count_86 : decode cX4_count 86 = .ok (.aload_n 0, 1) := by decide +kernel
theorem dX4_count_87 : decode cX4_count 87 = .ok (.invokevirtual 128, 3) := by decide +kernel
theorem dX4_count_90 : decode cX4_count 90 = .ok (.ireturn, 1) := by decide +kernel
theorem dX4_count_91 : decode cX4_count 91 = .ok (.aload_n 0, 1) := by decide +kernel
theorem dX4_count_92 : decode cX4_count 92 = .ok (.invokevirtual 128, 3) := by decide +kernel
theorem dX4_count_95 : decode cX4_count 95 = .ok (.aload_n 0, 1) := by decide +kernel
theorem dX4_count_96 : decode cX4_count 96 = .ok (.invokevirtual 122, 3) := by decide +kernel
theorem dX4_count_99 : decode cX4_count 99 = .ok (.isub, 1) := by decide +kernel
theorem dX4_count_100 : decode cX4_count 100 = .ok (.ireturn, 1) := by decide +kernel
theorem dX4_count_101 : decode cX4_count 101 = .ok (.aload_n 0, 1) := by decide +kernel
theorem dX4_count_102 : decode cX4_count 102 = .ok (.getfield 7, 3) := by decide +kernel
theorem dX4_count_105 : decode cX4_count 105 = .ok (.iconst 1, 1) := by decide +kernel
theorem dX4_count_106 : decode cX4_count 106 = .ok (.iaload, 1) := by decide +kernel
theorem dX4_count_107 : decode cX4_count 107 = .ok (.ireturn, 1) := by decide +kernel
theorem dX4_count_108 : decode cX4_count 108 = .ok (.aload_n 0, 1) := by decide +kernel
theorem dX4_count_109 : decode cX4_count 109 = .ok (.getfield 7, 3) := by decide +kernel
theorem dX4_count_112 : decode cX4_count 112 = .ok (.iconst 2, 1) := by decide +kernel
theorem dX4_count_113 : decode cX4_count 113 = .ok (.iaload, 1) := by decide +kernel
theorem dX4_count_114 : decode cX4_count 114 = .ok (.ireturn, 1) := by decide +kernel
theorem dX4_count_115 : decode cX4_count 115 = .ok (.aload_n 0, 1) := by decide +kernel
theorem dX4_count_116 : decode cX4_count 116 = .ok (.invokevirtual 72, 3) := by decide +kernel
theorem dX4_count_119 : decode cX4_count 119 = .ok (.ireturn, 1) := by decide +kernel
theorem dX4_count_120 : decode cX4_count 120 = .ok (.aload_n 0, 1) := by decide +kernel
theorem dX4_count_121 : decode cX4_count 121 = .ok (.getfield 31, 3) := by decide +kernel
theorem dX4_count_124 : decode cX4_count 124 = .ok (.ireturn, 1) := by decide +kernel
theorem dX4_count_125 : decode cX4_count 125 = .ok (.aload_n 0, 1) := by decide +kernel
theorem dX4_count_126 : decode cX4_count 126 = .ok (.getfield 131, 3) := by decide +kernel
theorem dX4_count_129 : decode cX4_count 129 = .ok (.ireturn, 1) := by decide +kernel
theorem dX4_count_130 : decode cX4_count 130 = .ok (.ldc 61, 2) := by decide +kernel
theorem dX4_count_132 : decode cX4_count 132 = .ok (.ireturn, 1) := by decide +kernel
set_option maxRecDepth 20000 in
theorem ggX4_type_X4_within : GoodIn wsX4_type wsX4_within := goodIn_r _ [8] (by decide +kernel) (by decide +kernel)
set_option maxRecDepth 20000 in
theorem gX4_type_X4_within : GoodIn wsX4_type (va_wsS RX4 37 yX4_within wsX4_within) := goodIn_app (goodIn_of _ (by decide +kernel)) ggX4_type_X4_within
theorem dX4_type_0 : decode cX4_type 0 = .ok (.iload_n 1, 1) := by decide +kernel
theorem dX4_type_1 : decode cX4_type 1 = .ok (.bipush 32, 2) := by decide +kernel
theorem dX4_type_3 : decode cX4_type 3 = .ok (.bipush 126, 2) := by decide +kernel
theorem dX4_type_5 : decode cX4_type 5 = .ok (.invokestatic 37, 3) := by decide +kernel
theorem dX4_type_8 : decode cX4_type 8 = .ok (.ifCond .ne 6, 3) := by decide +kernel
theorem dX4_type_11 : decode cX4_type 11 = .ok (.ldc 61, 2) := by decide +kernel
theorem dX4_type_13 : decode cX4_type 13 = .ok (.ireturn, 1) := by decide +kernel
theorem dX4_type_14 : decode cX4_type 14 = .ok (.aload_n 0, 1) := by decide +kernel
theorem dX4_type_15 : decode cX4_type 15 = .ok (.getfield 131, 3) := by decide +kernel
theorem dX4_type_18 : decode cX4_type 18 = .ok (.bipush 60, 2) := by decide +kernel
theorem dX4_type_20 : decode cX4_type 20 = .ok (.if_icmp .ne 6, 3) := by decide +kernel
theorem dX4_type_23 : decode cX4_type 23 = .ok (.ldc 65, 2) := by decide +kernel
theorem dX4_type_25 : decode cX4_type 25 = .ok (.ireturn, 1) := by decide +kernel
theorem dX4_type_26 : decode cX4_type 26 = .ok (.aload_n 0, 1) := by decide +kernel
theorem dX4_type_27 : decode cX4_type 27 = .ok (.getfield 19, 3) := by decide +kernel
theorem dX4_type_30 : decode cX4_type 30 = .ok (.aload_n 0, 1) := by decide +kernel
theorem dX4_type_31 : decode cX4_type 31 = .ok (.getfield 131, 3) := by decide +kernel
theorem dX4_type_34 : decode cX4_type 34 = .ok (.iload_n 1, 1) := by decide +kernel
theorem dX4_type_35 : decode cX4_type 35 = .ok (.iastore, 1) := by decide +kernel
theorem dX4_type_36 : decode cX4_type 36 = .ok (.aload_n 0, 1) := by decide +kernel
theorem dX4_type_37 : decode cX4_type 37 = .ok (.dup, 1) := by decide +kernel
theorem dX4_type_38 : decode cX4_type 38 = .ok (.getfield 131, 3) := by decide +kernel
theorem dX4_type_41 : decode cX4_type 41 = .ok (.iconst 1, 1) := by decide +kernel
theorem dX4_type_42 : decode cX4_type 42 = .ok (.iadd, 1) := by decide +kernel
theorem dX4_type_43 : decode cX4_type 43 = .ok (.putfield 131, 3) := by decide +kernel
theorem dX4_type_46 : decode cX4_type 46 = .ok (.aload_n 0, 1) := by decide +kernel
theorem dX4_type_47 : decode cX4_type 47 = .ok (.getfield 131, 3) := by decide +kernel
theorem dX4_type_50 : decode cX4_type 50 = .ok (.ireturn, 1) := by decide +kernel
theorem dX4_clearText_0 : decode cX4_clearText 0 = .ok (.aload_n 0, 1) := by decide +kernel
theorem dX4_clearText_1 : decode cX4_clearText 1 = .ok (.getfield 131, 3) := by decide +kernel
theorem dX4_clearText_4 : decode cX4_clearText 4 = .ok (.istore_n 1, 1) := by decide +kernel
theorem dX4_clearText_5 : decode cX4_clearText 5 = .ok (.aload_n 0, 1) := by decide +kernel
theorem dX4_clearText_6 : decode cX4_clearText 6 = .ok (.iconst 0, 1) := by decide +kernel
theorem dX4_clearText_7 : decode cX4_clearText 7 = .ok (.putfield 131, 3) := by decide +kernel
theorem dX4_clearText_10 : decode cX4_clearText 10 = .ok (.iload_n 1, 1) := by decide +kernel
theorem dX4_clearText_11 : decode cX4_clearText 11 = .ok (.ireturn, 1) := by decide +kernel
theorem dX4_letter_0 : decode cX4_letter 0 = .ok (.iload_n 1, 1) := by decide +kernel
theorem dX4_letter_1 : decode cX4_letter 1 = .ok (.aload_n 0, 1) := by decide +kernel
theorem dX4_letter_2 : decode cX4_letter 2 = .ok (.getfield 131, 3) := by decide +kernel
theorem dX4_letter_5 : decode cX4_letter 5 = .ok (.if_icmp .ge 12, 3) := by decide +kernel
theorem dX4_letter_8 : decode cX4_letter 8 = .ok (.aload_n 0, 1) := by decide +kernel
theorem dX4_letter_9 : decode cX4_letter 9 = .ok (.getfield 19, 3) := by decide +kernel
theorem dX4_letter_12 : decode cX4_letter 12 = .ok (.iload_n 1, 1) := by decide +kernel
theorem dX4_letter_13 : decode cX4_letter 13 = .ok (.iaload, 1) := by decide +kernel
theorem dX4_letter_14 : decode cX4_letter 14 = .ok (.goto 4, 3) := by decide +kernel
theorem dX4_letter_17 : decode cX4_letter 17 = .ok (.iconst 0, 1) := by decide +kernel
theorem dX4_letter_18 : decode cX4_letter 18 = .ok (.ireturn, 1) := by decide +kernel
set_option maxRecDepth 20000 in
theorem ggX4_passes_X4_letter : GoodIn wsX4_passes wsX4_letter := goodIn_r _ [6, 7, 8, 9, 10, 11, 12, 13, 14, 15, 16, 17, 18, 19, 20, 21, 22, 23, 24, 25] (by decide +kernel) (by decide +kernel)
set_option maxRecDepth 20000 in
theorem gX4_passes_X4_letter : GoodIn wsX4_passes (wsV RX4 137 RX4 yX4_letter wsX4_letter) := goodIn_app (goodIn_of _ (by decide +kernel)) ggX4_passes_X4_letter
theorem dX4_passes_0 : decode cX4_passes 0 = .ok (.aload_n 0, 1) := by decide +kernel
theorem dX4_passes_1 : decode cX4_passes 1 = .ok (.aload_n 0, 1) := by decide +kernel
theorem dX4_passes_2 : decode cX4_passes 2 = .ok (.getfield 134, 3) := by decide +kernel
theorem dX4_passes_5 : decode cX4_passes 5 = .ok (.invokevirtual 137, 3) := by decide +kernel
theorem dX4_passes_8 : decode cX4_passes 8 = .ok (.iload_n 1, 1) := by decide +kernel
theorem dX4_passes_9 : decode cX4_passes 9 = .ok (.if_icmp .ne 7, 3) := by decide +kernel
theorem dX4_passes_12 : decode cX4_passes 12 = .ok (.iconst 1, 1) := by decide +kernel
theorem dX4_passes_13 : decode cX4_passes 13 = .ok (.goto 4, 3) := by decide +kernel
theorem dX4_passes_16 : decode cX4_passes 16 = .ok (.iconst 0, 1) := by decide +kernel
theorem dX4_passes_17 : decode cX4_passes 17 = .ok (.istore_n 2, 1) := by decide +kernel
theorem dX4_passes_18 : decode cX4_passes 18 = .ok (.aload_n 0, 1) := by decide +kernel
theorem dX4_passes_19 : decode cX4_passes 19 = .ok (.dup, 1) := by decide +kernel
theorem dX4_passes_20 : decode cX4_passes 20 = .ok (.getfield 134, 3) := by decide +kernel
theorem dX4_passes_23 : decode cX4_passes 23 = .ok (.iload_n 2, 1) := by decide +kernel
theorem dX4_passes_24 : decode cX4_passes 24 = .ok (.ifCond .eq 7, 3) := by decide +kernel
theorem dX4_passes_27 : decode cX4_passes 27 = .ok (.iconst 1, 1) := by decide +kernel
theorem dX4_passes_28 : decode cX4_passes 28 = .ok (.goto 4, 3) := by decide +kernel
theorem dX4_passes_31 : decode cX4_passes 31 = .ok (.iconst 0, 1) := by decide +kernel
theorem dX4_passes_32 : decode cX4_passes 32 = .ok (.iadd, 1) := by decide +kernel
theorem dX4_passes_33 : decode cX4_passes 33 = .ok (.putfield 134, 3) := by decide +kernel
theorem dX4_passes_36 : decode cX4_passes 36 = .ok (.iload_n 2, 1) := by decide +kernel
theorem dX4_passes_37 : decode cX4_passes 37 = .ok (.ireturn, 1) := by decide +kernel
set_option maxRecDepth 20000 in
theorem ggX4_digit_X4_letter : GoodIn wsX4_digit wsX4_letter := goodIn_r _ [7, 8, 9, 13, 14, 15, 16, 17, 18, 19, 20, 21, 22, 23, 24, 25, 26, 27, 28, 29] (by decide +kernel) (by decide +kernel)
set_option maxRecDepth 20000 in
theorem gX4_digit_X4_letter : GoodIn wsX4_digit (wsV RX4 137 RX4 yX4_letter wsX4_letter) := goodIn_app (goodIn_of _ (by decide +kernel)) ggX4_digit_X4_letter
set_option maxRecDepth 20000 in
theorem ggX4_digit_X4_within : GoodIn wsX4_digit wsX4_within := goodIn_r _ [12] (by decide +kernel) (by decide +kernel)
set_option maxRecDepth 20000 in
theorem gX4_digit_X4_within : GoodIn wsX4_digit (va_wsS RX4 37 yX4_within wsX4_within) := goodIn_app (goodIn_of _ (by decide +kernel)) ggX4_digit_X4_within
theorem dX4_digit_0 : decode cX4_digit 0 = .ok (.aload_n 0, 1) := by decide +kernel
theorem dX4_digit_1 : decode cX4_digit 1 = .ok (.aload_n 0, 1) := by decide +kernel
theorem dX4_digit_2 : decode cX4_digit 2 = .ok (.getfield 134, 3) := by decide +kernel
theorem dX4_digit_5 : decode cX4_digit 5 = .ok (.invokevirtual 137, 3) := by decide +kernel
theorem dX4_digit_8 : decode cX4_digit 8 = .ok (.bipush 48, 2) := by decide +kernel
theorem dX4_digit_10 : decode cX4_digit 10 = .ok (.bipush 57, 2) := by decide +kernel
theorem dX4_digit_12 : decode cX4_digit 12 = .ok (.invokestatic 37, 3) := by decide +kernel
theorem dX4_digit_15 : decode cX4_digit 15 = .ok (.istore_n 2, 1) := by decide +kernel
theorem dX4_digit_16 : decode cX4_digit 16 = .ok (.aload_n 0, 1) := by decide +kernel
theorem dX4_digit_17 : decode cX4_digit 17 = .ok (.getfield 28, 3) := by decide +kernel
theorem dX4_digit_20 : decode cX4_digit 20 = .ok (.iload_n 1, 1) := by decide +kernel
theorem dX4_digit_21 : decode cX4_digit 21 = .ok (.iload_n 2, 1) := by decide +kernel
theorem dX4_digit_22 : decode cX4_digit 22 = .ok (.ifCond .eq 17, 3) := by decide +kernel
theorem dX4_digit_25 : decode cX4_digit 25 = .ok (.aload_n 0, 1) := by decide +kernel
theorem dX4_digit_26 : decode cX4_digit 26 = .ok (.aload_n 0, 1) := by decide +kernel
theorem dX4_digit_27 : decode cX4_digit 27 = .ok (.getfield 134, 3) := by decide +kernel
theorem dX4_digit_30 : decode cX4_digit 30 = .ok (.invokevirtual 137, 3) := by decide +kernel
theorem dX4_digit_33 : decode cX4_digit 33 = .ok (.bipush 48, 2) := by decide +kernel
theorem dX4_digit_35 : decode cX4_digit 35 = .ok (.isub, 1) := by decide +kernel
theorem dX4_digit_36 : decode cX4_digit 36 = .ok (.goto 4, 3) := by decide +kernel
theorem dX4_digit_39 : decode cX4_digit 39 = .ok (.iconst 0, 1) := by decide +kernel
theorem dX4_digit_40 : decode cX4_digit 40 = .ok (.iastore, 1) := by decide +kernel
theorem dX4_digit_41 : decode cX4_digit 41 = .ok (.aload_n 0, 1) := by decide +kernel
theorem dX4_digit_42 : decode cX4_digit 42 = .ok (.dup, 1) := by decide +kernel
theorem dX4_digit_43 : decode cX4_digit 43 = .ok (.getfield 134, 3) := by decide +kernel
theorem dX4_digit_46 : decode cX4_digit 46 = .ok (.iload_n 2, 1) := by decide +kernel
theorem dX4_digit_47 : decode cX4_digit 47 = .ok (.ifCond .eq 7, 3) := by decide +kernel
theorem dX4_digit_50 : decode cX4_digit 50 = .ok (.iconst 1, 1) := by decide +kernel
theorem dX4_digit_51 : decode cX4_digit 51 = .ok (.goto 4, 3) := by decide +kernel
theorem dX4_digit_54 : decode cX4_digit 54 = .ok (.iconst 0, 1) := by decide +kernel
theorem dX4_digit_55 : decode cX4_digit 55 = .ok (.iadd, 1) := by decide +kernel
theorem dX4_digit_56 : decode cX4_digit 56 = .ok (.putfield 134, 3) := by decide +kernel
theorem dX4_digit_59 : decode cX4_digit 59 = .ok (.iload_n 2, 1) := by decide +kernel
theorem dX4_digit_60 : decode cX4_digit 60 = .ok (.ireturn, 1) := by decide +kernel
set_option maxRecDepth 20000 in
theorem ggX4_name_X4_letter : GoodIn wsX4_name wsX4_letter := goodIn_r _ [8, 9, 10, 14, 15, 16, 17, 18, 19, 20, 21, 22, 23, 24, 25, 26, 27, 28, 29, 30] (by decide +kernel) (by decide +kernel)
set_option maxRecDepth 20000 in
theorem gX4_name_X4_letter : GoodIn wsX4_name (wsV RX4 137 RX4 yX4_letter wsX4_letter) := goodIn_app (goodIn_of _ (by decide +kernel)) ggX4_name_X4_letter
set_option maxRecDepth 20000 in
theorem ggX4_name_X4_within : GoodIn wsX4_name wsX4_within := goodIn_r _ [13] (by decide +kernel) (by decide +kernel)
set_option maxRecDepth 20000 in
theorem gX4_name_X4_within : GoodIn wsX4_name (va_wsS RX4 37 yX4_within wsX4_within) := goodIn_app (goodIn_of _ (by decide +kernel)) ggX4_name_X4_within
theorem dX4_name_0 : decode cX4_name 0 = .ok (.aload_n 0, 1) := by decide +kernel
theorem dX4_name_1 : decode cX4_name 1 = .ok (.iconst 0, 1) := by decide +kernel
theorem dX4_name_2 : decode cX4_name 2 = .ok (.putfield 140, 3) := by decide +kernel
theorem dX4_name_5 : decode cX4_name 5 = .ok (.aload_n 0, 1) := by decide +kernel
theorem dX4_name_6 : decode cX4_name 6 = .ok (.iconst 0, 1) := by decide +kernel
theorem dX4_name_7 : decode cX4_name 7 = .ok (.putfield 143, 3) := by decide +kernel
theorem dX4_name_10 : decode cX4_name 10 = .ok (.aload_n 0, 1) := by decide +kernel
theorem dX4_name_11 : decode cX4_name 11 = .ok (.aload_n 0, 1) := by decide +kernel
theorem dX4_name_12 : decode cX4_name 12 = .ok (.getfield 134, 3) := by decide +kernel
theorem dX4_name_15 : decode cX4_name 15 = .ok (.invokevirtual 137, 3) := by decide +kernel
theorem dX4_name_18 : decode cX4_name 18 = .ok (.bipush 97, 2) := by decide +kernel
theorem dX4_name_20 : decode cX4_name 20 = .ok (.bipush 122, 2) := by decide +kernel
theorem dX4_name_22 : decode cX4_name 22 = .ok (.invokestatic 37, 3) := by decide +kernel
theorem dX4_name_25 : decode cX4_name 25 = .ok (.ifCond .eq 67, 3) := by decide +kernel
theorem dX4_name_28 : decode cX4_name 28 = .ok (.aload_n 0, 1) := by decide +kernel
theorem dX4_name_29 : decode cX4_name 29 = .ok (.aload_n 0, 1) := by decide +kernel
theorem dX4_name_30 : decode cX4_name 30 = .ok (.getfield 140, 3) := by decide +kernel
theorem dX4_name_33 : decode cX4_name 33 = .ok (.bipush 6, 2) := by decide +kernel
theorem dX4_name_35 : decode cX4_name 35 = .ok (.if_icmp .ge 27, 3) := by decide +kernel
theorem dX4_name_38 : decode cX4_name 38 = .ok (.bipush 27, 2) := by decide +kernel
theorem dX4_name_40 : decode cX4_name 40 = .ok (.aload_n 0, 1) := by decide +kernel
theorem dX4_name_41 : decode cX4_name 41 = .ok (.getfield 143, 3) := by decide +kernel
theorem dX4_name_44 : decode cX4_name 44 = .ok (.imul, 1) := by decide +kernel
theorem dX4_name_45 : decode cX4_name 45 = .ok (.aload_n 0, 1) := by decide +kernel
theorem dX4_name_46 : decode cX4_name 46 = .ok (.aload_n 0, 1) := by decide +kernel
theorem dX4_name_47 : decode cX4_name 47 = .ok (.getfield 134, 3) := by decide +kernel
theorem dX4_name_50 : decode cX4_name 50 = .ok (.invokevirtual 137, 3) := by decide +kernel
theorem dX4_name_53 : decode cX4_name 53 = .ok (.iadd, 1) := by decide +kernel
theorem dX4_name_54 : decode cX4_name 54 = .ok (.bipush 97, 2) := by decide +kernel
theorem dX4_name_56 : decode cX4_name 56 = .ok (.isub, 1) := by decide +kernel
theorem dX4_name_57 : decode cX4_name 57 = .ok (.iconst 1, 1) := by decide +kernel
theorem dX4_name_58 : decode cX4_name 58 = .ok (.iadd, 1) := by decide +kernel
theorem dX4_name_59 : decode cX4_name 59 = .ok (.goto 7, 3) := by decide +kernel
theorem dX4_name_62 : decode cX4_name 62 = .ok (.aload_n 0, 1) := by decide +kernel
theorem dX4_name_63 : decode cX4_name 63 = .ok (.getfield 143, 3) := by decide +kernel
theorem dX4_name_66 : decode cX4_name 66 = .ok (.putfield 143, 3) := by decide +kernel
theorem dX4_name_69 : decode cX4_name 69 = .ok (.aload_n 0, 1) := by decide +kernel
theorem dX4_name_70 : decode cX4_name 70 = .ok (.dup, 1) := by decide +kernel
theorem dX4_name_71 : decode cX4_name 71 = .ok (.getfield 140, 3) := by decide +kernel
theorem dX4_name_74 : decode cX4_name 74 = .ok (.iconst 1, 1) := by decide +kernel
theorem dX4_name_75 : decode cX4_name 75 = .ok (.iadd, 1) := by decide +kernel
theorem dX4_name_76 : decode cX4_name 76 = .ok (.putfield 140, 3) := by decide +kernel
theorem dX4_name_79 : decode cX4_name 79 = .ok (.aload_n 0, 1) := by decide +kernel
theorem dX4_name_80 : decode cX4_name 80 = .ok (.dup, 1) := by decide +kernel
theorem dX4_name_81 : decode cX4_name 81 = .ok (.getfield 134, 3) := by decide +kernel
theorem dX4_name_84 : decode cX4_name 84 = .ok (.iconst 1, 1) := by decide +kernel
theorem dX4_name_85 : decode cX4_name 85 = .ok (.iadd, 1) := by decide +kernel
theorem dX4_name_86 : decode cX4_name 86 = .ok (.putfield 134, 3) := by decide +kernel
theorem dX4_name_89 : decode cX4_name 89 = .ok (.goto (-79), 3) := by decide +kernel
theorem dX4_name_92 : decode cX4_name 92 = .ok (.aload_n 0, 1) := by decide +kernel
theorem dX4_name_93 : decode cX4_name 93 = .ok (.getfield 140, 3) := by decide +kernel
theorem dX4_name_96 : decode cX4_name 96 = .ok (.ifCond .le 7, 3) := by decide +kernel
theorem dX4_name_99 : decode cX4_name 99 = .ok (.iconst 1, 1) := by decide +kernel
theorem dX4_name_100 : decode cX4_name 100 = .ok (.goto 4, 3) := by decide +kernel
theorem dX4_name_103 : decode cX4_name 103 = .ok (.iconst 0, 1) := by decide +kernel
theorem dX4_name_104 : decode cX4_name 104 = .ok (.ireturn, 1) := by decide +kernel
set_option maxRecDepth 20000 in
theorem ggX4_reads_X4_letter : GoodIn wsX4_reads wsX4_letter := goodIn_r _ [6, 7, 8, 27, 28, 29, 30, 31, 32, 33, 34, 35, 36, 37, 38, 39, 40, 41, 42, 43] (by decide +kernel) (by decide +kernel)
set_option maxRecDepth 20000 in
theorem gX4_reads_X4_letter : GoodIn wsX4_reads (wsV RX4 137 RX4 yX4_letter wsX4_letter) := goodIn_app (goodIn_of _ (by decide +kernel)) ggX4_reads_X4_letter
set_option maxRecDepth 20000 in
theorem ggX4_reads_X4_digit : GoodIn wsX4_reads wsX4_digit := goodIn_r _ [12, 1, 13, 2, 3, 4, 5, 6, 7, 8, 14, 15, 16, 27, 28, 29, 30, 31, 32, 33, 34, 35, 36, 37, 38, 39, 40, 41, 42, 43] (by decide +kernel) (by decide +kernel)
set_option maxRecDepth 20000 in
theorem gX4_reads_X4_digit : GoodIn wsX4_reads (wsV RX4 146 RX4 yX4_digit wsX4_digit) := goodIn_app (goodIn_of _ (by decide +kernel)) ggX4_reads_X4_digit
set_option maxRecDepth 20000 in
theorem ggX4_reads_X4_passes : GoodIn wsX4_reads wsX4_passes := goodIn_r _ [20, 1, 2, 3, 4, 5, 6, 7, 8, 27, 28, 29, 30, 31, 32, 33, 34, 35, 36, 37, 38, 39, 40, 41, 42, 43] (by decide +kernel) (by decide +kernel)
set_option maxRecDepth 20000 in
theorem gX4_reads_X4_passes : GoodIn wsX4_reads (wsV RX4 149 RX4 yX4_passes wsX4_passes) := goodIn_app (goodIn_of _ (by decide +kernel)) ggX4_reads_X4_passes
set_option maxRecDepth 20000 in
theorem ggX4_reads_X4_name : GoodIn wsX4_reads wsX4_name := goodIn_r _ [24, 25, 26, 1, 2, 3, 4, 5, 6, 7, 8, 14, 15, 16, 27, 28, 29, 30, 31, 32, 33, 34, 35, 36, 37, 38, 39, 40, 41, 42, 43] (by decide +kernel) (by decide +kernel)
set_option maxRecDepth 20000 in
theorem gX4_reads_X4_name : GoodIn wsX4_reads (wsV RX4 152 RX4 yX4_name wsX4_name) := goodIn_app (goodIn_of _ (by decide +kernel)) ggX4_reads_X4_name
theorem dX4_reads_0 : decode cX4_reads 0 = .ok (.aload_n 0, 1) := by decide +kernel
theorem dX4_reads_1 : decode cX4_reads 1 = .ok (.aload_n 0, 1) := by decide +kernel
theorem dX4_reads_2 : decode cX4_reads 2 = .ok (.getfield 134, 3) := by decide +kernel
theorem dX4_reads_5 : decode cX4_reads 5 = .ok (.invokevirtual 137, 3) := by decide +kernel
theorem dX4_reads_8 : decode cX4_reads 8 = .ok (.istore_n 1, 1) := by decide +kernel
theorem dX4_reads_9 : decode cX4_reads 9 = .ok (.iload_n 1, 1) := by decide +kernel
theorem dX4_reads_10 : decode cX4_reads 10 = .ok (.bipush 43, 2) := by decide +kernel
theorem dX4_reads_12 : decode cX4_reads 12 = .ok (.if_icmp .eq 23, 3) := by decide +kernel
theorem dX4_reads_15 : decode cX4_reads 15 = .ok (.iload_n 1, 1) := by decide +kernel
theorem dX4_reads_16 : decode cX4_reads 16 = .ok (.bipush 45, 2) := by decide +kernel
theorem dX4_reads_18 : decode cX4_reads 18 = .ok (.if_icmp .eq 17, 3) := by decide +kernel
theorem dX4_reads_21 : decode cX4_reads 21 = .ok (.iload_n 1, 1) := by decide +kernel
theorem dX4_reads_22 : decode cX4_reads 22 = .ok (.bipush 61, 2) := by decide +kernel
theorem dX4_reads_24 : decode cX4_reads 24 = .ok (.if_icmp .eq 11, 3) := by decide +kernel
theorem dX4_reads_27 : decode cX4_reads 27 = .ok (.iload_n 1, 1) := by decide +kernel
theorem dX4_reads_28 : decode cX4_reads 28 = .ok (.bipush 33, 2) := by decide +kernel
theorem dX4_reads_30 : decode cX4_reads 30 = .ok (.if_icmp .eq 5, 3) := by decide +kernel
theorem dX4_reads_33 : decode cX4_reads 33 = .ok (.iconst 0, 1) := by decide +kernel
theorem dX4_reads_34 : decode cX4_reads 34 = .ok (.ireturn, 1) := by decide +kernel
theorem dX4_reads_35 : decode cX4_reads 35 = .ok (.aload_n 0, 1) := by decide +kernel
theorem dX4_reads_36 : decode cX4_reads 36 = .ok (.dup, 1) := by decide +kernel
theorem dX4_reads_37 : decode cX4_reads 37 = .ok (.getfield 134, 3) := by decide +kernel
theorem dX4_reads_40 : decode cX4_reads 40 = .ok (.iconst 1, 1) := by decide +kernel
theorem dX4_reads_41 : decode cX4_reads 41 = .ok (.iadd, 1) := by decide +kernel
theorem dX4_reads_42 : decode cX4_reads 42 = .ok (.putfield 134, 3) := by decide +kernel
theorem dX4_reads_45 : decode cX4_reads 45 = .ok (.iload_n 1, 1) := by decide +kernel
theorem dX4_reads_46 : decode cX4_reads 46 = .ok (.bipush 33, 2) := by decide +kernel
theorem dX4_reads_48 : decode cX4_reads 48 = .ok (.if_icmp .ne 26, 3) := by decide +kernel
theorem dX4_reads_51 : decode cX4_reads 51 = .ok (.aload_n 0, 1) := by decide +kernel
theorem dX4_reads_52 : decode cX4_reads 52 = .ok (.iconst 0, 1) := by decide +kernel
theorem dX4_reads_53 : decode cX4_reads 53 = .ok (.invokevirtual 146, 3) := by decide +kernel
theorem dX4_reads_56 : decode cX4_reads 56 = .ok (.ifCond .eq 16, 3) := by decide +kernel
