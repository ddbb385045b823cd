theorem dX4_givesBack_66 : decode cX4_givesBack 66 = .ok (.ireturn, 1) := by decide +kernel
set_option maxRecDepth 20000 in
theorem ggX4_canAcquire_X4_numberWith : GoodIn wsX4_canAcquire wsX4_numberWith := goodIn_r _ [6, 1, 15, 16, 17, 18, 19, 20, 21, 22, 23, 24, 25, 26, 27, 28, 29, 30, 31] (by decide +kernel) (by decide +kernel)
set_option maxRecDepth 20000 in
theorem gX4_canAcquire_X4_numberWith : GoodIn wsX4_canAcquire (wsV RX4 47 RX4 yX4_numberWith wsX4_numberWith) := goodIn_app (goodIn_of _ (by decide +kernel)) ggX4_canAcquire_X4_numberWith
set_option maxRecDepth 20000 in
theorem ggX4_canAcquire_X4_freeNumber : GoodIn wsX4_canAcquire wsX4_freeNumber := goodIn_r _ [10, 11, 12, 13, 5, 14, 1, 15, 16, 17, 18, 19, 20, 21, 22, 23, 24, 25, 26, 27, 28, 29, 30, 31] (by decide +kernel) (by decide +kernel)
set_option maxRecDepth 20000 in
theorem gX4_canAcquire_X4_freeNumber : GoodIn wsX4_canAcquire (wsV RX4 51 RX4 yX4_freeNumber wsX4_freeNumber) := goodIn_app (goodIn_of _ (by decide +kernel)) ggX4_canAcquire_X4_freeNumber
theorem dX4_canAcquire_0 : decode cX4_canAcquire 0 = .ok (.aload_n 0, 1) := by decide +kernel
theorem dX4_canAcquire_1 : decode cX4_canAcquire 1 = .ok (.iload_n 1, 1) := by decide +kernel
theorem dX4_canAcquire_2 : decode cX4_canAcquire 2 = .ok (.invokevirtual 47, 3) := by decide +kernel
theorem dX4_canAcquire_5 : decode cX4_canAcquire 5 = .ok (.istore_n 2, 1) := by decide +kernel
theorem dX4_canAcquire_6 : decode cX4_canAcquire 6 = .ok (.iload_n 2, 1) := by decide +kernel
theorem dX4_canAcquire_7 : decode cX4_canAcquire 7 = .ok (.ifCond .lt 26, 3) := by decide +kernel
theorem dX4_canAcquire_10 : decode cX4_canAcquire 10 = .ok (.aload_n 0, 1) := by decide +kernel
theorem dX4_canAcquire_11 : decode cX4_canAcquire 11 = .ok (.getfield 7, 3) := by decide +kernel
theorem dX4_canAcquire_14 : decode cX4_canAcquire 14 = .ok (.bipush 44, 2) := by decide +kernel
theorem dX4_canAcquire_16 : decode cX4_canAcquire 16 = .ok (.iload_n 2, 1) := by decide +kernel
theorem dX4_canAcquire_17 : decode cX4_canAcquire 17 = .ok (.iadd, 1) := by decide +kernel
theorem dX4_canAcquire_18 : decode cX4_canAcquire 18 = .ok (.iaload, 1) := by decide +kernel
theorem dX4_canAcquire_19 : decode cX4_canAcquire 19 = .ok (.sipush 999, 3) := by decide +kernel
theorem dX4_canAcquire_22 : decode cX4_canAcquire 22 = .ok (.if_icmp .ge 7, 3) := by decide +kernel
theorem dX4_canAcquire_25 : decode cX4_canAcquire 25 = .ok (.iconst 1, 1) := by decide +kernel
theorem dX4_canAcquire_26 : decode cX4_canAcquire 26 = .ok (.goto 19, 3) := by decide +kernel
theorem dX4_canAcquire_29 : decode cX4_canAcquire 29 = .ok (.iconst 0, 1) := by decide +kernel
theorem dX4_canAcquire_30 : decode cX4_canAcquire 30 = .ok (.goto 15, 3) := by decide +kernel
theorem dX4_canAcquire_33 : decode cX4_canAcquire 33 = .ok (.aload_n 0, 1) := by decide +kernel
theorem dX4_canAcquire_34 : decode cX4_canAcquire 34 = .ok (.invokevirtual 51, 3) := by decide +kernel
theorem dX4_canAcquire_37 : decode cX4_canAcquire 37 = .ok (.ifCond .lt 7, 3) := by decide +kernel
theorem dX4_canAcquire_40 : decode cX4_canAcquire 40 = .ok (.iconst 1, 1) := by decide +kernel
theorem dX4_canAcquire_41 : decode cX4_canAcquire 41 = .ok (.goto 4, 3) := by decide +kernel
theorem dX4_canAcquire_44 : decode cX4_canAcquire 44 = .ok (.iconst 0, 1) := by decide +kernel
theorem dX4_canAcquire_45 : decode cX4_canAcquire 45 = .ok (.ireturn, 1) := by decide +kernel
set_option maxRecDepth 20000 in
theorem ggX4_acquires_X4_numberWith : GoodIn wsX4_acquires wsX4_numberWith := goodIn_r _ [6, 1, 20, 21, 22, 23, 24, 25, 26, 27, 28, 29, 30, 31, 32, 33, 34, 35, 36] (by decide +kernel) (by decide +kernel)
set_option maxRecDepth 20000 in
theorem gX4_acquires_X4_numberWith : GoodIn wsX4_acquires (wsV RX4 47 RX4 yX4_numberWith wsX4_numberWith) := goodIn_app (goodIn_of _ (by decide +kernel)) ggX4_acquires_X4_numberWith
set_option maxRecDepth 20000 in
theorem ggX4_acquires_X4_freeNumber : GoodIn wsX4_acquires wsX4_freeNumber := goodIn_r _ [10, 11, 12, 13, 5, 14, 1, 20, 21, 22, 23, 24, 25, 26, 27, 28, 29, 30, 31, 32, 33, 34, 35, 36] (by decide +kernel) (by decide +kernel)
set_option maxRecDepth 20000 in
theorem gX4_acquires_X4_freeNumber : GoodIn wsX4_acquires (wsV RX4 51 RX4 yX4_freeNumber wsX4_freeNumber) := goodIn_app (goodIn_of _ (by decide +kernel)) ggX4_acquires_X4_freeNumber
set_option maxRecDepth 20000 in
theorem ggX4_acquires_X4_tagOf : GoodIn wsX4_acquires wsX4_tagOf := goodIn_r _ [18, 19, 1, 20, 21, 22, 23, 24, 25, 26, 27, 28, 29, 30, 31, 32, 33, 34, 35, 36] (by decide +kernel) (by decide +kernel)
set_option maxRecDepth 20000 in
theorem gX4_acquires_X4_tagOf : GoodIn wsX4_acquires (wsV RX4 55 RX4 yX4_tagOf wsX4_tagOf) := goodIn_app (goodIn_of _ (by decide +kernel)) ggX4_acquires_X4_tagOf
theorem dX4_acquires_0 : decode cX4_acquires 0 = .ok (.aload_n 0, 1) := by decide +kernel
theorem dX4_acquires_1 : decode cX4_acquires 1 = .ok (.iload_n 1, 1) := by decide +kernel
theorem dX4_acquires_2 : decode cX4_acquires 2 = .ok (.invokevirtual 47, 3) := by decide +kernel
theorem dX4_acquires_5 : decode cX4_acquires 5 = .ok (.istore_n 2, 1) := by decide +kernel
theorem dX4_acquires_6 : decode cX4_acquires 6 = .ok (.iload_n 2, 1) := by decide +kernel
theorem dX4_acquires_7 : decode cX4_acquires 7 = .ok (.ifCond .ge 37, 3) := by decide +kernel
theorem dX4_acquires_10 : decode cX4_acquires 10 = .ok (.aload_n 0, 1) := by decide +kernel
theorem dX4_acquires_11 : decode cX4_acquires 11 = .ok (.invokevirtual 51, 3) := by decide +kernel
theorem dX4_acquires_14 : decode cX4_acquires 14 = .ok (.istore_n 2, 1) := by decide +kernel
theorem dX4_acquires_15 : decode cX4_acquires 15 = .ok (.aload_n 0, 1) := by decide +kernel
theorem dX4_acquires_16 : decode cX4_acquires 16 = .ok (.getfield 7, 3) := by decide +kernel
theorem dX4_acquires_19 : decode cX4_acquires 19 = .ok (.iconst 4, 1) := by decide +kernel
theorem dX4_acquires_20 : decode cX4_acquires 20 = .ok (.iload_n 2, 1) := by decide +kernel
theorem dX4_acquires_21 : decode cX4_acquires 21 = .ok (.iadd, 1) := by decide +kernel
theorem dX4_acquires_22 : decode cX4_acquires 22 = .ok (.iload_n 1, 1) := by decide +kernel
theorem dX4_acquires_23 : decode cX4_acquires 23 = .ok (.iastore, 1) := by decide +kernel
theorem dX4_acquires_24 : decode cX4_acquires 24 = .ok (.aload_n 0, 1) := by decide +kernel
theorem dX4_acquires_25 : decode cX4_acquires 25 = .ok (.getfield 7, 3) := by decide +kernel
theorem dX4_acquires_28 : decode cX4_acquires 28 = .ok (.bipush 44, 2) := by decide +kernel
theorem dX4_acquires_30 : decode cX4_acquires 30 = .ok (.iload_n 2, 1) := by decide +kernel
theorem dX4_acquires_31 : decode cX4_acquires 31 = .ok (.iadd, 1) := by decide +kernel
theorem dX4_acquires_32 : decode cX4_acquires 32 = .ok (.iconst 0, 1) := by decide +kernel
theorem dX4_acquires_33 : decode cX4_acquires 33 = .ok (.iastore, 1) := by decide +kernel
theorem dX4_acquires_34 : decode cX4_acquires 34 = .ok (.aload_n 0, 1) := by decide +kernel
theorem dX4_acquires_35 : decode cX4_acquires 35 = .ok (.getfield 7, 3) := by decide +kernel
theorem dX4_acquires_38 : decode cX4_acquires 38 = .ok (.iconst 1, 1) := by decide +kernel
theorem dX4_acquires_39 : decode cX4_acquires 39 = .ok (.dup2, 1) := by decide +kernel
theorem dX4_acquires_40 : decode cX4_acquires 40 = .ok (.iaload, 1) := by decide +kernel
theorem dX4_acquires_41 : decode cX4_acquires 41 = .ok (.iconst 1, 1) := by decide +kernel
theorem dX4_acquires_42 : decode cX4_acquires 42 = .ok (.iadd, 1) := by decide +kernel
theorem dX4_acquires_43 : decode cX4_acquires 43 = .ok (.iastore, 1) := by decide +kernel
theorem dX4_acquires_44 : decode cX4_acquires 44 = .ok (.aload_n 0, 1) := by decide +kernel
theorem dX4_acquires_45 : decode cX4_acquires 45 = .ok (.getfield 7, 3) := by decide +kernel
theorem dX4_acquires_48 : decode cX4_acquires 48 = .ok (.bipush 44, 2) := by decide +kernel
theorem dX4_acquires_50 : decode cX4_acquires 50 = .ok (.iload_n 2, 1) := by decide +kernel
theorem dX4_acquires_51 : decode cX4_acquires 51 = .ok (.iadd, 1) := by decide +kernel
theorem dX4_acquires_52 : decode cX4_acquires 52 = .ok (.dup2, 1) := by decide +kernel
theorem dX4_acquires_53 : decode cX4_acquires 53 = .ok (.iaload, 1) := by decide +kernel
theorem dX4_acquires_54 : decode cX4_acquires 54 = .ok (.iconst 1, 1) := by decide +kernel
theorem dX4_acquires_55 : decode cX4_acquires 55 = .ok (.iadd, 1) := by decide +kernel
theorem dX4_acquires_56 : decode cX4_acquires 56 = .ok (.iastore, 1) := by decide +kernel
theorem dX4_acquires_57 : decode cX4_acquires 57 = .ok (.aload_n 0, 1) := by decide +kernel
theorem dX4_acquires_58 : decode cX4_acquires 58 = .ok (.iload_n 2, 1) := by decide +kernel
theorem dX4_acquires_59 : decode cX4_acquires 59 = .ok (.invokevirtual 55, 3) := by decide +kernel
theorem dX4_acquires_62 : decode cX4_acquires 62 = .ok (.ireturn, 1) := by decide +kernel
set_option maxRecDepth 20000 in
theorem ggX4_acquire_X4_isName : GoodIn wsX4_acquire wsX4_isName := goodIn_r _ [6, 7, 8, 9, 5, 10] (by decide +kernel) (by decide +kernel)
set_option maxRecDepth 20000 in
theorem gX4_acquire_X4_isName : GoodIn wsX4_acquire (va_wsS RX4 58 yX4_isName wsX4_isName) := goodIn_app (goodIn_of _ (by decide +kernel)) ggX4_acquire_X4_isName
set_option maxRecDepth 20000 in
theorem ggX4_acquire_X4_canAcquire : GoodIn wsX4_acquire wsX4_canAcquire := goodIn_r _ [14, 15, 16, 17, 18, 5, 19, 20, 21, 22, 23, 24, 25, 26, 27, 43, 44, 45, 46, 47, 48, 49, 50, 51, 52, 53, 54, 55, 56, 57, 58, 59] (by decide +kernel) (by decide +kernel)
set_option maxRecDepth 20000 in
theorem gX4_acquire_X4_canAcquire : GoodIn wsX4_acquire (wsV RX4 62 RX4 yX4_canAcquire wsX4_canAcquire) := goodIn_app (goodIn_of _ (by decide +kernel)) ggX4_acquire_X4_canAcquire
set_option maxRecDepth 20000 in
theorem ggX4_acquire_X4_saves : GoodIn wsX4_acquire wsX4_saves := goodIn_r _ [31, 32, 33, 15, 43, 44, 45, 46, 47, 48, 49, 50, 51, 52, 53, 54, 55, 56, 57, 58, 59] (by decide +kernel) (by decide +kernel)
set_option maxRecDepth 20000 in
theorem gX4_acquire_X4_saves : GoodIn wsX4_acquire (wsV RX4 66 RX4 yX4_saves wsX4_saves) := goodIn_app (goodIn_of _ (by decide +kernel)) ggX4_acquire_X4_saves
set_option maxRecDepth 20000 in
theorem ggX4_acquire_X4_acquires : GoodIn wsX4_acquire wsX4_acquires := goodIn_r _ [37, 15, 16, 17, 18, 5, 19, 20, 21, 22, 23, 24, 25, 26, 27, 38, 39, 40, 41, 42, 43, 44, 45, 46, 47, 48, 49, 50, 51, 52, 53, 54, 55, 56, 57, 58, 59] (by decide +kernel) (by decide +kernel)
set_option maxRecDepth 20000 in
theorem gX4_acquire_X4_acquires : GoodIn wsX4_acquire (wsV RX4 69 RX4 yX4_acquires wsX4_acquires) := goodIn_app (goodIn_of _ (by decide +kernel)) ggX4_acquire_X4_acquires
theorem dX4_acquire_0 : decode cX4_acquire 0 = .ok (.iload_n 1, 1) := by decide +kernel
theorem dX4_acquire_1 : decode cX4_acquire 1 = .ok (.invokestatic 58, 3) := by decide +kernel
theorem dX4_acquire_4 : decode cX4_acquire 4 = .ok (.ifCond .ne 6, 3) := by decide +kernel
theorem dX4_acquire_7 : decode cX4_acquire 7 = .ok (.ldc 61, 2) := by decide +kernel
theorem dX4_acquire_9 : decode cX4_acquire 9 = .ok (.ireturn, 1) := by decide +kernel
theorem dX4_acquire_10 : decode cX4_acquire 10 = .ok (.aload_n 0, 1) := by decide +kernel
theorem dX4_acquire_11 : decode cX4_acquire 11 = .ok (.iload_n 1, 1) := by decide +kernel
theorem dX4_acquire_12 : decode cX4_acquire 12 = .ok (.invokevirtual 62, 3) := by decide +kernel
theorem dX4_acquire_15 : decode cX4_acquire 15 = .ok (.ifCond .ne 6, 3) := by decide +kernel
theorem dX4_acquire_18 : decode cX4_acquire 18 = .ok (.ldc 65, 2) := by decide +kernel
theorem dX4_acquire_20 : decode cX4_acquire 20 = .ok (.ireturn, 1) := by decide +kernel
theorem dX4_acquire_21 : decode cX4_acquire 21 = .ok (.aload_n 0, 1) := by decide +kernel
theorem dX4_acquire_22 : decode cX4_acquire 22 = .ok (.invokevirtual 66, 3) := by decide +kernel
theorem dX4_acquire_25 : decode cX4_acquire 25 = .ok (.aload_n 0, 1) := by decide +kernel
theorem dX4_acquire_26 : decode cX4_acquire 26 = .ok (.iload_n 1, 1) := by decide +kernel
theorem dX4_acquire_27 : decode cX4_acquire 27 = .ok (.invokevirtual 69, 3) := by decide +kernel
theorem dX4_acquire_30 : decode cX4_acquire 30 = .ok (.ireturn, 1) := by decide +kernel
theorem dX4_kept_0 : decode cX4_kept 0 = .ok (.aload_n 0, 1) := by decide +kernel
theorem dX4_kept_1 : decode cX4_kept 1 = .ok (.getfield 7, 3) := by decide +kernel
theorem dX4_kept_4 : decode cX4_kept 4 = .ok (.iconst 3, 1) := by decide +kernel
theorem dX4_kept_5 : decode cX4_kept 5 = .ok (.iaload, 1) := by decide +kernel
theorem dX4_kept_6 : decode cX4_kept 6 = .ok (.iconst 3, 1) := by decide +kernel
theorem dX4_kept_7 : decode cX4_kept 7 = .ok (.if_icmp .ge 12, 3) := by decide +kernel
theorem dX4_kept_10 : decode cX4_kept 10 = .ok (.aload_n 0, 1) := by decide +kernel
theorem dX4_kept_11 : decode cX4_kept 11 = .ok (.getfield 7, 3) := by decide +kernel
theorem dX4_kept_14 : decode cX4_kept 14 = .ok (.iconst 3, 1) := by decide +kernel
theorem dX4_kept_15 : decode cX4_kept 15 = .ok (.iaload, 1) := by decide +kernel
theorem dX4_kept_16 : decode cX4_kept 16 = .ok (.goto 4, 3) := by decide +kernel
theorem dX4_kept_19 : decode cX4_kept 19 = .ok (.iconst 3, 1) := by decide +kernel
theorem dX4_kept_20 : decode cX4_kept 20 = .ok (.ireturn, 1) := by decide +kernel
theorem dX4_ofCompaction_0 : decode cX4_ofCompaction 0 = .ok (.aload_n 0, 1) := by decide +kernel
theorem dX4_ofCompaction_1 : decode cX4_ofCompaction 1 = .ok (.getfield 7, 3) := by decide +kernel
theorem dX4_ofCompaction_4 : decode cX4_ofCompaction 4 = .ok (.sipush 142, 3) := by decide +kernel
theorem dX4_ofCompaction_7 : decode cX4_ofCompaction 7 = .ok (.bipush 123, 2) := by decide +kernel
theorem dX4_ofCompaction_9 : decode cX4_ofCompaction 9 = .ok (.iload_n 1, 1) := by decide +kernel
theorem dX4_ofCompaction_10 : decode cX4_ofCompaction 10 = .ok (.imul, 1) := by decide +kernel
theorem dX4_ofCompaction_11 : decode cX4_ofCompaction 11 = .ok (.iadd, 1) := by decide +kernel
theorem dX4_ofCompaction_12 : decode cX4_ofCompaction 12 = .ok (.iload_n 2, 1) := by decide +kernel
theorem dX4_ofCompaction_13 : decode cX4_ofCompaction 13 = .ok (.iadd, 1) := by decide +kernel
theorem dX4_ofCompaction_14 : decode cX4_ofCompaction 14 = .ok (.iaload, 1) := by decide +kernel
theorem dX4_ofCompaction_15 : decode cX4_ofCompaction 15 = .ok (.ireturn, 1) := by decide +kernel
set_option maxRecDepth 20000 in
theorem ggX4_reasonOf_X4_kept : GoodIn wsX4_reasonOf wsX4_kept := goodIn_r _ [8, 2, 17, 18, 19, 20, 21, 22, 23, 24, 25, 26, 27, 28, 29, 30, 31, 32, 33] (by decide +kernel) (by decide +kernel)
set_option maxRecDepth 20000 in
theorem gX4_reasonOf_X4_kept : GoodIn wsX4_reasonOf (wsV RX4 72 RX4 yX4_kept wsX4_kept) := goodIn_app (goodIn_of _ (by decide +kernel)) ggX4_reasonOf_X4_kept
set_option maxRecDepth 20000 in
theorem ggX4_reasonOf_X4_ofCompaction : GoodIn wsX4_reasonOf wsX4_ofCompaction := goodIn_r _ [12, 2, 17, 18, 19, 20, 21, 22, 23, 24, 25, 26, 27, 28, 29, 30, 31, 32, 33] (by decide +kernel) (by decide +kernel)
set_option maxRecDepth 20000 in
theorem gX4_reasonOf_X4_ofCompaction : GoodIn wsX4_reasonOf (wsV RX4 75 RX4 yX4_ofCompaction wsX4_ofCompaction) := goodIn_app (goodIn_of _ (by decide +kernel)) ggX4_reasonOf_X4_ofCompaction
set_option maxRecDepth 20000 in
theorem ggX4_reasonOf_X4_isNamed : GoodIn wsX4_reasonOf wsX4_isNamed := goodIn_r _ [16, 2, 17, 18, 19, 20, 21, 22, 23, 24, 25, 26, 27, 28, 29, 30, 31, 32, 33] (by decide +kernel) (by decide +kernel)
set_option maxRecDepth 20000 in
theorem gX4_reasonOf_X4_isNamed : GoodIn wsX4_reasonOf (wsV RX4 42 RX4 yX4_isNamed wsX4_isNamed) := goodIn_app (goodIn_of _ (by decide +kernel)) ggX4_reasonOf_X4_isNamed
theorem dX4_reasonOf_0 : decode cX4_reasonOf 0 = .ok (.iload_n 1, 1) := by decide +kernel
theorem dX4_reasonOf_1 : decode cX4_reasonOf 1 = .ok (.bipush 100, 2) := by decide +kernel
theorem dX4_reasonOf_3 : decode cX4_reasonOf 3 = .ok (.irem, 1) := by decide +kernel
theorem dX4_reasonOf_4 : decode cX4_reasonOf 4 = .ok (.istore_n 2, 1) := by decide +kernel
theorem dX4_reasonOf_5 : decode cX4_reasonOf 5 = .ok (.iload_n 1, 1) := by decide +kernel
theorem dX4_reasonOf_6 : decode cX4_reasonOf 6 = .ok (.ifCond .lt 22, 3) := by decide +kernel
theorem dX4_reasonOf_9 : decode cX4_reasonOf 9 = .ok (.iload_n 2, 1) := by decide +kernel
theorem dX4_reasonOf_10 : decode cX4_reasonOf 10 = .ok (.bipush 40, 2) := by decide +kernel
theorem dX4_reasonOf_12 : decode cX4_reasonOf 12 = .ok (.if_icmp .ge 16, 3) := by decide +kernel
theorem dX4_reasonOf_15 : decode cX4_reasonOf 15 = .ok (.iload_n 1, 1) := by decide +kernel
theorem dX4_reasonOf_16 : decode cX4_reasonOf 16 = .ok (.ldc 46, 2) := by decide +kernel
theorem dX4_reasonOf_18 : decode cX4_reasonOf 18 = .ok (.idiv, 1) := by decide +kernel
theorem dX4_reasonOf_19 : decode cX4_reasonOf 19 = .ok (.aload_n 0, 1) := by decide +kernel
theorem dX4_reasonOf_20 : decode cX4_reasonOf 20 = .ok (.getfield 7, 3) := by decide +kernel
theorem dX4_reasonOf_23 : decode cX4_reasonOf 23 = .ok (.iconst 0, 1) := by decide +kernel
theorem dX4_reasonOf_24 : decode cX4_reasonOf 24 = .ok (.iaload, 1) := by decide +kernel
theorem dX4_reasonOf_25 : decode cX4_reasonOf 25 = .ok (.if_icmp .le 5, 3) := by decide +kernel
theorem dX4_reasonOf_28 : decode cX4_reasonOf 28 = .ok (.iconst 1, 1) := by decide +kernel
theorem dX4_reasonOf_29 : decode cX4_reasonOf 29 = .ok (.ireturn, 1) := by decide +kernel
theorem dX4_reasonOf_30 : decode cX4_reasonOf 30 = .ok (.iload_n 1, 1) := by decide +kernel
theorem dX4_reasonOf_31 : decode cX4_reasonOf 31 = .ok (.ldc 46, 2) := by decide +kernel
theorem dX4_reasonOf_33 : decode cX4_reasonOf 33 = .ok (.idiv, 1) := by decide +kernel
theorem dX4_reasonOf_34 : decode cX4_reasonOf 34 = .ok (.istore_n 3, 1) := by decide +kernel
theorem dX4_reasonOf_35 : decode cX4_reasonOf 35 = .ok (.iload_n 1, 1) := by decide +kernel
theorem dX4_reasonOf_36 : decode cX4_reasonOf 36 = .ok (.bipush 100, 2) := by decide +kernel
theorem dX4_reasonOf_38 : decode cX4_reasonOf 38 = .ok (.idiv, 1) := by decide +kernel
theorem dX4_reasonOf_39 : decode cX4_reasonOf 39 = .ok (.sipush 10000, 3) := by decide +kernel
theorem dX4_reasonOf_42 : decode cX4_reasonOf 42 = .ok (.irem, 1) := by decide +kernel
theorem dX4_reasonOf_43 : decode cX4_reasonOf 43 = .ok (.istore 4, 2) := by decide +kernel
theorem dX4_reasonOf_45 : decode cX4_reasonOf 45 = .ok (.iload_n 3, 1) := by decide +kernel
theorem dX4_reasonOf_46 : decode cX4_reasonOf 46 = .ok (.aload_n 0, 1) := by decide +kernel
theorem dX4_reasonOf_47 : decode cX4_reasonOf 47 = .ok (.getfield 7, 3) := by decide +kernel
theorem dX4_reasonOf_50 : decode cX4_reasonOf 50 = .ok (.iconst 0, 1) := by decide +kernel
theorem dX4_reasonOf_51 : decode cX4_reasonOf 51 = .ok (.iaload, 1) := by decide +kernel
theorem dX4_reasonOf_52 : decode cX4_reasonOf 52 = .ok (.aload_n 0, 1) := by decide +kernel
theorem dX4_reasonOf_53 : decode cX4_reasonOf 53 = .ok (.invokevirtual 72, 3) := by decide +kernel
theorem dX4_reasonOf_56 : decode cX4_reasonOf 56 = .ok (.isub, 1) := by decide +kernel
theorem dX4_reasonOf_57 : decode cX4_reasonOf 57 = .ok (.if_icmp .ge 5, 3) := by decide +kernel
theorem dX4_reasonOf_60 : decode cX4_reasonOf 60 = .ok (.iconst 2, 1) := by decide +kernel
theorem dX4_reasonOf_61 : decode cX4_reasonOf 61 = .ok (.ireturn, 1) := by decide +kernel
theorem dX4_reasonOf_62 : decode cX4_reasonOf 62 = .ok (.iload_n 3, 1) := by decide +kernel
theorem dX4_reasonOf_63 : decode cX4_reasonOf 63 = .ok (.istore 5, 2) := by decide +kernel
theorem dX4_reasonOf_65 : decode cX4_reasonOf 65 = .ok (.iload 5, 2) := by decide +kernel
theorem dX4_reasonOf_67 : decode cX4_reasonOf 67 = .ok (.aload_n 0, 1) := by decide +kernel
theorem dX4_reasonOf_68 : decode cX4_reasonOf 68 = .ok (.getfield 7, 3) := by decide +kernel
theorem dX4_reasonOf_71 : decode cX4_reasonOf 71 = .ok (.iconst 0, 1) := by decide +kernel
theorem dX4_reasonOf_72 : decode cX4_reasonOf 72 = .ok (.iaload, 1) := by decide +kernel
theorem dX4_reasonOf_73 : decode cX4_reasonOf 73 = .ok (.if_icmp .ge 61, 3) := by decide +kernel
theorem dX4_reasonOf_76 : decode cX4_reasonOf 76 = .ok (.aload_n 0, 1) := by decide +kernel
theorem dX4_reasonOf_77 : decode cX4_reasonOf 77 = .ok (.getfield 7, 3) := by decide +kernel
theorem dX4_reasonOf_80 : decode cX4_reasonOf 80 = .ok (.iconst 0, 1) := by decide +kernel
theorem dX4_reasonOf_81 : decode cX4_reasonOf 81 = .ok (.iaload, 1) := by decide +kernel
theorem dX4_reasonOf_82 : decode cX4_reasonOf 82 = .ok (.iconst 1, 1) := by decide +kernel
theorem dX4_reasonOf_83 : decode cX4_reasonOf 83 = .ok (.isub, 1) := by decide +kernel
theorem dX4_reasonOf_84 : decode cX4_reasonOf 84 = .ok (.iload 5, 2) := by decide +kernel
theorem dX4_reasonOf_86 : decode cX4_reasonOf 86 = .ok (.isub, 1) := by decide +kernel
theorem dX4_reasonOf_87 : decode cX4_reasonOf 87 = .ok (.istore 6, 2) := by decide +kernel
theorem dX4_reasonOf_89 : decode cX4_reasonOf 89 = .ok (.aload_n 0, 1) := by decide +kernel
theorem dX4_reasonOf_90 : decode cX4_reasonOf 90 = .ok (.iload 6, 2) := by decide +kernel
theorem dX4_reasonOf_92 : decode cX4_reasonOf 92 = .ok (.iconst 3, 1) := by decide +kernel
theorem dX4_reasonOf_93 : decode cX4_reasonOf 93 = .ok (.iload_n 2, 1) := by decide +kernel
theorem dX4_reasonOf_94 : decode cX4_reasonOf 94 = .ok (.iadd, 1) := by decide +kernel
theorem dX4_reasonOf_95 : decode cX4_reasonOf 95 = .ok (.invokevirtual 75, 3) := by decide +kernel
theorem dX4_reasonOf_98 : decode cX4_reasonOf 98 = .ok (.iload 4, 2) := by decide +kernel
theorem dX4_reasonOf_100 : decode cX4_reasonOf 100 = .ok (.if_icmp .eq 5, 3) := by decide +kernel
theorem dX4_reasonOf_103 : decode cX4_reasonOf 103 = .ok (.iconst 3, 1) := by decide +kernel
theorem dX4_reasonOf_104 : decode cX4_reasonOf 104 = .ok (.ireturn, 1) := by decide +kernel
theorem dX4_reasonOf_105 : decode cX4_reasonOf 105 = .ok (.aload_n 0, 1) := by decide +kernel
theorem dX4_reasonOf_106 : decode cX4_reasonOf 106 = .ok (.iload 6, 2) := by decide +kernel
theorem dX4_reasonOf_108 : decode cX4_reasonOf 108 = .ok (.bipush 83, 2) := by decide +kernel
theorem dX4_reasonOf_110 : decode cX4_reasonOf 110 = .ok (.iload_n 2, 1) := by decide +kernel
theorem dX4_reasonOf_111 : decode cX4_reasonOf 111 = .ok (.iadd, 1) := by decide +kernel
theorem dX4_reasonOf_112 : decode cX4_reasonOf 112 = .ok (.invokevirtual 75, 3) := by decide +kernel
theorem dX4_reasonOf_115 : decode cX4_reasonOf 115 = .ok (.istore 4, 2) := by decide +kernel
theorem dX4_reasonOf_117 : decode cX4_reasonOf 117 = .ok (.aload_n 0, 1) := by decide +kernel
theorem dX4_reasonOf_118 : decode cX4_reasonOf 118 = .ok (.iload 6, 2) := by decide +kernel
theorem dX4_reasonOf_120 : decode cX4_reasonOf 120 = .ok (.bipush 43, 2) := by decide +kernel
theorem dX4_reasonOf_122 : decode cX4_reasonOf 122 = .ok (.iload_n 2, 1) := by decide +kernel
theorem dX4_reasonOf_123 : decode cX4_reasonOf 123 = .ok (.iadd, 1) := by decide +kernel
theorem dX4_reasonOf_124 : decode cX4_reasonOf 124 = .ok (.invokevirtual 75, 3) := by decide +kernel
theorem dX4_reasonOf_127 : decode cX4_reasonOf 127 = .ok (.istore_n 2, 1) := by decide +kernel
theorem dX4_reasonOf_128 : decode cX4_reasonOf 128 = .ok (.iinc 5 1, 3) := by decide +kernel
theorem dX4_reasonOf_131 : decode cX4_reasonOf 131 = .ok (.goto (-66), 3) := by decide +kernel
theorem dX4_reasonOf_134 : decode cX4_reasonOf 134 = .ok (.aload_n 0, 1) := by decide +kernel
theorem dX4_reasonOf_135 : decode cX4_reasonOf 135 = .ok (.iload_n 2, 1) := by decide +kernel
theorem dX4_reasonOf_136 : decode cX4_reasonOf 136 = .ok (.putfield 79, 3) := by decide +kernel
theorem dX4_reasonOf_139 : decode cX4_reasonOf 139 = .ok (.aload_n 0, 1) := by decide +kernel
theorem dX4_reasonOf_140 : decode cX4_reasonOf 140 = .ok (.iload_n 2, 1) := by decide +kernel
theorem dX4_reasonOf_141 : decode cX4_reasonOf 141 = .ok (.invokevirtual 42, 3) := by decide +kernel
theorem dX4_reasonOf_144 : decode cX4_reasonOf 144 = .ok (.ifCond .eq 21, 3) := by decide +kernel
theorem dX4_reasonOf_147 : decode cX4_reasonOf 147 = .ok (.aload_n 0, 1) := by decide +kernel
theorem dX4_reasonOf_148 : decode cX4_reasonOf 148 = .ok (.getfield 7, 3) := by decide +kernel
theorem dX4_reasonOf_151 : decode cX4_reasonOf 151 = .ok (.bipush 84, 2) := by decide +kernel
theorem dX4_reasonOf_153 : decode cX4_reasonOf 153 = .ok (.iload_n 2, 1) := by decide +kernel
theorem dX4_reasonOf_154 : decode cX4_reasonOf 154 = .ok (.iadd, 1) := by decide +kernel
theorem dX4_reasonOf_155 : decode cX4_reasonOf 155 = .ok (.iaload, 1) := by decide +kernel
theorem dX4_reasonOf_156 : decode cX4_reasonOf 156 = .ok (.iload 4, 2) := by decide +kernel
theorem dX4_reasonOf_158 : decode cX4_reasonOf 158 = .ok (.if_icmp .ne 7, 3) := by decide +kernel
theorem dX4_reasonOf_161 : decode cX4_reasonOf 161 = .ok (.iconst 0, 1) := by decide +kernel
theorem dX4_reasonOf_162 : decode cX4_reasonOf 162 = .ok (.goto 4, 3) := by decide +kernel
theorem dX4_reasonOf_165 : decode cX4_reasonOf 165 = .ok (.iconst 4, 1) := by decide +kernel
theorem dX4_reasonOf_166 : decode cX4_reasonOf 166 = .ok (.ireturn, 1) := by decide +kernel
set_option maxRecDepth 20000 in
theorem ggX4_why_X4_reasonOf : GoodIn wsX4_why wsX4_reasonOf := goodIn_r _ [5, 6, 7, 8, 9, 10, 11, 4, 12, 13, 14, 15, 16, 17, 18, 19, 20, 21, 22, 23, 24, 25, 26, 27, 28, 29, 30, 31, 32, 33, 34, 35, 36, 37] (by decide +kernel) (by decide +kernel)
set_option maxRecDepth 20000 in
theorem gX4_why_X4_reasonOf : GoodIn wsX4_why (wsV RX4 82 RX4 yX4_reasonOf wsX4_reasonOf) := goodIn_app (goodIn_of _ (by decide +kernel)) ggX4_why_X4_reasonOf
theorem dX4_why_0 : decode cX4_why 0 = .ok (.aload_n 0, 1) := by decide +kernel
theorem dX4_why_1 : decode cX4_why 1 = .ok (.iload_n 1, 1) := by decide +kernel
theorem dX4_why_2 : decode cX4_why 2 = .ok (.invokevirtual 82, 3) := by decide +kernel
theorem dX4_why_5 : decode cX4_why 5 = .ok (.ireturn, 1) := by decide +kernel
set_option maxRecDepth 20000 in
theorem ggX4_follow_X4_reasonOf : GoodIn wsX4_follow wsX4_reasonOf := goodIn_r _ [7, 8, 9, 2, 10, 11, 12, 6, 13, 14, 15, 16, 17, 18, 19, 20, 21, 26, 27, 28, 29, 30, 31, 32, 33, 34, 35, 36, 37, 38, 39, 40, 41, 42] (by decide +kernel) (by decide +kernel)
set_option maxRecDepth 20000 in
theorem gX4_follow_X4_reasonOf : GoodIn wsX4_follow (wsV RX4 82 RX4 yX4_reasonOf wsX4_reasonOf) := goodIn_app (goodIn_of _ (by decide +kernel)) ggX4_follow_X4_reasonOf
set_option maxRecDepth 20000 in
theorem ggX4_follow_X4_tagOf : GoodIn wsX4_follow wsX4_tagOf := goodIn_r _ [25, 8, 9, 26, 27, 28, 29, 30, 31, 32, 33, 34, 35, 36, 37, 38, 39, 40, 41, 42] (by decide +kernel) (by decide +kernel)
set_option maxRecDepth 20000 in
theorem gX4_follow_X4_tagOf : GoodIn wsX4_follow (wsV RX4 55 RX4 yX4_tagOf wsX4_tagOf) := goodIn_app (goodIn_of _ (by decide +kernel)) ggX4_follow_X4_tagOf
theorem dX4_follow_0 : decode cX4_follow 0 = .ok (.aload_n 0, 1) := by decide +kernel
theorem dX4_follow_1 : decode cX4_follow 1 = .ok (.iload_n 1, 1) := by decide +kernel
theorem dX4_follow_2 : decode cX4_follow 2 = .ok (.invokevirtual 82, 3) := by decide +kernel
theorem dX4_follow_5 : decode cX4_follow 5 = .ok (.ifCond .eq 8, 3) := by decide +kernel
theorem dX4_follow_8 : decode cX4_follow 8 = .ok (.ldc 85, 2) := by decide +kernel
theorem dX4_follow_10 : decode cX4_follow 10 = .ok (.goto 11, 3) := by decide +kernel
theorem dX4_follow_13 : decode cX4_follow 13 = .ok (.aload_n 0, 1) := by decide +kernel
theorem dX4_follow_14 : decode cX4_follow 14 = .ok (.aload_n 0, 1) := by decide +kernel
theorem dX4_follow_15 : decode cX4_follow 15 = .ok (.getfield 79, 3) := by decide +kernel
theorem dX4_follow_18 : decode cX4_follow 18 = .ok (.invokevirtual 55, 3) := by decide +kernel
theorem dX4_follow_21 : decode cX4_follow 21 = .ok (.ireturn, 1) := by decide +kernel
set_option maxRecDepth 20000 in
theorem ggX4_nameOf_X4_reasonOf : GoodIn wsX4_nameOf wsX4_reasonOf := goodIn_r _ [8, 9, 2, 3, 10, 11, 12, 7, 13, 14, 15, 16, 17, 18, 19, 20, 21, 22, 23, 24, 25, 26, 27, 28, 29, 30, 31, 32, 33, 34, 35, 36, 37, 38] (by decide +kernel) (by decide +kernel)
set_option maxRecDepth 20000 in
theorem gX4_nameOf_X4_reasonOf : GoodIn wsX4_nameOf (wsV RX4 82 RX4 yX4_reasonOf wsX4_reasonOf) := goodIn_app (goodIn_of _ (by decide +kernel)) ggX4_nameOf_X4_reasonOf
theorem dX4_nameOf_0 : decode cX4_nameOf 0 = .ok (.aload_n 0, 1) := by decide +kernel
theorem dX4_nameOf_1 : decode cX4_nameOf 1 = .ok (.iload_n 1, 1) := by decide +kernel
theorem dX4_nameOf_2 : decode cX4_nameOf 2 = .ok (.invokevirtual 82, 3) := by decide +kernel
theorem dX4_nameOf_5 : decode cX4_nameOf 5 = .ok (.ifCond .eq 8, 3) := by decide +kernel
theorem dX4_nameOf_8 : decode cX4_nameOf 8 = .ok (.ldc 85, 2) := by decide +kernel
theorem dX4_nameOf_10 : decode cX4_nameOf 10 = .ok (.goto 14, 3) := by decide +kernel
theorem dX4_nameOf_13 : decode cX4_nameOf 13 = .ok (.aload_n 0, 1) := by decide +kernel
theorem dX4_nameOf_14 : decode cX4_nameOf 14 = .ok (.getfield 7, 3) := by decide +kernel
theorem dX4_nameOf_17 : decode cX4_nameOf 17 = .ok (.iconst 4, 1) := by decide +kernel
theorem dX4_nameOf_18 : decode cX4_nameOf 18 = .ok (.aload_n 0, 1) := by decide +kernel
theorem dX4_nameOf_19 : decode cX4_nameOf 19 = .ok (.getfield 79, 3) := by decide +kernel
theorem dX4_nameOf_22 : decode cX4_nameOf 22 = .ok (.iadd, 1) := by decide +kernel
theorem dX4_nameOf_23 : decode cX4_nameOf 23 = .ok (.iaload, 1) := by decide +kernel
theorem dX4_nameOf_24 : decode cX4_nameOf 24 = .ok (.ireturn, 1) := by decide +kernel
set_option maxRecDepth 20000 in
theorem ggX4_use_X4_reasonOf : GoodIn wsX4_use wsX4_reasonOf := goodIn_r _ [9, 10, 2, 3, 11, 12, 13, 8, 14, 15, 16, 17, 18, 19, 20, 21, 22, 29, 30, 31, 32, 33, 34, 35, 36, 37, 38, 39, 40, 41, 42, 43, 44, 45] (by decide +kernel) (by decide +kernel)
set_option maxRecDepth 20000 in
theorem gX4_use_X4_reasonOf : GoodIn wsX4_use (wsV RX4 82 RX4 yX4_reasonOf wsX4_reasonOf) := goodIn_app (goodIn_of _ (by decide +kernel)) ggX4_use_X4_reasonOf
set_option maxRecDepth 20000 in
theorem ggX4_use_X4_saves : GoodIn wsX4_use wsX4_saves := goodIn_r _ [26, 27, 28, 2, 29, 30, 31, 32, 33, 34, 35, 36, 37, 38, 39, 40, 41, 42, 43, 44, 45] (by decide +kernel) (by decide +kernel)
set_option maxRecDepth 20000 in
theorem gX4_use_X4_saves : GoodIn wsX4_use (wsV RX4 66 RX4 yX4_saves wsX4_saves) := goodIn_app (goodIn_of _ (by decide +kernel)) ggX4_use_X4_saves
theorem dX4_use_0 : decode cX4_use 0 = .ok (.aload_n 0, 1) := by decide +kernel
theorem dX4_use_1 : decode cX4_use 1 = .ok (.iload_n 1, 1) := by decide +kernel
theorem dX4_use_2 : decode cX4_use 2 = .ok (.invokevirtual 82, 3) := by decide +kernel
theorem dX4_use_5 : decode cX4_use 5 = .ok (.ifCond .eq 6, 3) := by decide +kernel
theorem dX4_use_8 : decode cX4_use 8 = .ok (.ldc 85, 2) := by decide +kernel
theorem dX4_use_10 : decode cX4_use 10 = .ok (.ireturn, 1) := by decide +kernel
theorem dX4_use_11 : decode cX4_use 11 = .ok (.aload_n 0, 1) := by decide +kernel
theorem dX4_use_12 : decode cX4_use 12 = .ok (.getfield 7, 3) := by decide +kernel
theorem dX4_use_15 : decode cX4_use 15 = .ok (.bipush 44, 2) := by decide +kernel
theorem dX4_use_17 : decode cX4_use 17 = .ok (.aload_n 0, 1) := by decide +kernel
theorem dX4_use_18 : decode cX4_use 18 = .ok (.getfield 79, 3) := by decide +kernel
theorem dX4_use_21 : decode cX4_use 21 = .ok (.iadd, 1) := by decide +kernel
theorem dX4_use_22 : decode cX4_use 22 = .ok (.iaload, 1) := by decide +kernel
theorem dX4_use_23 : decode cX4_use 23 = .ok (.sipush 999, 3) := by decide +kernel
theorem dX4_use_26 : decode cX4_use 26 = .ok (.if_icmp .ne 6, 3) := by decide +kernel
theorem dX4_use_29 : decode cX4_use 29 = .ok (.ldc 65, 2) := by decide +kernel
theorem dX4_use_31 : decode cX4_use 31 = .ok (.ireturn, 1) := by decide +kernel
theorem dX4_use_32 : decode cX4_use 32 = .ok (.aload_n 0, 1) := by decide +kernel
theorem dX4_use_33 : decode cX4_use 33 = .ok (.invokevirtual 66, 3) := by decide +kernel
theorem dX4_use_36 : decode cX4_use 36 = .ok (.aload_n 0, 1) := by decide +kernel
theorem dX4_use_37 : decode cX4_use 37 = .ok (.getfield 7, 3) := by decide +kernel
theorem dX4_use_40 : decode cX4_use 40 = .ok (.bipush 44, 2) := by decide +kernel
theorem dX4_use_42 : decode cX4_use 42 = .ok (.aload_n 0, 1) := by decide +kernel
theorem dX4_use_43 : decode cX4_use 43 = .ok (.getfield 79, 3) := by decide +kernel
theorem dX4_use_46 : decode cX4_use 46 = .ok (.iadd, 1) := by decide +kernel
theorem dX4_use_47 : decode cX4_use 47 = .ok (.dup2, 1) := by decide +kernel
theorem dX4_use_48 : decode cX4_use 48 = .ok (.iaload, 1) := by decide +kernel
theorem dX4_use_49 : decode cX4_use 49 = .ok (.iconst 1, 1) := by decide +kernel
theorem dX4_use_50 : decode cX4_use 50 = .ok (.iadd, 1) := by decide +kernel
theorem dX4_use_51 : decode cX4_use 51 = .ok (.iastore, 1) := by decide +kernel
theorem dX4_use_52 : decode cX4_use 52 = .ok (.aload_n 0, 1) := by decide +kernel
theorem dX4_use_53 : decode cX4_use 53 = .ok (.getfield 7, 3) := by decide +kernel
theorem dX4_use_56 : decode cX4_use 56 = .ok (.bipush 44, 2) := by decide +kernel
theorem dX4_use_58 : decode cX4_use 58 = .ok (.aload_n 0, 1) := by decide +kernel
theorem dX4_use_59 : decode cX4_use 59 = .ok (.getfield 79, 3) := by decide +kernel
theorem dX4_use_62 : decode cX4_use 62 = .ok (.iadd, 1) := by decide +kernel
theorem dX4_use_63 : decode cX4_use 63 = .ok (.iaload, 1) := by decide +kernel
theorem dX4_use_64 : decode cX4_use 64 = .ok (.ireturn, 1) := by decide +kernel
set_option maxRecDepth 20000 in
theorem ggX4_release_X4_reasonOf : GoodIn wsX4_release wsX4_reasonOf := goodIn_r _ [9, 10, 2, 3, 11, 12, 13, 8, 14, 15, 16, 17, 18, 19, 20, 21, 22, 37, 38, 39, 40, 41, 42, 43, 44, 45, 46, 47, 48, 49, 50, 51, 52, 53] (by decide +kernel) (by decide +kernel)
set_option maxRecDepth 20000 in
theorem gX4_release_X4_reasonOf : GoodIn wsX4_release (wsV RX4 82 RX4 yX4_reasonOf wsX4_reasonOf) := goodIn_app (goodIn_of _ (by decide +kernel)) ggX4_release_X4_reasonOf
set_option maxRecDepth 20000 in
theorem ggX4_release_X4_cellsWith : GoodIn wsX4_release wsX4_cellsWith := goodIn_r _ [26, 2, 37, 38, 39, 40, 41, 42, 43, 44, 45, 46, 47, 48, 49, 50, 51, 52, 53] (by decide +kernel) (by decide +kernel)
set_option maxRecDepth 20000 in
theorem gX4_release_X4_cellsWith : GoodIn wsX4_release (wsV RX4 86 RX4 yX4_cellsWith wsX4_cellsWith) := goodIn_app (goodIn_of _ (by decide +kernel)) ggX4_release_X4_cellsWith
set_option maxRecDepth 20000 in
theorem ggX4_release_X4_saves : GoodIn wsX4_release wsX4_saves := goodIn_r _ [30, 31, 32, 2, 37, 38, 39, 40, 41, 42, 43, 44, 45, 46, 47, 48, 49, 50, 51, 52, 53] (by decide +kernel) (by decide +kernel)
set_option maxRecDepth 20000 in
theorem gX4_release_X4_saves : GoodIn wsX4_release (wsV RX4 66 RX4 yX4_saves wsX4_saves) := goodIn_app (goodIn_of _ (by decide +kernel)) ggX4_release_X4_saves
set_option maxRecDepth 20000 in
theorem ggX4_release_X4_givesBack : GoodIn wsX4_release wsX4_givesBack := goodIn_r _ [36, 2, 37, 38, 39, 40, 41, 42, 43, 44, 45, 46, 47, 48, 49, 50, 51, 52, 53] (by decide +kernel) (by decide +kernel)
set_option maxRecDepth 20000 in
theorem gX4_release_X4_givesBack : GoodIn wsX4_release (wsV RX4 89 RX4 yX4_givesBack wsX4_givesBack) := goodIn_app (goodIn_of _ (by decide +kernel)) ggX4_release_X4_givesBack
theorem dX4_release_0 : decode cX4_release 0 = .ok (.aload_n 0, 1) := by decide +kernel
theorem dX4_release_1 : decode cX4_release 1 = .ok (.iload_n 1, 1) := by decide +kernel
theorem dX4_release_2 : decode cX4_release 2 = .ok (.invokevirtual 82, 3) := by decide +kernel
theorem dX4_release_5 : decode cX4_release 5 = .ok (.ifCond .eq 6, 3) := by decide +kernel
theorem dX4_release_8 : decode cX4_release 8 = .ok (.ldc 85, 2) := by decide +kernel
theorem dX4_release_10 : decode cX4_release 10 = .ok (.ireturn, 1) := by decide +kernel
theorem dX4_release_11 : decode cX4_release 11 = .ok (.aload_n 0, 1) := by decide +kernel
theorem dX4_release_12 : decode cX4_release 12 = .ok (.getfield 7, 3) := by decide +kernel
theorem dX4_release_15 : decode cX4_release 15 = .ok (.bipush 44, 2) := by decide +kernel
theorem dX4_release_17 : decode cX4_release 17 = .ok (.aload_n 0, 1) := by decide +kernel
theorem dX4_release_18 : decode cX4_release 18 = .ok (.getfield 79, 3) := by decide +kernel
theorem dX4_release_21 : decode cX4_release 21 = .ok (.iadd, 1) := by decide +kernel
theorem dX4_release_22 : decode cX4_release 22 = .ok (.iaload, 1) := by decide +kernel
theorem dX4_release_23 : decode cX4_release 23 = .ok (.aload_n 0, 1) := by decide +kernel
theorem dX4_release_24 : decode cX4_release 24 = .ok (.aload_n 0, 1) := by decide +kernel
theorem dX4_release_25 : decode cX4_release 25 = .ok (.getfield 79, 3) := by decide +kernel
theorem dX4_release_28 : decode cX4_release 28 = .ok (.invokevirtual 86, 3) := by decide +kernel
theorem dX4_release_31 : decode cX4_release 31 = .ok (.if_icmp .ne 6, 3) := by decide +kernel
theorem dX4_release_34 : decode cX4_release 34 = .ok (.ldc 35, 2) := by decide +kernel
theorem dX4_release_36 : decode cX4_release 36 = .ok (.ireturn, 1) := by decide +kernel
theorem dX4_release_37 : decode cX4_release 37 = .ok (.aload_n 0, 1) := by decide +kernel
theorem dX4_release_38 : decode cX4_release 38 = .ok (.invokevirtual 66, 3) := by decide +kernel
theorem dX4_release_41 : decode cX4_release 41 = .ok (.aload_n 0, 1) := by decide +kernel
theorem dX4_release_42 : decode cX4_release 42 = .ok (.aload_n 0, 1) := by decide +kernel
theorem dX4_release_43 : decode cX4_release 43 = .ok (.getfield 79, 3) := by decide +kernel
theorem dX4_release_46 : decode cX4_release 46 = .ok (.invokevirtual 89, 3) := by decide +kernel
theorem dX4_release_49 : decode cX4_release 49 = .ok (.ireturn, 1) := by decide +kernel
set_option maxRecDepth 20000 in
theorem ggX4_isCell_X4_within : GoodIn wsX4_isCell wsX4_within := goodIn_r _ [4] (by decide +kernel) (by decide +kernel)
set_option maxRecDepth 20000 in
theorem gX4_isCell_X4_within : GoodIn wsX4_isCell (va_wsS RX4 37 yX4_within wsX4_within) := goodIn_app (goodIn_of _ (by decide +kernel)) ggX4_isCell_X4_within
theorem dX4_isCell_0 : decode cX4_isCell 0 = .ok (.iload_n 0, 1) := by decide +kernel
theorem dX4_isCell_1 : decode cX4_isCell 1 = .ok (.iconst 0, 1) := by decide +kernel
theorem dX4_isCell_2 : decode cX4_isCell 2 = .ok (.iconst 2, 1) := by decide +kernel
theorem dX4_isCell_3 : decode cX4_isCell 3 = .ok (.invokestatic 37, 3) := by decide +kernel
theorem dX4_isCell_6 : decode cX4_isCell 6 = .ok (.ifCond .eq 16, 3) := by decide +kernel
theorem dX4_isCell_9 : decode cX4_isCell 9 = .ok (.iload_n 1, 1) := by decide +kernel
theorem dX4_isCell_10 : decode cX4_isCell 10 = .ok (.iconst 0, 1) := by decide +kernel
theorem dX4_isCell_11 : decode cX4_isCell 11 = .ok (.iconst 5, 1) := by decide +kernel
theorem dX4_isCell_12 : decode cX4_isCell 12 = .ok (.invokestatic 37, 3) := by decide +kernel
theorem dX4_isCell_15 : decode cX4_isCell 15 = .ok (.ifCond .eq 7, 3) := by decide +kernel
theorem dX4_isCell_18 : decode cX4_isCell 18 = .ok (.iconst 1, 1) := by decide +kernel
theorem dX4_isCell_19 : decode cX4_isCell 19 = .ok (.goto 4, 3) := by decide +kernel
theorem dX4_isCell_22 : decode cX4_isCell 22 = .ok (.iconst 0, 1) := by decide +kernel
theorem dX4_isCell_23 : decode cX4_isCell 23 = .ok (.ireturn, 1) := by decide +kernel
set_option maxRecDepth 20000 in
theorem ggX4_puts_X4_givesBack : GoodIn wsX4_puts wsX4_givesBack := goodIn_r _ [6, 1, 7, 8, 9, 10, 11, 12, 13, 14, 15, 16, 17, 18, 19, 20, 21, 22, 23] (by decide +kernel) (by decide +kernel)
set_option maxRecDepth 20000 in
theorem gX4_puts_X4_givesBack : GoodIn wsX4_puts (wsV RX4 89 RX4 yX4_givesBack wsX4_givesBack) := goodIn_app (goodIn_of _ (by decide +kernel)) ggX4_puts_X4_givesBack
theorem dX4_puts_0 : decode cX4_puts 0 = .ok (.aload_n 0, 1) := by decide +kernel
theorem dX4_puts_1 : decode cX4_puts 1 = .ok (.getfield 7, 3) := by decide +kernel
theorem dX4_puts_4 : decode cX4_puts 4 = .ok (.bipush 124, 2) := by decide +kernel
theorem dX4_puts_6 : decode cX4_puts 6 = .ok (.iload_n 1, 1) := by decide +kernel
theorem dX4_puts_7 : decode cX4_puts 7 = .ok (.iadd, 1) := by decide +kernel
theorem dX4_puts_8 : decode cX4_puts 8 = .ok (.iaload, 1) := by decide +kernel
theorem dX4_puts_9 : decode cX4_puts 9 = .ok (.istore_n 3, 1) := by decide +kernel
theorem dX4_puts_10 : decode cX4_puts 10 = .ok (.aload_n 0, 1) := by decide +kernel
theorem dX4_puts_11 : decode cX4_puts 11 = .ok (.getfield 7, 3) := by decide +kernel
theorem dX4_puts_14 : decode cX4_puts 14 = .ok (.bipush 44, 2) := by decide +kernel
theorem dX4_puts_16 : decode cX4_puts 16 = .ok (.iload_n 2, 1) := by decide +kernel
theorem dX4_puts_17 : decode cX4_puts 17 = .ok (.iadd, 1) := by decide +kernel
theorem dX4_puts_18 : decode cX4_puts 18 = .ok (.dup2, 1) := by decide +kernel
theorem dX4_puts_19 : decode cX4_puts 19 = .ok (.iaload, 1) := by decide +kernel
theorem dX4_puts_20 : decode cX4_puts 20 = .ok (.iconst 1, 1) := by decide +kernel
theorem dX4_puts_21 : decode cX4_puts 21 = .ok (.iadd, 1) := by decide +kernel
theorem dX4_puts_22 : decode cX4_puts 22 = .ok (.iastore, 1) := by decide +kernel
theorem dX4_puts_23 : decode cX4_puts 23 = .ok (.aload_n 0, 1) := by decide +kernel
theorem dX4_puts_24 : decode cX4_puts 24 = .ok (.getfield 7, 3) := by decide +kernel
theorem dX4_puts_27 : decode cX4_puts 27 = .ok (.bipush 124, 2) := by decide +kernel
theorem dX4_puts_29 : decode cX4_puts 29 = .ok (.iload_n 1, 1) := by decide +kernel
theorem dX4_puts_30 : decode cX4_puts 30 = .ok (.iadd, 1) := by decide +kernel
theorem dX4_puts_31 : decode cX4_puts 31 = .ok (.iload_n 2, 1) := by decide +kernel
theorem dX4_puts_32 : decode cX4_puts 32 = .ok (.iastore, 1) := by decide +kernel
theorem dX4_puts_33 : decode cX4_puts 33 = .ok (.iload_n 3, 1) := by decide +kernel
theorem dX4_puts_34 : decode cX4_puts 34 = .ok (.ifCond .lt 9, 3) := by decide +kernel
theorem dX4_puts_37 : decode cX4_puts 37 = .ok (.aload_n 0, 1) := by decide +kernel
theorem dX4_puts_38 : decode cX4_puts 38 = .ok (.iload_n 3, 1) := by decide +kernel
theorem dX4_puts_39 : decode cX4_puts 39 = .ok (.invokevirtual 89, 3) := by decide +kernel
theorem dX4_puts_42 : decode cX4_puts 42 = .ok (.pop, 1) := by decide +kernel
theorem dX4_puts_43 : decode cX4_puts 43 = .ok (.aload_n 0, 1) := by decide +kernel
theorem dX4_puts_44 : decode cX4_puts 44 = .ok (.getfield 7, 3) := by decide +kernel
theorem dX4_puts_47 : decode cX4_puts 47 = .ok (.bipush 44, 2) := by decide +kernel
theorem dX4_puts_49 : decode cX4_puts 49 = .ok (.iload_n 2, 1) := by decide +kernel
theorem dX4_puts_50 : decode cX4_puts 50 = .ok (.iadd, 1) := by decide +kernel
theorem dX4_puts_51 : decode cX4_puts 51 = .ok (.iaload, 1) := by decide +kernel
theorem dX4_puts_52 : decode cX4_puts 52 = .ok (.ireturn, 1) := by decide +kernel
set_option maxRecDepth 20000 in
theorem ggX4_put_X4_isCell : GoodIn wsX4_put wsX4_isCell := goodIn_r _ [9, 10, 11, 8, 12] (by decide +kernel) (by decide +kernel)
set_option maxRecDepth 20000 in
theorem gX4_put_X4_isCell : GoodIn wsX4_put (va_wsS RX4 92 yX4_isCell wsX4_isCell) := goodIn_app (goodIn_of _ (by decide +kernel)) ggX4_put_X4_isCell
set_option maxRecDepth 20000 in
theorem ggX4_put_X4_reasonOf : GoodIn wsX4_put wsX4_reasonOf := goodIn_r _ [16, 17, 3, 4, 18, 19, 20, 8, 21, 22, 23, 24, 25, 26, 27, 28, 29, 44, 45, 46, 47, 48, 49, 50, 51, 52, 53, 54, 55, 56, 57, 58, 59, 60] (by decide +kernel) (by decide +kernel)
set_option maxRecDepth 20000 in
theorem gX4_put_X4_reasonOf : GoodIn wsX4_put (wsV RX4 82 RX4 yX4_reasonOf wsX4_reasonOf) := goodIn_app (goodIn_of _ (by decide +kernel)) ggX4_put_X4_reasonOf
set_option maxRecDepth 20000 in
theorem ggX4_put_X4_saves : GoodIn wsX4_put wsX4_saves := goodIn_r _ [33, 34, 35, 3, 44, 45, 46, 47, 48, 49, 50, 51, 52, 53, 54, 55, 56, 57, 58, 59, 60] (by decide +kernel) (by decide +kernel)
set_option maxRecDepth 20000 in
theorem gX4_put_X4_saves : GoodIn wsX4_put (wsV RX4 66 RX4 yX4_saves wsX4_saves) := goodIn_app (goodIn_of _ (by decide +kernel)) ggX4_put_X4_saves
set_option maxRecDepth 20000 in
theorem ggX4_put_X4_puts : GoodIn wsX4_put wsX4_puts := goodIn_r _ [39, 3, 40, 41, 42, 8, 43, 44, 45, 46, 47, 48, 49, 50, 51, 52, 53, 54, 55, 56, 57, 58, 59, 60] (by decide +kernel) (by decide +kernel)
set_option maxRecDepth 20000 in
theorem gX4_put_X4_puts : GoodIn wsX4_put (wsV RX4 96 RX4 yX4_puts wsX4_puts) := goodIn_app (goodIn_of _ (by decide +kernel)) ggX4_put_X4_puts
theorem dX4_put_0 : decode cX4_put 0 = .ok (.iload_n 1, 1) := by decide +kernel
theorem dX4_put_1 : decode cX4_put 1 = .ok (.iload_n 2, 1) := by decide +kernel
theorem dX4_put_2 : decode cX4_put 2 = .ok (.invokestatic 92, 3) := by decide +kernel
theorem dX4_put_5 : decode cX4_put 5 = .ok (.ifCond .ne 6, 3) := by decide +kernel
theorem dX4_put_8 : decode cX4_put 8 = .ok (.ldc 61, 2) := by decide +kernel
theorem dX4_put_10 : decode cX4_put 10 = .ok (.ireturn, 1) := by decide +kernel
theorem dX4_put_11 : decode cX4_put 11 = .ok (.aload_n 0, 1) := by decide +kernel
theorem dX4_put_12 : decode cX4_put 12 = .ok (.iload_n 3, 1) := by decide +kernel
theorem dX4_put_13 : decode cX4_put 13 = .ok (.invokevirtual 82, 3) := by decide +kernel
theorem dX4_put_16 : decode cX4_put 16 = .ok (.ifCond .eq 6, 3) := by decide +kernel
theorem dX4_put_19 : decode cX4_put 19 = .ok (.ldc 85, 2) := by decide +kernel
theorem dX4_put_21 : decode cX4_put 21 = .ok (.ireturn, 1) := by decide +kernel
theorem dX4_put_22 : decode cX4_put 22 = .ok (.aload_n 0, 1) := by decide +kernel
theorem dX4_put_23 : decode cX4_put 23 = .ok (.getfield 7, 3) := by decide +kernel
theorem dX4_put_26 : decode cX4_put 26 = .ok (.bipush 44, 2) := by decide +kernel
theorem dX4_put_28 : decode cX4_put 28 = .ok (.aload_n 0, 1) := by decide +kernel
theorem dX4_put_29 : decode cX4_put 29 = .ok (.getfield 79, 3) := by decide +kernel
theorem dX4_put_32 : decode cX4_put 32 = .ok (.iadd, 1) := by decide +kernel
theorem dX4_put_33 : decode cX4_put 33 = .ok (.iaload, 1) := by decide +kernel
theorem dX4_put_34 : decode cX4_put 34 = .ok (.sipush 999, 3) := by decide +kernel
theorem dX4_put_37 : decode cX4_put 37 = .ok (.if_icmp .ne 6, 3) := by decide +kernel
theorem dX4_put_40 : decode cX4_put 40 = .ok (.ldc 65, 2) := by decide +kernel
theorem dX4_put_42 : decode cX4_put 42 = .ok (.ireturn, 1) := by decide +kernel
theorem dX4_put_43 : decode cX4_put 43 = .ok (.aload_n 0, 1) := by decide +kernel
theorem dX4_put_44 : decode cX4_put 44 = .ok (.invokevirtual 66, 3) := by decide +kernel
theorem dX4_put_47 : decode cX4_put 47 = .ok (.aload_n 0, 1) := by decide +kernel
theorem dX4_put_48 : decode cX4_put 48 = .ok (.bipush 6, 2) := by decide +kernel
theorem dX4_put_50 : decode cX4_put 50 = .ok (.iload_n 1, 1) := by decide +kernel
theorem dX4_put_51 : decode cX4_put 51 = .ok (.imul, 1) := by decide +kernel
theorem dX4_put_52 : decode cX4_put 52 = .ok (.iload_n 2, 1) := by decide +kernel
theorem dX4_put_53 : decode cX4_put 53 = .ok (.iadd, 1) := by decide +kernel
theorem dX4_put_54 : decode cX4_put 54 = .ok (.aload_n 0, 1) := by decide +kernel
theorem dX4_put_55 : decode cX4_put 55 = .ok (.getfield 79, 3) := by decide +kernel
theorem dX4_put_58 : decode cX4_put 58 = .ok (.invokevirtual 96, 3) := by decide +kernel
theorem dX4_put_61 : decode cX4_put 61 = .ok (.ireturn, 1) := by decide +kernel
set_option maxRecDepth 20000 in
theorem ggX4_clear_X4_isCell : GoodIn wsX4_clear wsX4_isCell := goodIn_r _ [7, 8, 9, 6, 10] (by decide +kernel) (by decide +kernel)
set_option maxRecDepth 20000 in
theorem gX4_clear_X4_isCell : GoodIn wsX4_clear (va_wsS RX4 92 yX4_isCell wsX4_isCell) := goodIn_app (goodIn_of _ (by decide +kernel)) ggX4_clear_X4_isCell
set_option maxRecDepth 20000 in
theorem ggX4_clear_X4_saves : GoodIn wsX4_clear wsX4_saves := goodIn_r _ [14, 15, 16, 2, 21, 22, 23, 24, 25, 26, 27, 28, 29, 30, 31, 32, 33, 34, 35, 36, 37] (by decide +kernel) (by decide +kernel)
set_option maxRecDepth 20000 in
theorem gX4_clear_X4_saves : GoodIn wsX4_clear (wsV RX4 66 RX4 yX4_saves wsX4_saves) := goodIn_app (goodIn_of _ (by decide +kernel)) ggX4_clear_X4_saves
set_option maxRecDepth 20000 in
theorem ggX4_clear_X4_givesBack : GoodIn wsX4_clear wsX4_givesBack := goodIn_r _ [20, 2, 21, 22, 23, 24, 25, 26, 27, 28, 29, 30, 31, 32, 33, 34, 35, 36, 37] (by decide +kernel) (by decide +kernel)
set_option maxRecDepth 20000 in
theorem gX4_clear_X4_givesBack : GoodIn wsX4_clear (wsV RX4 89 RX4 yX4_givesBack wsX4_givesBack) := goodIn_app (goodIn_of _ (by decide +kernel)) ggX4_clear_X4_givesBack
theorem dX4_clear_0 : decode cX4_clear 0 = .ok (.iload_n 1, 1) := by decide +kernel
theorem dX4_clear_1 : decode cX4_clear 1 = .ok (.iload_n 2, 1) := by decide +kernel
theorem dX4_clear_2 : decode cX4_clear 2 = .ok (.invokestatic 92, 3) := by decide +kernel
theorem dX4_clear_5 : decode cX4_clear 5 = .ok (.ifCond .ne 6, 3) := by decide +kernel
theorem dX4_clear_8 : decode cX4_clear 8 = .ok (.ldc 61, 2) := by decide +kernel
theorem dX4_clear_10 : decode cX4_clear 10 = .ok (.ireturn, 1) := by decide +kernel
theorem dX4_clear_11 : decode cX4_clear 11 = .ok (.bipush 6, 2) := by decide +kernel
theorem dX4_clear_13 : decode cX4_clear 13 = .ok (.iload_n 1, 1) := by decide +kernel
theorem dX4_clear_14 : decode cX4_clear 14 = .ok (.imul, 1) := by decide +kernel
theorem dX4_clear_15 : decode cX4_clear 15 = .ok (.iload_n 2, 1) := by decide +kernel
theorem dX4_clear_16 : decode cX4_clear 16 = .ok (.iadd, 1) := by decide +kernel
theorem dX4_clear_17 : decode cX4_clear 17 = .ok (.istore_n 3, 1) := by decide +kernel
theorem dX4_clear_18 : decode cX4_clear 18 = .ok (.aload_n 0, 1) := by decide +kernel
theorem dX4_clear_19 : decode cX4_clear 19 = .ok (.getfield 7, 3) := by decide +kernel
theorem dX4_clear_22 : decode cX4_clear 22 = .ok (.bipush 124, 2) := by decide +kernel
theorem dX4_clear_24 : decode cX4_clear 24 = .ok (.iload_n 3, 1) := by decide +kernel
theorem dX4_clear_25 : decode cX4_clear 25 = .ok (.iadd, 1) := by decide +kernel
theorem dX4_clear_26 : decode cX4_clear 26 = .ok (.iaload, 1) := by decide +kernel
theorem dX4_clear_27 : decode cX4_clear 27 = .ok (.istore 4, 2) := by decide +kernel
theorem dX4_clear_29 : decode cX4_clear 29 = .ok (.iload 4, 2) := by decide +kernel
theorem dX4_clear_31 : decode cX4_clear 31 = .ok (.ifCond .ge 6, 3) := by decide +kernel
theorem dX4_clear_34 : decode cX4_clear 34 = .ok (.ldc 35, 2) := by decide +kernel
theorem dX4_clear_36 : decode cX4_clear 36 = .ok (.ireturn, 1) := by decide +kernel
theorem dX4_clear_37 : decode cX4_clear 37 = .ok (.aload_n 0, 1) := by decide +kernel
theorem dX4_clear_38 : decode cX4_clear 38 = .ok (.invokevirtual 66, 3) := by decide +kernel
theorem dX4_clear_41 : decode cX4_clear 41 = .ok (.aload_n 0, 1) := by decide +kernel
theorem dX4_clear_42 : decode cX4_clear 42 = .ok (.getfield 7, 3) := by decide +kernel
theorem dX4_clear_45 : decode cX4_clear 45 = .ok (.bipush 124, 2) := by decide +kernel
theorem dX4_clear_47 : decode cX4_clear 47 = .ok (.iload_n 3, 1) := by decide +kernel
theorem dX4_clear_48 : decode cX4_clear 48 = .ok (.iadd, 1) := by decide +kernel
theorem dX4_clear_49 : decode cX4_clear 49 = .ok (.iconst (-1), 1) := by decide +kernel
theorem dX4_clear_50 : decode cX4_clear 50 = .ok (.iastore, 1) := by decide +kernel
theorem dX4_clear_51 : decode cX4_clear 51 = .ok (.aload_n 0, 1) := by decide +kernel
theorem dX4_clear_52 : decode cX4_clear 52 = .ok (.iload 4, 2) := by decide +kernel
theorem dX4_clear_54 : decode cX4_clear 54 = .ok (.invokevirtual 89, 3) := by decide +kernel
theorem dX4_clear_57 : decode cX4_clear 57 = .ok (.ireturn, 1) := by decide +kernel
set_option maxRecDepth 20000 in
theorem ggX4_cellOf_X4_isCell : GoodIn wsX4_cellOf wsX4_isCell := goodIn_r _ [7, 8, 9, 6, 10] (by decide +kernel) (by decide +kernel)
set_option maxRecDepth 20000 in
theorem gX4_cellOf_X4_isCell : GoodIn wsX4_cellOf (va_wsS RX4 92 yX4_isCell wsX4_isCell) := goodIn_app (goodIn_of _ (by decide +kernel)) ggX4_cellOf_X4_isCell
set_option maxRecDepth 20000 in
theorem ggX4_cellOf_X4_tagOf : GoodIn wsX4_cellOf wsX4_tagOf := goodIn_r _ [14, 15, 2, 16, 17, 18, 19, 20, 21, 22, 23, 24, 25, 26, 27, 28, 29, 30, 31, 32] (by decide +kernel) (by decide +kernel)
set_option maxRecDepth 20000 in
theorem gX4_cellOf_X4_tagOf : GoodIn wsX4_cellOf (wsV RX4 55 RX4 yX4_tagOf wsX4_tagOf) := goodIn_app (goodIn_of _ (by decide +kernel)) ggX4_cellOf_X4_tagOf
theorem dX4_cellOf_0 : decode cX4_cellOf 0 = .ok (.iload_n 1, 1) := by decide +kernel
theorem dX4_cellOf_1 : decode cX4_cellOf 1 = .ok (.iload_n 2, 1) := by decide +kernel
theorem dX4_cellOf_2 : decode cX4_cellOf 2 = .ok (.invokestatic 92, 3) := by decide +kernel
theorem dX4_cellOf_5 : decode cX4_cellOf 5 = .ok (.ifCond .ne 6, 3) := by decide +kernel
theorem dX4_cellOf_8 : decode cX4_cellOf 8 = .ok (.ldc 61, 2) := by decide +kernel
theorem dX4_cellOf_10 : decode cX4_cellOf 10 = .ok (.ireturn, 1) := by decide +kernel
theorem dX4_cellOf_11 : decode cX4_cellOf 11 = .ok (.aload_n 0, 1) := by decide +kernel
theorem dX4_cellOf_12 : decode cX4_cellOf 12 = .ok (.getfield 7, 3) := by decide +kernel
theorem dX4_cellOf_15 : decode cX4_cellOf 15 = .ok (.bipush 124, 2) := by decide +kernel
theorem dX4_cellOf_17 : decode cX4_cellOf 17 = .ok (.bipush 6, 2) := by decide +kernel
theorem dX4_cellOf_19 : decode cX4_cellOf 19 = .ok (.iload_n 1, 1) := by decide +kernel
theorem dX4_cellOf_20 : decode cX4_cellOf 20 = .ok (.imul, 1) := by decide +kernel
theorem dX4_cellOf_21 : decode cX4_cellOf 21 = .ok (.iadd, 1) := by decide +kernel
theorem dX4_cellOf_22 : decode cX4_cellOf 22 = .ok (.iload_n 2, 1) := by decide +kernel
theorem dX4_cellOf_23 : decode cX4_cellOf 23 = .ok (.iadd, 1) := by decide +kernel
theorem dX4_cellOf_24 : decode cX4_cellOf 24 = .ok (.iaload, 1) := by decide +kernel
theorem dX4_cellOf_25 : decode cX4_cellOf 25 = .ok (.istore_n 3, 1) := by decide +kernel
theorem dX4_cellOf_26 : decode cX4_cellOf 26 = .ok (.iload_n 3, 1) := by decide +kernel
theorem dX4_cellOf_27 : decode cX4_cellOf 27 = .ok (.ifCond .ge 8, 3) := by decide +kernel
theorem dX4_cellOf_30 : decode cX4_cellOf 30 = .ok (.ldc 99, 2) := by decide +kernel
theorem dX4_cellOf_32 : decode cX4_cellOf 32 = .ok (.goto 8, 3) := by decide +kernel
theorem dX4_cellOf_35 : decode cX4_cellOf 35 = .ok (.aload_n 0, 1) := by decide +kernel
theorem dX4_cellOf_36 : decode cX4_cellOf 36 = .ok (.iload_n 3, 1) := by decide +kernel
theorem dX4_cellOf_37 : decode cX4_cellOf 37 = .ok (.invokevirtual 55, 3) := by decide +kernel
theorem dX4_cellOf_40 : decode cX4_cellOf 40 = .ok (.ireturn, 1) := by decide +kernel
set_option maxRecDepth 20000 in
theorem ggX4_isAhead_X4_padded : GoodIn wsX4_isAhead wsX4_padded := goodIn_r _ [5, 6] (by decide +kernel) (by decide +kernel)
set_option maxRecDepth 20000 in
theorem gX4_isAhead_X4_padded : GoodIn wsX4_isAhead (va_wsS RX4 100 yX4_padded wsX4_padded) := goodIn_app (goodIn_of _ (by decide +kernel)) ggX4_isAhead_X4_padded
theorem dX4_isAhead_0 : decode cX4_isAhead 0 = .ok (.iload_n 1, 1) := by decide +kernel
theorem dX4_isAhead_1 : decode cX4_isAhead 1 = .ok (.iconst 1, 1) := by decide +kernel
theorem dX4_isAhead_2 : decode cX4_isAhead 2 = .ok (.if_icmp .ne 34, 3) := by decide +kernel
theorem dX4_isAhead_5 : decode cX4_isAhead 5 = .ok (.aload_n 0, 1) := by decide +kernel
theorem dX4_isAhead_6 : decode cX4_isAhead 6 = .ok (.getfield 7, 3) := by decide +kernel
theorem dX4_isAhead_9 : decode cX4_isAhead 9 = .ok (.iconst 4, 1) := by decide +kernel
theorem dX4_isAhead_10 : decode cX4_isAhead 10 = .ok (.iload_n 2, 1) := by decide +kernel
theorem dX4_isAhead_11 : decode cX4_isAhead 11 = .ok (.iadd, 1) := by decide +kernel
theorem dX4_isAhead_12 : decode cX4_isAhead 12 = .ok (.iaload, 1) := by decide +kernel
theorem dX4_isAhead_13 : decode cX4_isAhead 13 = .ok (.invokestatic 100, 3) := by decide +kernel
theorem dX4_isAhead_16 : decode cX4_isAhead 16 = .ok (.aload_n 0, 1) := by decide +kernel
theorem dX4_isAhead_17 : decode cX4_isAhead 17 = .ok (.getfield 7, 3) := by decide +kernel
theorem dX4_isAhead_20 : decode cX4_isAhead 20 = .ok (.iconst 4, 1) := by decide +kernel
theorem dX4_isAhead_21 : decode cX4_isAhead 21 = .ok (.iload_n 3, 1) := by decide +kernel
theorem dX4_isAhead_22 : decode cX4_isAhead 22 = .ok (.iadd, 1) := by decide +kernel
theorem dX4_isAhead_23 : decode cX4_isAhead 23 = .ok (.iaload, 1) := by decide +kernel
theorem dX4_isAhead_24 : decode cX4_isAhead 24 = .ok (.invokestatic 100, 3) := by decide +kernel
theorem dX4_isAhead_27 : decode cX4_isAhead 27 = .ok (.if_icmp .ge 7, 3) := by decide +kernel
theorem dX4_isAhead_30 : decode cX4_isAhead 30 = .ok (.iconst 1, 1) := by decide +kernel
theorem dX4_isAhead_31 : decode cX4_isAhead 31 = .ok (.goto 4, 3) := by decide +kernel
theorem dX4_isAhead_34 : decode cX4_isAhead 34 = .ok (.iconst 0, 1) := by decide +kernel
theorem dX4_isAhead_35 : decode cX4_isAhead 35 = .ok (.ireturn, 1) := by decide +kernel
theorem dX4_isAhead_36 : decode cX4_isAhead 36 = .ok (.iload_n 1, 1) := by decide +kernel
theorem dX4_isAhead_37 : decode cX4_isAhead 37 = .ok (.iconst 2, 1) := by decide +kernel
theorem dX4_isAhead_38 : decode cX4_isAhead 38 = .ok (.if_icmp .ne 53, 3) := by decide +kernel
theorem dX4_isAhead_41 : decode cX4_isAhead 41 = .ok (.aload_n 0, 1) := by decide +kernel
theorem dX4_isAhead_42 : decode cX4_isAhead 42 = .ok (.getfield 7, 3) := by decide +kernel
theorem dX4_isAhead_45 : decode cX4_isAhead 45 = .ok (.bipush 44, 2) := by decide +kernel
theorem dX4_isAhead_47 : decode cX4_isAhead 47 = .ok (.iload_n 2, 1) := by decide +kernel
theorem dX4_isAhead_48 : decode cX4_isAhead 48 = .ok (.iadd, 1) := by decide +kernel
theorem dX4_isAhead_49 : decode cX4_isAhead 49 = .ok (.iaload, 1) := by decide +kernel
theorem dX4_isAhead_50 : decode cX4_isAhead 50 = .ok (.aload_n 0, 1) := by decide +kernel
theorem dX4_isAhead_51 : decode cX4_isAhead 51 = .ok (.getfield 7, 3) := by decide +kernel
theorem dX4_isAhead_54 : decode cX4_isAhead 54 = .ok (.bipush 44, 2) := by decide +kernel
theorem dX4_isAhead_56 : decode cX4_isAhead 56 = .ok (.iload_n 3, 1) := by decide +kernel
theorem dX4_isAhead_57 : decode cX4_isAhead 57 = .ok (.iadd, 1) := by decide +kernel
theorem dX4_isAhead_58 : decode cX4_isAhead 58 = .ok (.iaload, 1) := by decide +kernel
theorem dX4_isAhead_59 : decode cX4_isAhead 59 = .ok (.if_icmp .eq 32, 3) := by decide +kernel
theorem dX4_isAhead_62 : decode cX4_isAhead 62 = .ok (.aload_n 0, 1) := by decide +kernel
theorem dX4_isAhead_63 : decode cX4_isAhead 63 = .ok (.getfield 7, 3) := by decide +kernel
theorem dX4_isAhead_66 : decode cX4_isAhead 66 = .ok (.bipush 44, 2) := by decide +kernel
theorem dX4_isAhead_68 : decode cX4_isAhead 68 = .ok (.iload_n 2, 1) := by decide +kernel
theorem dX4_isAhead_69 : decode cX4_isAhead 69 = .ok (.iadd, 1) := by decide +kernel
theorem dX4_isAhead_70 : decode cX4_isAhead 70 = .ok (.iaload, 1) := by decide +kernel
theorem dX4_isAhead_71 : decode cX4_isAhead 71 = .ok (.aload_n 0, 1) := by decide +kernel
theorem dX4_isAhead_72 : decode cX4_isAhead 72 = .ok (.getfield 7, 3) := by decide +kernel
theorem dX4_isAhead_75 : decode cX4_isAhead 75 = .ok (.bipush 44, 2) := by decide +kernel
theorem dX4_isAhead_77 : decode cX4_isAhead 77 = .ok (.iload_n 3, 1) := by decide +kernel
theorem dX4_isAhead_78 : decode cX4_isAhead 78 = .ok (.iadd, 1) := by decide +kernel
theorem dX4_isAhead_79 : decode cX4_isAhead 79 = .ok (.iaload, 1) := by decide +kernel
theorem dX4_isAhead_80 : decode cX4_isAhead 80 = .ok (.if_icmp .le 7, 3) := by decide +kernel
theorem dX4_isAhead_83 : decode cX4_isAhead 83 = .ok (.iconst 1, 1) := by decide +kernel
theorem dX4_isAhead_84 : decode cX4_isAhead 84 = .ok (.goto 17, 3) := by decide +kernel
theorem dX4_isAhead_87 : decode cX4_isAhead 87 = .ok (.iconst 0, 1) := by decide +kernel
theorem dX4_isAhead_88 : decode cX4_isAhead 88 = .ok (.goto 13, 3) := by decide +kernel
theorem dX4_isAhead_91 : decode cX4_isAhead 91 = .ok (.iload_n 2, 1) := by decide +kernel
theorem dX4_isAhead_92 : decode cX4_isAhead 92 = .ok (.iload_n 3, 1) := by decide +kernel
theorem dX4_isAhead_93 : decode cX4_isAhead 93 = .ok (.if_icmp .ge 7, 3) := by decide +kernel
theorem dX4_isAhead_96 : decode cX4_isAhead 96 = .ok (.iconst 1, 1) := by decide +kernel
theorem dX4_isAhead_97 : decode cX4_isAhead 97 = .ok (.goto 4, 3) := by decide +kernel
theorem dX4_isAhead_100 : decode cX4_isAhead 100 = .ok (.iconst 0, 1) := by decide +kernel
theorem dX4_isAhead_101 : decode cX4_isAhead 101 = .ok (.ireturn, 1) := by decide +kernel
set_option maxRecDepth 20000 in
theorem ggX4_ranks_X4_isNamed : GoodIn wsX4_ranks wsX4_isNamed := goodIn_r _ [7, 8, 17, 18, 19, 20, 21, 22, 23, 24, 25, 26, 27, 28, 29, 30, 31, 32, 33] (by decide +kernel) (by decide +kernel)
set_option maxRecDepth 20000 in
theorem gX4_ranks_X4_isNamed : GoodIn wsX4_ranks (wsV RX4 42 RX4 yX4_isNamed wsX4_isNamed) := goodIn_app (goodIn_of _ (by decide +kernel)) ggX4_ranks_X4_isNamed
set_option maxRecDepth 20000 in
theorem ggX4_ranks_X4_isAhead : GoodIn wsX4_ranks wsX4_isAhead := goodIn_r _ [12, 8, 13, 14, 6, 15, 16, 17, 18, 19, 20, 21, 22, 23, 24, 25, 26, 27, 28, 29, 30, 31, 32, 33] (by decide +kernel) (by decide +kernel)
set_option maxRecDepth 20000 in
theorem gX4_ranks_X4_isAhead : GoodIn wsX4_ranks (wsV RX4 106 RX4 yX4_isAhead wsX4_isAhead) := goodIn_app (goodIn_of _ (by decide +kernel)) ggX4_ranks_X4_isAhead
theorem dX4_ranks_0 : decode cX4_ranks 0 = .ok (.aload_n 0, 1) := by decide +kernel
theorem dX4_ranks_1 : decode cX4_ranks 1 = .ok (.iconst 0, 1) := by decide +kernel
theorem dX4_ranks_2 : decode cX4_ranks 2 = .ok (.putfield 103, 3) := by decide +kernel
theorem dX4_ranks_5 : decode cX4_ranks 5 = .ok (.iconst 0, 1) := by decide +kernel
theorem dX4_ranks_6 : decode cX4_ranks 6 = .ok (.istore_n 2, 1) := by decide +kernel
theorem dX4_ranks_7 : decode cX4_ranks 7 = .ok (.iload_n 2, 1) := by decide +kernel
theorem dX4_ranks_8 : decode cX4_ranks 8 = .ok (.bipush 40, 2) := by decide +kernel
theorem dX4_ranks_10 : decode cX4_ranks 10 = .ok (.if_icmp .ge 80, 3) := by decide +kernel
theorem dX4_ranks_13 : decode cX4_ranks 13 = .ok (.aload_n 0, 1) := by decide +kernel
theorem dX4_ranks_14 : decode cX4_ranks 14 = .ok (.iload_n 2, 1) := by decide +kernel
theorem dX4_ranks_15 : decode cX4_ranks 15 = .ok (.invokevirtual 42, 3) := by decide +kernel
theorem dX4_ranks_18 : decode cX4_ranks 18 = .ok (.ifCond .eq 66, 3) := by decide +kernel
theorem dX4_ranks_21 : decode cX4_ranks 21 = .ok (.aload_n 0, 1) := by decide +kernel
theorem dX4_ranks_22 : decode cX4_ranks 22 = .ok (.getfield 103, 3) := by decide +kernel
theorem dX4_ranks_25 : decode cX4_ranks 25 = .ok (.istore_n 3, 1) := by decide +kernel
theorem dX4_ranks_26 : decode cX4_ranks 26 = .ok (.iload_n 3, 1) := by decide +kernel
theorem dX4_ranks_27 : decode cX4_ranks 27 = .ok (.ifCond .le 40, 3) := by decide +kernel
theorem dX4_ranks_30 : decode cX4_ranks 30 = .ok (.aload_n 0, 1) := by decide +kernel
theorem dX4_ranks_31 : decode cX4_ranks 31 = .ok (.iload_n 1, 1) := by decide +kernel
theorem dX4_ranks_32 : decode cX4_ranks 32 = .ok (.iload_n 2, 1) := by decide +kernel
theorem dX4_ranks_33 : decode cX4_ranks 33 = .ok (.aload_n 0, 1) := by decide +kernel
theorem dX4_ranks_34 : decode cX4_ranks 34 = .ok (.getfield 22, 3) := by decide +kernel
theorem dX4_ranks_37 : decode cX4_ranks 37 = .ok (.iload_n 3, 1) := by decide +kernel
theorem dX4_ranks_38 : decode cX4_ranks 38 = .ok (.iconst 1, 1) := by decide +kernel
theorem dX4_ranks_39 : decode cX4_ranks 39 = .ok (.isub, 1) := by decide +kernel
theorem dX4_ranks_40 : decode cX4_ranks 40 = .ok (.iaload, 1) := by decide +kernel
theorem dX4_ranks_41 : decode cX4_ranks 41 = .ok (.invokevirtual 106, 3) := by decide +kernel
theorem dX4_ranks_44 : decode cX4_ranks 44 = .ok (.ifCond .eq 23, 3) := by decide +kernel
theorem dX4_ranks_47 : decode cX4_ranks 47 = .ok (.aload_n 0, 1) := by decide +kernel
theorem dX4_ranks_48 : decode cX4_ranks 48 = .ok (.getfield 22, 3) := by decide +kernel
theorem dX4_ranks_51 : decode cX4_ranks 51 = .ok (.iload_n 3, 1) := by decide +kernel
theorem dX4_ranks_52 : decode cX4_ranks 52 = .ok (.aload_n 0, 1) := by decide +kernel
theorem dX4_ranks_53 : decode cX4_ranks 53 = .ok (.getfield 22, 3) := by decide +kernel
theorem dX4_ranks_56 : decode cX4_ranks 56 = .ok (.iload_n 3, 1) := by decide +kernel
theorem dX4_ranks_57 : decode cX4_ranks 57 = .ok (.iconst 1, 1) := by decide +kernel
theorem dX4_ranks_58 : decode cX4_ranks 58 = .ok (.isub, 1) := by decide +kernel
theorem dX4_ranks_59 : decode cX4_ranks 59 = .ok (.iaload, 1) := by decide +kernel
theorem dX4_ranks_60 : decode cX4_ranks 60 = .ok (.iastore, 1) := by decide +kernel
theorem dX4_ranks_61 : decode cX4_ranks 61 = .ok (.iinc 3 (-1), 3) := by decide +kernel
theorem dX4_ranks_64 : decode cX4_ranks 64 = .ok (.goto (-38), 3) := by decide +kernel
theorem dX4_ranks_67 : decode cX4_ranks 67 = .ok (.aload_n 0, 1) := by decide +kernel
theorem dX4_ranks_68 : decode cX4_ranks 68 = .ok (.getfield 22, 3) := by decide +kernel
theorem dX4_ranks_71 : decode cX4_ranks 71 = .ok (.iload_n 3, 1) := by decide +kernel
theorem dX4_ranks_72 : decode cX4_ranks 72 = .ok (.iload_n 2, 1) := by decide +kernel
theorem dX4_ranks_73 : decode cX4_ranks 73 = .ok (.iastore, 1) := by decide +kernel
theorem dX4_ranks_74 : decode cX4_ranks 74 = .ok (.aload_n 0, 1) := by decide +kernel
theorem dX4_ranks_75 : decode cX4_ranks 75 = .ok (.dup, 1) := by decide +kernel
theorem dX4_ranks_76 : decode cX4_ranks 76 = .ok (.getfield 103, 3) := by decide +kernel
theorem dX4_ranks_79 : decode cX4_ranks 79 = .ok (.iconst 1, 1) := by decide +kernel
theorem dX4_ranks_80 : decode cX4_ranks 80 = .ok (.iadd, 1) := by decide +kernel
theorem dX4_ranks_81 : decode cX4_ranks 81 = .ok (.putfield 103, 3) := by decide +kernel
theorem dX4_ranks_84 : decode cX4_ranks 84 = .ok (.iinc 2 1, 3) := by decide +kernel
theorem dX4_ranks_87 : decode cX4_ranks 87 = .ok (.goto (-80), 3) := by decide +kernel
theorem dX4_ranks_90 : decode cX4_ranks 90 = .ok (.return_, 1) := by decide +kernel
set_option maxRecDepth 20000 in
theorem ggX4_compacts_X4_ranks : GoodIn wsX4_compacts wsX4_ranks := goodIn_r _ [9, 3, 4, 10, 11, 12, 8, 13, 1, 14, 15, 16, 17, 18, 19, 20, 21, 22, 23, 24, 25, 26, 27, 28, 29, 30, 31, 32, 33, 34, 35, 36, 37, 38] (by decide +kernel) (by decide +kernel)
set_option maxRecDepth 20000 in
theorem gX4_compacts_X4_ranks : GoodIn wsX4_compacts (wsV RX4 109 RX4 yX4_ranks wsX4_ranks) := goodIn_app (goodIn_of _ (by decide +kernel)) ggX4_compacts_X4_ranks
set_option maxRecDepth 20000 in
theorem ggX4_compacts_X4_isNamed : GoodIn wsX4_compacts wsX4_isNamed := goodIn_r _ [13, 1, 22, 23, 24, 25, 26, 27, 28, 29, 30, 31, 32, 33, 34, 35, 36, 37, 38] (by decide +kernel) (by decide +kernel)
set_option maxRecDepth 20000 in
theorem gX4_compacts_X4_isNamed : GoodIn wsX4_compacts (wsV RX4 42 RX4 yX4_isNamed wsX4_isNamed) := goodIn_app (goodIn_of _ (by decide +kernel)) ggX4_compacts_X4_isNamed
theorem dX4_compacts_0 : decode cX4_compacts 0 = .ok (.aload_n 0, 1) := by decide +kernel
theorem dX4_compacts_1 : decode cX4_compacts 1 = .ok (.iload_n 1, 1) := by decide +kernel
theorem dX4_compacts_2 : decode cX4_compacts 2 = .ok (.invokevirtual 109, 3) := by decide +kernel
theorem dX4_compacts_5 : decode cX4_compacts 5 = .ok (.sipush 142, 3) := by decide +kernel
theorem dX4_compacts_8 : decode cX4_compacts 8 = .ok (.istore_n 2, 1) := by decide +kernel
theorem dX4_compacts_9 : decode cX4_compacts 9 = .ok (.sipush 368, 3) := by decide +kernel
theorem dX4_compacts_12 : decode cX4_compacts 12 = .ok (.istore_n 3, 1) := by decide +kernel
theorem dX4_compacts_13 : decode cX4_compacts 13 = .ok (.iload_n 3, 1) := by decide +kernel
theorem dX4_compacts_14 : decode cX4_compacts 14 = .ok (.bipush 123, 2) := by decide +kernel
theorem dX4_compacts_16 : decode cX4_compacts 16 = .ok (.if_icmp .lt 28, 3) := by decide +kernel
theorem dX4_compacts_19 : decode cX4_compacts 19 = .ok (.aload_n 0, 1) := by decide +kernel
theorem dX4_compacts_20 : decode cX4_compacts 20 = .ok (.getfield 7, 3) := by decide +kernel
theorem dX4_compacts_23 : decode cX4_compacts 23 = .ok (.iload_n 2, 1) := by decide +kernel
theorem dX4_compacts_24 : decode cX4_compacts 24 = .ok (.iload_n 3, 1) := by decide +kernel
theorem dX4_compacts_25 : decode cX4_compacts 25 = .ok (.iadd, 1) := by decide +kernel
theorem dX4_compacts_26 : decode cX4_compacts 26 = .ok (.aload_n 0, 1) := by decide +kernel
theorem dX4_compacts_27 : decode cX4_compacts 27 = .ok (.getfield 7, 3) := by decide +kernel
theorem dX4_compacts_30 : decode cX4_compacts 30 = .ok (.iload_n 2, 1) := by decide +kernel
theorem dX4_compacts_31 : decode cX4_compacts 31 = .ok (.iload_n 3, 1) := by decide +kernel
theorem dX4_compacts_32 : decode cX4_compacts 32 = .ok (.iadd, 1) := by decide +kernel
theorem dX4_compacts_33 : decode cX4_compacts 33 = .ok (.bipush 123, 2) := by decide +kernel
theorem dX4_compacts_35 : decode cX4_compacts 35 = .ok (.isub, 1) := by decide +kernel
theorem dX4_compacts_36 : decode cX4_compacts 36 = .ok (.iaload, 1) := by decide +kernel
theorem dX4_compacts_37 : decode cX4_compacts 37 = .ok (.iastore, 1) := by decide +kernel
theorem dX4_compacts_38 : decode cX4_compacts 38 = .ok (.iinc 3 (-1), 3) := by decide +kernel
theorem dX4_compacts_41 : decode cX4_compacts 41 = .ok (.goto (-28), 3) := by decide +kernel
theorem dX4_compacts_44 : decode cX4_compacts 44 = .ok (.iconst 0, 1) := by decide +kernel
theorem dX4_compacts_45 : decode cX4_compacts 45 = .ok (.istore_n 3, 1) := by decide +kernel
theorem dX4_compacts_46 : decode cX4_compacts 46 = .ok (.iload_n 3, 1) := by decide +kernel
theorem dX4_compacts_47 : decode cX4_compacts 47 = .ok (.bipush 40, 2) := by decide +kernel
theorem dX4_compacts_49 : decode cX4_compacts 49 = .ok (.if_icmp .ge 84, 3) := by decide +kernel
theorem dX4_compacts_52 : decode cX4_compacts 52 = .ok (.aload_n 0, 1) := by decide +kernel
theorem dX4_compacts_53 : decode cX4_compacts 53 = .ok (.getfield 25, 3) := by decide +kernel
theorem dX4_compacts_56 : decode cX4_compacts 56 = .ok (.iload_n 3, 1) := by decide +kernel
theorem dX4_compacts_57 : decode cX4_compacts 57 = .ok (.aload_n 0, 1) := by decide +kernel
theorem dX4_compacts_58 : decode cX4_compacts 58 = .ok (.getfield 7, 3) := by decide +kernel
theorem dX4_compacts_61 : decode cX4_compacts 61 = .ok (.iconst 4, 1) := by decide +kernel
theorem dX4_compacts_62 : decode cX4_compacts 62 = .ok (.iload_n 3, 1) := by decide +kernel
theorem dX4_compacts_63 : decode cX4_compacts 63 = .ok (.iadd, 1) := by decide +kernel
theorem dX4_compacts_64 : decode cX4_compacts 64 = .ok (.iaload, 1) := by decide +kernel
theorem dX4_compacts_65 : decode cX4_compacts 65 = .ok (.iastore, 1) := by decide +kernel
theorem dX4_compacts_66 : decode cX4_compacts 66 = .ok (.aload_n 0, 1) := by decide +kernel
theorem dX4_compacts_67 : decode cX4_compacts 67 = .ok (.getfield 25, 3) := by decide +kernel
theorem dX4_compacts_70 : decode cX4_compacts 70 = .ok (.bipush 40, 2) := by decide +kernel
theorem dX4_compacts_72 : decode cX4_compacts 72 = .ok (.iload_n 3, 1) := by decide +kernel
theorem dX4_compacts_73 : decode cX4_compacts 73 = .ok (.iadd, 1) := by decide +kernel
theorem dX4_compacts_74 : decode cX4_compacts 74 = .ok (.aload_n 0, 1) := by decide +kernel
theorem dX4_compacts_75 : decode cX4_compacts 75 = .ok (.getfield 7, 3) := by decide +kernel
theorem dX4_compacts_78 : decode cX4_compacts 78 = .ok (.bipush 44, 2) := by decide +kernel
theorem dX4_compacts_80 : decode cX4_compacts 80 = .ok (.iload_n 3, 1) := by decide +kernel
theorem dX4_compacts_81 : decode cX4_compacts 81 = .ok (.iadd, 1) := by decide +kernel
theorem dX4_compacts_82 : decode cX4_compacts 82 = .ok (.iaload, 1) := by decide +kernel
theorem dX4_compacts_83 : decode cX4_compacts 83 = .ok (.iastore, 1) := by decide +kernel
theorem dX4_compacts_84 : decode cX4_compacts 84 = .ok (.aload_n 0, 1) := by decide +kernel
theorem dX4_compacts_85 : decode cX4_compacts 85 = .ok (.getfield 7, 3) := by decide +kernel
theorem dX4_compacts_88 : decode cX4_compacts 88 = .ok (.iload_n 2, 1) := by decide +kernel
theorem dX4_compacts_89 : decode cX4_compacts 89 = .ok (.iconst 3, 1) := by decide +kernel
theorem dX4_compacts_90 : decode cX4_compacts 90 = .ok (.iadd, 1) := by decide +kernel
theorem dX4_compacts_91 : decode cX4_compacts 91 = .ok (.iload_n 3, 1) := by decide +kernel
theorem dX4_compacts_92 : decode cX4_compacts 92 = .ok (.iadd, 1) := by decide +kernel
theorem dX4_compacts_93 : decode cX4_compacts 93 = .ok (.aload_n 0, 1) := by decide +kernel
theorem dX4_compacts_94 : decode cX4_compacts 94 = .ok (.iload_n 3, 1) := by decide +kernel
theorem dX4_compacts_95 : decode cX4_compacts 95 = .ok (.invokevirtual 42, 3) := by decide +kernel
theorem dX4_compacts_98 : decode cX4_compacts 98 = .ok (.ifCond .eq 15, 3) := by decide +kernel
theorem dX4_compacts_101 : decode cX4_compacts 101 = .ok (.aload_n 0, 1) := by decide +kernel
theorem dX4_compacts_102 : decode cX4_compacts 102 = .ok (.getfield 7, 3) := by decide +kernel
theorem dX4_compacts_105 : decode cX4_compacts 105 = .ok (.bipush 84, 2) := by decide +kernel
theorem dX4_compacts_107 : decode cX4_compacts 107 = .ok (.iload_n 3, 1) := by decide +kernel
theorem dX4_compacts_108 : decode cX4_compacts 108 = .ok (.iadd, 1) := by decide +kernel
theorem dX4_compacts_109 : decode cX4_compacts 109 = .ok (.iaload, 1) := by decide +kernel
theorem dX4_compacts_110 : decode cX4_compacts 110 = .ok (.goto 4, 3) := by decide +kernel
theorem dX4_compacts_113 : decode cX4_compacts 113 = .ok (.iconst (-1), 1) := by decide +kernel
theorem dX4_compacts_114 : decode cX4_compacts 114 = .ok (.iastore, 1) := by decide +kernel
theorem dX4_compacts_115 : decode cX4_compacts 115 = .ok (.aload_n 0, 1) := by decide +kernel
theorem dX4_compacts_116 : decode cX4_compacts 116 = .ok (.getfield 7, 3) := by decide +kernel
theorem dX4_compacts_119 : decode cX4_compacts 119 = .ok (.iload_n 2, 1) := by decide +kernel
theorem dX4_compacts_120 : decode cX4_compacts 120 = .ok (.bipush 43, 2) := by decide +kernel
theorem dX4_compacts_122 : decode cX4_compacts 122 = .ok (.iadd, 1) := by decide +kernel
theorem dX4_compacts_123 : decode cX4_compacts 123 = .ok (.iload_n 3, 1) := by decide +kernel
theorem dX4_compacts_124 : decode cX4_compacts 124 = .ok (.iadd, 1) := by decide +kernel
theorem dX4_compacts_125 : decode cX4_compacts 125 = .ok (.iconst (-1), 1) := by decide +kernel
theorem dX4_compacts_126 : decode cX4_compacts 126 = .ok (.iastore, 1) := by decide +kernel
theorem dX4_compacts_127 : decode cX4_compacts 127 = .ok (.iinc 3 1, 3) := by decide +kernel
theorem dX4_compacts_130 : decode cX4_compacts 130 = .ok (.goto (-84), 3) := by decide +kernel
theorem dX4_compacts_133 : decode cX4_compacts 133 = .ok (.iconst 0, 1) := by decide +kernel
theorem dX4_compacts_134 : decode cX4_compacts 134 = .ok (.istore_n 3, 1) := by decide +kernel
theorem dX4_compacts_135 : decode cX4_compacts 135 = .ok (.iconst 0, 1) := by decide +kernel
theorem dX4_compacts_136 : decode cX4_compacts 136 = .ok (.istore 4, 2) := by decide +kernel
theorem dX4_compacts_138 : decode cX4_compacts 138 = .ok (.iload 4, 2) := by decide +kernel
theorem dX4_compacts_140 : decode cX4_compacts 140 = .ok (.aload_n 0, 1) := by decide +kernel
theorem dX4_compacts_141 : decode cX4_compacts 141 = .ok (.getfield 103, 3) := by decide +kernel
theorem dX4_compacts_144 : decode cX4_compacts 144 = .ok (.if_icmp .ge 48, 3) := by decide +kernel
theorem dX4_compacts_147 : decode cX4_compacts 147 = .ok (.aload_n 0, 1) := by decide +kernel
theorem dX4_compacts_148 : decode cX4_compacts 148 = .ok (.getfield 7, 3) := by decide +kernel
theorem dX4_compacts_151 : decode cX4_compacts 151 = .ok (.iload_n 2, 1) := by decide +kernel
theorem dX4_compacts_152 : decode cX4_compacts 152 = .ok (.bipush 43, 2) := by decide +kernel
theorem dX4_compacts_154 : decode cX4_compacts 154 = .ok (.iadd, 1) := by decide +kernel
theorem dX4_compacts_155 : decode cX4_compacts 155 = .ok (.aload_n 0, 1) := by decide +kernel
theorem dX4_compacts_156 : decode cX4_compacts 156 = .ok (.getfield 22, 3) := by decide +kernel
theorem dX4_compacts_159 : decode cX4_compacts 159 = .ok (.iload 4, 2) := by decide +kernel
theorem dX4_compacts_161 : decode cX4_compacts 161 = .ok (.iaload, 1) := by decide +kernel
theorem dX4_compacts_162 : decode cX4_compacts 162 = .ok (.iadd, 1) := by decide +kernel
theorem dX4_compacts_163 : decode cX4_compacts 163 = .ok (.iload 4, 2) := by decide +kernel
theorem dX4_compacts_165 : decode cX4_compacts 165 = .ok (.iastore, 1) := by decide +kernel
theorem dX4_compacts_166 : decode cX4_compacts 166 = .ok (.iload_n 3, 1) := by decide +kernel
theorem dX4_compacts_167 : decode cX4_compacts 167 = .ok (.aload_n 0, 1) := by decide +kernel
theorem dX4_compacts_168 : decode cX4_compacts 168 = .ok (.getfield 22, 3) := by decide +kernel
theorem dX4_compacts_171 : decode cX4_compacts 171 = .ok (.iload 4, 2) := by decide +kernel
theorem dX4_compacts_173 : decode cX4_compacts 173 = .ok (.iaload, 1) := by decide +kernel
theorem dX4_compacts_174 : decode cX4_compacts 174 = .ok (.iload 4, 2) := by decide +kernel
theorem dX4_compacts_176 : decode cX4_compacts 176 = .ok (.if_icmp .eq 7, 3) := by decide +kernel
theorem dX4_compacts_179 : decode cX4_compacts 179 = .ok (.iconst 1, 1) := by decide +kernel
theorem dX4_compacts_180 : decode cX4_compacts 180 = .ok (.goto 4, 3) := by decide +kernel
theorem dX4_compacts_183 : decode cX4_compacts 183 = .ok (.iconst 0, 1) := by decide +kernel
theorem dX4_compacts_184 : decode cX4_compacts 184 = .ok (.iadd, 1) := by decide +kernel
theorem dX4_compacts_185 : decode cX4_compacts 185 = .ok (.istore_n 3, 1) := by decide +kernel
theorem dX4_compacts_186 : decode cX4_compacts 186 = .ok (.iinc 4 1, 3) := by decide +kernel
theorem dX4_compacts_189 : decode cX4_compacts 189 = .ok (.goto (-51), 3) := by decide +kernel
theorem dX4_compacts_192 : decode cX4_compacts 192 = .ok (.iconst 0, 1) := by decide +kernel
theorem dX4_compacts_193 : decode cX4_compacts 193 = .ok (.istore 4, 2) := by decide +kernel
theorem dX4_compacts_195 : decode cX4_compacts 195 = .ok (.iload 4, 2) := by decide +kernel
theorem dX4_compacts_197 : decode cX4_compacts 197 = .ok (.bipush 40, 2) := by decide +kernel
theorem dX4_compacts_199 : decode cX4_compacts 199 = .ok (.if_icmp .ge 118, 3) := by decide +kernel
theorem dX4_compacts_202 : decode cX4_compacts 202 = .ok (.aload_n 0, 1) := by decide +kernel
theorem dX4_compacts_203 : decode cX4_compacts 203 = .ok (.getfield 7, 3) := by decide +kernel
theorem dX4_compacts_206 : decode cX4_compacts 206 = .ok (.iconst 4, 1) := by decide +kernel
theorem dX4_compacts_207 : decode cX4_compacts 207 = .ok (.iload 4, 2) := by decide +kernel
theorem dX4_compacts_209 : decode cX4_compacts 209 = .ok (.iadd, 1) := by decide +kernel
theorem dX4_compacts_210 : decode cX4_compacts 210 = .ok (.iload 4, 2) := by decide +kernel
theorem dX4_compacts_212 : decode cX4_compacts 212 = .ok (.aload_n 0, 1) := by decide +kernel
theorem dX4_compacts_213 : decode cX4_compacts 213 = .ok (.getfield 103, 3) := by decide +kernel
theorem dX4_compacts_216 : decode cX4_compacts 216 = .ok (.if_icmp .ge 18, 3) := by decide +kernel
theorem dX4_compacts_219 : decode cX4_compacts 219 = .ok (.aload_n 0, 1) := by decide +kernel
theorem dX4_compacts_220 : decode cX4_compacts 220 = .ok (.getfield 25, 3) := by decide +kernel
theorem dX4_compacts_223 : decode cX4_compacts 223 = .ok (.aload_n 0, 1) := by decide +kernel
theorem dX4_compacts_224 : decode cX4_compacts 224 = .ok (.getfield 22, 3) := by decide +kernel
theorem dX4_compacts_227 : decode cX4_compacts 227 = .ok (.iload 4, 2) := by decide +kernel
theorem dX4_compacts_229 : decode cX4_compacts 229 = .ok (.iaload, 1) := by decide +kernel
theorem dX4_compacts_230 : decode cX4_compacts 230 = .ok (.iaload, 1) := by decide +kernel
theorem dX4_compacts_231 : decode cX4_compacts 231 = .ok (.goto 4, 3) := by decide +kernel
theorem dX4_compacts_234 : decode cX4_compacts 234 = .ok (.iconst 0, 1) := by decide +kernel
theorem dX4_compacts_235 : decode cX4_compacts 235 = .ok (.iastore, 1) := by decide +kernel
theorem dX4_compacts_236 : decode cX4_compacts 236 = .ok (.aload_n 0, 1) := by decide +kernel
theorem dX4_compacts_237 : decode cX4_compacts 237 = .ok (.getfield 7, 3) := by decide +kernel
theorem dX4_compacts_240 : decode cX4_compacts 240 = .ok (.bipush 44, 2) := by decide +kernel
theorem dX4_compacts_242 : decode cX4_compacts 242 = .ok (.iload 4, 2) := by decide +kernel
theorem dX4_compacts_244 : decode cX4_compacts 244 = .ok (.iadd, 1) := by decide +kernel
theorem dX4_compacts_245 : decode cX4_compacts 245 = .ok (.iload 4, 2) := by decide +kernel
theorem dX4_compacts_247 : decode cX4_compacts 247 = .ok (.aload_n 0, 1) := by decide +kernel
theorem dX4_compacts_248 : decode cX4_compacts 248 = .ok (.getfield 103, 3) := by decide +kernel
theorem dX4_compacts_251 : decode cX4_compacts 251 = .ok (.if_icmp .ge 21, 3) := by decide +kernel
theorem dX4_compacts_254 : decode cX4_compacts 254 = .ok (.aload_n 0, 1) := by decide +kernel
theorem dX4_compacts_255 : decode cX4_compacts 255 = .ok (.getfield 25, 3) := by decide +kernel
theorem dX4_compacts_258 : decode cX4_compacts 258 = .ok (.bipush 40, 2) := by decide +kernel
theorem dX4_compacts_260 : decode cX4_compacts 260 = .ok (.aload_n 0, 1) := by decide +kernel
theorem dX4_compacts_261 : decode cX4_compacts 261 = .ok (.getfield 22, 3) := by decide +kernel
theorem dX4_compacts_264 : decode cX4_compacts 264 = .ok (.iload 4, 2) := by decide +kernel
theorem dX4_compacts_266 : decode cX4_compacts 266 = .ok (.iaload, 1) := by decide +kernel
theorem dX4_compacts_267 : decode cX4_compacts 267 = .ok (.iadd, 1) := by decide +kernel
theorem dX4_compacts_268 : decode cX4_compacts 268 = .ok (.iaload, 1) := by decide +kernel
theorem dX4_compacts_269 : decode cX4_compacts 269 = .ok (.goto 4, 3) := by decide +kernel
theorem dX4_compacts_272 : decode cX4_compacts 272 = .ok (.iconst 0, 1) := by decide +kernel
theorem dX4_compacts_273 : decode cX4_compacts 273 = .ok (.iastore, 1) := by decide +kernel
theorem dX4_compacts_274 : decode cX4_compacts 274 = .ok (.aload_n 0, 1) := by decide +kernel
theorem dX4_compacts_275 : decode cX4_compacts 275 = .ok (.getfield 7, 3) := by decide +kernel
theorem dX4_compacts_278 : decode cX4_compacts 278 = .ok (.bipush 84, 2) := by decide +kernel
theorem dX4_compacts_280 : decode cX4_compacts 280 = .ok (.iload 4, 2) := by decide +kernel
theorem dX4_compacts_282 : decode cX4_compacts 282 = .ok (.iadd, 1) := by decide +kernel
theorem dX4_compacts_283 : decode cX4_compacts 283 = .ok (.dup2, 1) := by decide +kernel
theorem dX4_compacts_284 : decode cX4_compacts 284 = .ok (.iaload, 1) := by decide +kernel
theorem dX4_compacts_285 : decode cX4_compacts 285 = .ok (.aload_n 0, 1) := by decide +kernel
theorem dX4_compacts_286 : decode cX4_compacts 286 = .ok (.getfield 7, 3) := by decide +kernel
theorem dX4_compacts_289 : decode cX4_compacts 289 = .ok (.iconst 4, 1) := by decide +kernel
theorem dX4_compacts_290 : decode cX4_compacts 290 = .ok (.iload 4, 2) := by decide +kernel
theorem dX4_compacts_292 : decode cX4_compacts 292 = .ok (.iadd, 1) := by decide +kernel
theorem dX4_compacts_293 : decode cX4_compacts 293 = .ok (.iaload, 1) := by decide +kernel
theorem dX4_compacts_294 : decode cX4_compacts 294 = .ok (.aload_n 0, 1) := by decide +kernel
theorem dX4_compacts_295 : decode cX4_compacts 295 = .ok (.getfield 25, 3) := by decide +kernel
theorem dX4_compacts_298 : decode cX4_compacts 298 = .ok (.iload 4, 2) := by decide +kernel
theorem dX4_compacts_300 : decode cX4_compacts 300 = .ok (.iaload, 1) := by decide +kernel
theorem dX4_compacts_301 : decode cX4_compacts 301 = .ok (.if_icmp .eq 7, 3) := by decide +kernel
theorem dX4_compacts_304 : decode cX4_compacts 304 = .ok (.iconst 1, 1) := by decide +kernel
theorem dX4_compacts_305 : decode cX4_compacts 305 = .ok (.goto 4, 3) := by decide +kernel
theorem dX4_compacts_308 : decode cX4_compacts 308 = .ok (.iconst 0, 1) := by decide +kernel
theorem dX4_compacts_309 : decode cX4_compacts 309 = .ok (.iadd, 1) := by decide +kernel
theorem dX4_compacts_310 : decode cX4_compacts 310 = .ok (.iastore, 1) := by decide +kernel
theorem dX4_compacts_311 : decode cX4_compacts 311 = .ok (.iinc 4 1, 3) := by decide +kernel
theorem dX4_compacts_314 : decode cX4_compacts 314 = .ok (.goto (-119), 3) := by decide +kernel
theorem dX4_compacts_317 : decode cX4_compacts 317 = .ok (.iconst 0, 1) := by decide +kernel
theorem dX4_compacts_318 : decode cX4_compacts 318 = .ok (.istore 4, 2) := by decide +kernel
theorem dX4_compacts_320 : decode cX4_compacts 320 = .ok (.iload 4, 2) := by decide +kernel
theorem dX4_compacts_322 : decode cX4_compacts 322 = .ok (.bipush 40, 2) := by decide +kernel
theorem dX4_compacts_324 : decode cX4_compacts 324 = .ok (.if_icmp .ge 54, 3) := by decide +kernel
theorem dX4_compacts_327 : decode cX4_compacts 327 = .ok (.aload_n 0, 1) := by decide +kernel
theorem dX4_compacts_328 : decode cX4_compacts 328 = .ok (.getfield 7, 3) := by decide +kernel
theorem dX4_compacts_331 : decode cX4_compacts 331 = .ok (.iload_n 2, 1) := by decide +kernel
theorem dX4_compacts_332 : decode cX4_compacts 332 = .ok (.bipush 43, 2) := by decide +kernel
theorem dX4_compacts_334 : decode cX4_compacts 334 = .ok (.iadd, 1) := by decide +kernel
theorem dX4_compacts_335 : decode cX4_compacts 335 = .ok (.iload 4, 2) := by decide +kernel
theorem dX4_compacts_337 : decode cX4_compacts 337 = .ok (.iadd, 1) := by decide +kernel
theorem dX4_compacts_338 : decode cX4_compacts 338 = .ok (.iaload, 1) := by decide +kernel
theorem dX4_compacts_339 : decode cX4_compacts 339 = .ok (.istore 5, 2) := by decide +kernel
theorem dX4_compacts_341 : decode cX4_compacts 341 = .ok (.aload_n 0, 1) := by decide +kernel
theorem dX4_compacts_342 : decode cX4_compacts 342 = .ok (.getfield 7, 3) := by decide +kernel
theorem dX4_compacts_345 : decode cX4_compacts 345 = .ok (.iload_n 2, 1) := by decide +kernel
theorem dX4_compacts_346 : decode cX4_compacts 346 = .ok (.bipush 83, 2) := by decide +kernel
theorem dX4_compacts_348 : decode cX4_compacts 348 = .ok (.iadd, 1) := by decide +kernel
theorem dX4_compacts_349 : decode cX4_compacts 349 = .ok (.iload 4, 2) := by decide +kernel
theorem dX4_compacts_351 : decode cX4_compacts 351 = .ok (.iadd, 1) := by decide +kernel
theorem dX4_compacts_352 : decode cX4_compacts 352 = .ok (.iload 5, 2) := by decide +kernel
theorem dX4_compacts_354 : decode cX4_compacts 354 = .ok (.ifCond .ge 7, 3) := by decide +kernel
theorem dX4_compacts_357 : decode cX4_compacts 357 = .ok (.iconst (-1), 1) := by decide +kernel
theorem dX4_compacts_358 : decode cX4_compacts 358 = .ok (.goto 13, 3) := by decide +kernel
theorem dX4_compacts_361 : decode cX4_compacts 361 = .ok (.aload_n 0, 1) := by decide +kernel
theorem dX4_compacts_362 : decode cX4_compacts 362 = .ok (.getfield 7, 3) := by decide +kernel
theorem dX4_compacts_365 : decode cX4_compacts 365 = .ok (.bipush 84, 2) := by decide +kernel
theorem dX4_compacts_367 : decode cX4_compacts 367 = .ok (.iload 5, 2) := by decide +kernel
theorem dX4_compacts_369 : decode cX4_compacts 369 = .ok (.iadd, 1) := by decide +kernel
theorem dX4_compacts_370 : decode cX4_compacts 370 = .ok (.iaload, 1) := by decide +kernel
theorem dX4_compacts_371 : decode cX4_compacts 371 = .ok (.iastore, 1) := by decide +kernel
theorem dX4_compacts_372 : decode cX4_compacts 372 = .ok (.iinc 4 1, 3) := by decide +kernel
theorem dX4_compacts_375 : decode cX4_compacts 375 = .ok (.goto (-55), 3) := by decide +kernel
theorem dX4_compacts_378 : decode cX4_compacts 378 = .ok (.iconst 0, 1) := by decide +kernel
theorem dX4_compacts_379 : decode cX4_compacts 379 = .ok (.istore 4, 2) := by decide +kernel
theorem dX4_compacts_381 : decode cX4_compacts 381 = .ok (.iload 4, 2) := by decide +kernel
theorem dX4_compacts_383 : decode cX4_compacts 383 = .ok (.bipush 18, 2) := by decide +kernel
theorem dX4_compacts_385 : decode cX4_compacts 385 = .ok (.if_icmp .ge 56, 3) := by decide +kernel
theorem dX4_compacts_388 : decode cX4_compacts 388 = .ok (.aload_n 0, 1) := by decide +kernel
theorem dX4_compacts_389 : decode cX4_compacts 389 = .ok (.getfield 7, 3) := by decide +kernel
theorem dX4_compacts_392 : decode cX4_compacts 392 = .ok (.bipush 124, 2) := by decide +kernel
theorem dX4_compacts_394 : decode cX4_compacts 394 = .ok (.iload 4, 2) := by decide +kernel
theorem dX4_compacts_396 : decode cX4_compacts 396 = .ok (.iadd, 1) := by decide +kernel
theorem dX4_compacts_397 : decode cX4_compacts 397 = .ok (.aload_n 0, 1) := by decide +kernel
theorem dX4_compacts_398 : decode cX4_compacts 398 = .ok (.getfield 7, 3) := by decide +kernel
theorem dX4_compacts_401 : decode cX4_compacts 401 = .ok (.bipush 124, 2) := by decide +kernel
theorem dX4_compacts_403 : decode cX4_compacts 403 = .ok (.iload 4, 2) := by decide +kernel
theorem dX4_compacts_405 : decode cX4_compacts 405 = .ok (.iadd, 1) := by decide +kernel
theorem dX4_compacts_406 : decode cX4_compacts 406 = .ok (.iaload, 1) := by decide +kernel
theorem dX4_compacts_407 : decode cX4_compacts 407 = .ok (.ifCond .ge 7, 3) := by decide +kernel
theorem dX4_compacts_410 : decode cX4_compacts 410 = .ok (.iconst (-1), 1) := by decide +kernel
theorem dX4_compacts_411 : decode cX4_compacts 411 = .ok (.goto 23, 3) := by decide +kernel
theorem dX4_compacts_414 : decode cX4_compacts 414 = .ok (.aload_n 0, 1) := by decide +kernel
theorem dX4_compacts_415 : decode cX4_compacts 415 = .ok (.getfield 7, 3) := by decide +kernel
theorem dX4_compacts_418 : decode cX4_compacts 418 = .ok (.iload_n 2, 1) := by decide +kernel
theorem dX4_compacts_419 : decode cX4_compacts 419 = .ok (.bipush 43, 2) := by decide +kernel
theorem dX4_compacts_421 : decode cX4_compacts 421 = .ok (.iadd, 1) := by decide +kernel
theorem dX4_compacts_422 : decode cX4_compacts 422 = .ok (.aload_n 0, 1) := by decide +kernel
theorem dX4_compacts_423 : decode cX4_compacts 423 = .ok (.getfield 7, 3) := by decide +kernel
theorem dX4_compacts_426 : decode cX4_compacts 426 = .ok (.bipush 124, 2) := by decide +kernel
theorem dX4_compacts_428 : decode cX4_compacts 428 = .ok (.iload 4, 2) := by decide +kernel
theorem dX4_compacts_430 : decode cX4_compacts 430 = .ok (.iadd, 1) := by decide +kernel
theorem dX4_compacts_431 : decode cX4_compacts 431 = .ok (.iaload, 1) := by decide +kernel
theorem dX4_compacts_432 : decode cX4_compacts 432 = .ok (.iadd, 1) := by decide +kernel
theorem dX4_compacts_433 : decode cX4_compacts 433 = .ok (.iaload, 1) := by decide +kernel
theorem dX4_compacts_434 : decode cX4_compacts 434 = .ok (.iastore, 1) := by decide +kernel
theorem dX4_compacts_435 : decode cX4_compacts 435 = .ok (.iinc 4 1, 3) := by decide +kernel
theorem dX4_compacts_438 : decode cX4_compacts 438 = .ok (.goto (-57), 3) := by decide +kernel
theorem dX4_compacts_441 : decode cX4_compacts 441 = .ok (.aload_n 0, 1) := by decide +kernel
theorem dX4_compacts_442 : decode cX4_compacts 442 = .ok (.getfield 7, 3) := by decide +kernel
theorem dX4_compacts_445 : decode cX4_compacts 445 = .ok (.iload_n 2, 1) := by decide +kernel
theorem dX4_compacts_446 : decode cX4_compacts 446 = .ok (.iload_n 1, 1) := by decide +kernel
theorem dX4_compacts_447 : decode cX4_compacts 447 = .ok (.iastore, 1) := by decide +kernel
theorem dX4_compacts_448 : decode cX4_compacts 448 = .ok (.aload_n 0, 1) := by decide +kernel
theorem dX4_compacts_449 : decode cX4_compacts 449 = .ok (.getfield 7, 3) := by decide +kernel
theorem dX4_compacts_452 : decode cX4_compacts 452 = .ok (.iload_n 2, 1) := by decide +kernel
theorem dX4_compacts_453 : decode cX4_compacts 453 = .ok (.iconst 1, 1) := by decide +kernel
theorem dX4_compacts_454 : decode cX4_compacts 454 = .ok (.iadd, 1) := by decide +kernel
theorem dX4_compacts_455 : decode cX4_compacts 455 = .ok (.aload_n 0, 1) := by decide +kernel
theorem dX4_compacts_456 : decode cX4_compacts 456 = .ok (.getfield 103, 3) := by decide +kernel
theorem dX4_compacts_459 : decode cX4_compacts 459 = .ok (.iastore, 1) := by decide +kernel
theorem dX4_compacts_460 : decode cX4_compacts 460 = .ok (.aload_n 0, 1) := by decide +kernel
theorem dX4_compacts_461 : decode cX4_compacts 461 = .ok (.getfield 7, 3) := by decide +kernel
theorem dX4_compacts_464 : decode cX4_compacts 464 = .ok (.iload_n 2, 1) := by decide +kernel
theorem dX4_compacts_465 : decode cX4_compacts 465 = .ok (.iconst 2, 1) := by decide +kernel
theorem dX4_compacts_466 : decode cX4_compacts 466 = .ok (.iadd, 1) := by decide +kernel
theorem dX4_compacts_467 : decode cX4_compacts 467 = .ok (.iload_n 3, 1) := by decide +kernel
theorem dX4_compacts_468 : decode cX4_compacts 468 = .ok (.iastore, 1) := by decide +kernel
theorem dX4_compacts_469 : decode cX4_compacts 469 = .ok (.aload_n 0, 1) := by decide +kernel
theorem dX4_compacts_470 : decode cX4_compacts 470 = .ok (.getfield 7, 3) := by decide +kernel
theorem dX4_compacts_473 : decode cX4_compacts 473 = .ok (.iconst 0, 1) := by decide +kernel
theorem dX4_compacts_474 : decode cX4_compacts 474 = .ok (.dup2, 1) := by decide +kernel
theorem dX4_compacts_475 : decode cX4_compacts 475 = .ok (.iaload, 1) := by decide +kernel
theorem dX4_compacts_476 : decode cX4_compacts 476 = .ok (.iconst 1, 1) := by decide +kernel
theorem dX4_compacts_477 : decode cX4_compacts 477 = .ok (.iadd, 1) := by decide +kernel
theorem dX4_compacts_478 : decode cX4_compacts 478 = .ok (.iastore, 1) := by decide +kernel
theorem dX4_compacts_479 : decode cX4_compacts 479 = .ok (.aload_n 0, 1) := by decide +kernel
theorem dX4_compacts_480 : decode cX4_compacts 480 = .ok (.getfield 7, 3) := by decide +kernel
theorem dX4_compacts_483 : decode cX4_compacts 483 = .ok (.iconst 3, 1) := by decide +kernel
theorem dX4_compacts_484 : decode cX4_compacts 484 = .ok (.dup2, 1) := by decide +kernel
theorem dX4_compacts_485 : decode cX4_compacts 485 = .ok (.iaload, 1) := by decide +kernel
theorem dX4_compacts_486 : decode cX4_compacts 486 = .ok (.iconst 1, 1) := by decide +kernel
theorem dX4_compacts_487 : decode cX4_compacts 487 = .ok (.iadd, 1) := by decide +kernel
theorem dX4_compacts_488 : decode cX4_compacts 488 = .ok (.iastore, 1) := by decide +kernel
theorem dX4_compacts_489 : decode cX4_compacts 489 = .ok (.iload_n 3, 1) := by decide +kernel
theorem dX4_compacts_490 : decode cX4_compacts 490 = .ok (.ireturn, 1) := by decide +kernel
set_option maxRecDepth 20000 in
theorem ggX4_compact_X4_within : GoodIn wsX4_compact wsX4_within := goodIn_r _ [7] (by decide +kernel) (by decide +kernel)
set_option maxRecDepth 20000 in
theorem gX4_compact_X4_within : GoodIn wsX4_compact (va_wsS RX4 37 yX4_within wsX4_within) := goodIn_app (goodIn_of _ (by decide +kernel)) ggX4_compact_X4_within
set_option maxRecDepth 20000 in
theorem ggX4_compact_X4_saves : GoodIn wsX4_compact wsX4_saves := goodIn_r _ [11, 12, 13, 2, 37, 38, 39, 40, 41, 42, 43, 44, 45, 46, 47, 48, 49, 50, 51, 52, 53] (by decide +kernel) (by decide +kernel)
set_option maxRecDepth 20000 in
theorem gX4_compact_X4_saves : GoodIn wsX4_compact (wsV RX4 66 RX4 yX4_saves wsX4_saves) := goodIn_app (goodIn_of _ (by decide +kernel)) ggX4_compact_X4_saves
set_option maxRecDepth 20000 in
theorem ggX4_compact_X4_compacts : GoodIn wsX4_compact wsX4_compacts := goodIn_r _ [17, 2, 18, 19, 20, 21, 22, 23, 6, 24, 25, 26, 27, 28, 29, 30, 31, 32, 33, 34, 35, 36, 37, 38, 39, 40, 41, 42, 43, 44, 45, 46, 47, 48, 49, 50, 51, 52, 53] (by decide +kernel) (by decide +kernel)
set_option maxRecDepth 20000 in
theorem gX4_compact_X4_compacts : GoodIn wsX4_compact (wsV RX4 113 RX4 yX4_compacts wsX4_compacts) := goodIn_app (goodIn_of _ (by decide +kernel)) ggX4_compact_X4_compacts
theorem dX4_compact_0 : decode cX4_compact 0 = .ok (.iload_n 1, 1) := by decide +kernel
theorem dX4_compact_1 : decode cX4_compact 1 = .ok (.iconst 0, 1) := by decide +kernel
theorem dX4_compact_2 : decode cX4_compact 2 = .ok (.iconst 2, 1) := by decide +kernel
theorem dX4_compact_3 : decode cX4_compact 3 = .ok (.invokestatic 37, 3) := by decide +kernel
theorem dX4_compact_6 : decode cX4_compact 6 = .ok (.ifCond .ne 6, 3) := by decide +kernel
theorem dX4_compact_9 : decode cX4_compact 9 = .ok (.ldc 61, 2) := by decide +kernel
theorem dX4_compact_11 : decode cX4_compact 11 = .ok (.ireturn, 1) := by decide +kernel
theorem dX4_compact_12 : decode cX4_compact 12 = .ok (.aload_n 0, 1) := by decide +kernel
theorem dX4_compact_13 : decode cX4_compact 13 = .ok (.getfield 7, 3) := by decide +kernel
theorem dX4_compact_16 : decode cX4_compact 16 = .ok (.iconst 0, 1) := by decide +kernel
theorem dX4_compact_17 : decode cX4_compact 17 = .ok (.iaload, 1) := by decide +kernel
theorem dX4_compact_18 : decode cX4_compact 18 = .ok (.sipush 999, 3) := by decide +kernel
theorem dX4_compact_21 : decode cX4_compact 21 = .ok (.if_icmp .ne 6, 3) := by decide +kernel
theorem dX4_compact_24 : decode cX4_compact 24 = .ok (.ldc 65, 2) := by decide +kernel
theorem dX4_compact_26 : decode cX4_compact 26 = .ok (.ireturn, 1) := by decide +kernel
theorem dX4_compact_27 : decode cX4_compact 27 = .ok (.aload_n 0, 1) := by decide +kernel
theorem dX4_compact_28 : decode cX4_compact 28 = .ok (.invokevirtual 66, 3) := by decide +kernel
theorem dX4_compact_31 : decode cX4_compact 31 = .ok (.aload_n 0, 1) := by decide +kernel
theorem dX4_compact_32 : decode cX4_compact 32 = .ok (.iload_n 1, 1) := by decide +kernel
theorem dX4_compact_33 : decode cX4_compact 33 = .ok (.invokevirtual 113, 3) := by decide +kernel
theorem dX4_compact_36 : decode cX4_compact 36 = .ok (.ireturn, 1) := by decide +kernel
set_option maxRecDepth 20000 in
theorem ggX4_numberOf_X4_within : GoodIn wsX4_numberOf wsX4_within := goodIn_r _ [7] (by decide +kernel) (by decide +kernel)
set_option maxRecDepth 20000 in
theorem gX4_numberOf_X4_within : GoodIn wsX4_numberOf (va_wsS RX4 37 yX4_within wsX4_within) := goodIn_app (goodIn_of _ (by decide +kernel)) ggX4_numberOf_X4_within
set_option maxRecDepth 20000 in
theorem ggX4_numberOf_X4_isNamed : GoodIn wsX4_numberOf wsX4_isNamed := goodIn_r _ [11, 2, 21, 22, 23, 24, 25, 26, 27, 28, 29, 30, 31, 32, 33, 34, 35, 36, 37] (by decide +kernel) (by decide +kernel)
set_option maxRecDepth 20000 in
theorem gX4_numberOf_X4_isNamed : GoodIn wsX4_numberOf (wsV RX4 42 RX4 yX4_isNamed wsX4_isNamed) := goodIn_app (goodIn_of _ (by decide +kernel)) ggX4_numberOf_X4_isNamed
set_option maxRecDepth 20000 in
theorem ggX4_numberOf_X4_cellsWith : GoodIn wsX4_numberOf wsX4_cellsWith := goodIn_r _ [15, 2, 21, 22, 23, 24, 25, 26, 27, 28, 29, 30, 31, 32, 33, 34, 35, 36, 37] (by decide +kernel) (by decide +kernel)
set_option maxRecDepth 20000 in
theorem gX4_numberOf_X4_cellsWith : GoodIn wsX4_numberOf (wsV RX4 86 RX4 yX4_cellsWith wsX4_cellsWith) := goodIn_app (goodIn_of _ (by decide +kernel)) ggX4_numberOf_X4_cellsWith
set_option maxRecDepth 20000 in
theorem ggX4_numberOf_X4_tagOf : GoodIn wsX4_numberOf wsX4_tagOf := goodIn_r _ [19, 20, 2, 21, 22, 23, 24, 25, 26, 27, 28, 29, 30, 31, 32, 33, 34, 35, 36, 37] (by decide +kernel) (by decide +kernel)
set_option maxRecDepth 20000 in
theorem gX4_numberOf_X4_tagOf : GoodIn wsX4_numberOf (wsV RX4 55 RX4 yX4_tagOf wsX4_tagOf) := goodIn_app (goodIn_of _ (by decide +kernel)) ggX4_numberOf_X4_tagOf
theorem dX4_numberOf_0 : decode cX4_numberOf 0 = .ok (.iload_n 1, 1) := by decide +kernel
theorem dX4_numberOf_1 : decode cX4_numberOf 1 = .ok (.iconst 0, 1) := by decide +kernel
theorem dX4_numberOf_2 : decode cX4_numberOf 2 = .ok (.bipush 39, 2) := by decide +kernel
theorem dX4_numberOf_4 : decode cX4_numberOf 4 = .ok (.invokestatic 37, 3) := by decide +kernel
theorem dX4_numberOf_7 : decode cX4_numberOf 7 = .ok (.ifCond .eq 12, 3) := by decide +kernel
theorem dX4_numberOf_10 : decode cX4_numberOf 10 = .ok (.iload_n 2, 1) := by decide +kernel
theorem dX4_numberOf_11 : decode cX4_numberOf 11 = .ok (.iconst 0, 1) := by decide +kernel
theorem dX4_numberOf_12 : decode cX4_numberOf 12 = .ok (.iconst 4, 1) := by decide +kernel
theorem dX4_numberOf_13 : decode cX4_numberOf 13 = .ok (.invokestatic 37, 3) := by decide +kernel
theorem dX4_numberOf_16 : decode cX4_numberOf 16 = .ok (.ifCond .ne 6, 3) := by decide +kernel
theorem dX4_numberOf_19 : decode cX4_numberOf 19 = .ok (.ldc 61, 2) := by decide +kernel
theorem dX4_numberOf_21 : decode cX4_numberOf 21 = .ok (.ireturn, 1) := by decide +kernel
theorem dX4_numberOf_22 : decode cX4_numberOf 22 = .ok (.iload_n 2, 1) := by decide +kernel
theorem dX4_numberOf_23 : decode cX4_numberOf 23 = .ok (.tableswitch 77 0 3 #[29, 51, 61, 67], 29) := by decide +kernel
theorem dX4_numberOf_52 : decode cX4_numberOf 52 = .ok (.aload_n 0, 1) := by decide +kernel
theorem dX4_numberOf_53 : decode cX4_numberOf 53 = .ok (.iload_n 1, 1) := by decide +kernel
theorem dX4_numberOf_54 : decode cX4_numberOf 54 = .ok (.invokevirtual 42, 3) := by decide +kernel
theorem dX4_numberOf_57 : decode cX4_numberOf 57 = .ok (.ifCond .eq 14, 3) := by decide +kernel
theorem dX4_numberOf_60 : decode cX4_numberOf 60 = .ok (.aload_n 0, 1) := by decide +kernel
theorem dX4_numberOf_61 : decode cX4_numberOf 61 = .ok (.getfield 7, 3) := by decide +kernel
theorem dX4_numberOf_64 : decode cX4_numberOf 64 = .ok (.iconst 4, 1) := by decide +kernel
theorem dX4_numberOf_65 : decode cX4_numberOf 65 = .ok (.iload_n 1, 1) := by decide +kernel
theorem dX4_numberOf_66 : decode cX4_numberOf 66 = .ok (.iadd, 1) := by decide +kernel
theorem dX4_numberOf_67 : decode cX4_numberOf 67 = .ok (.iaload, 1) := by decide +kernel
theorem dX4_numberOf_68 : decode cX4_numberOf 68 = .ok (.goto 5, 3) := by decide +kernel
theorem dX4_numberOf_71 : decode cX4_numberOf 71 = .ok (.ldc 99, 2) := by decide +kernel
theorem dX4_numberOf_73 : decode cX4_numberOf 73 = .ok (.ireturn, 1) := by decide +kernel
theorem dX4_numberOf_74 : decode cX4_numberOf 74 = .ok (.aload_n 0, 1) := by decide +kernel
theorem dX4_numberOf_75 : decode cX4_numberOf 75 = .ok (.getfield 7, 3) := by decide +kernel
theorem dX4_numberOf_78 : decode cX4_numberOf 78 = .ok (.bipush 44, 2) := by decide +kernel
theorem dX4_numberOf_80 : decode cX4_numberOf 80 = .ok (.iload_n 1, 1) := by decide +kernel
theorem dX4_numberOf_81 : decode cX4_numberOf 81 = .ok (.iadd, 1) := by decide +kernel
theorem dX4_numberOf_82 : decode cX4_numberOf 82 = .ok (.iaload, 1) := by decide +kernel
theorem dX4_numberOf_83 : decode cX4_numberOf 83 = .ok (.ireturn, 1) := by decide +kernel
theorem dX4_numberOf_84 : decode cX4_numberOf 84 = .ok (.aload_n 0, 1) := by decide +kernel
theorem dX4_numberOf_85 : decode cX4_numberOf 85 = .ok (.iload_n 1, 1) := by decide +kernel
theorem dX4_numberOf_86 : decode cX4_numberOf 86 = .ok (.invokevirtual 86, 3) := by decide +kernel
theorem dX4_numberOf_89 : decode cX4_numberOf 89 = .ok (.ireturn, 1) := by decide +kernel
theorem dX4_numberOf_90 : decode cX4_numberOf 90 = .ok (.aload_n 0, 1) := by decide +kernel
theorem dX4_numberOf_91 : decode cX4_numberOf 91 = .ok (.getfield 7, 3) := by decide +kernel
theorem dX4_numberOf_94 : decode cX4_numberOf 94 = .ok (.bipush 84, 2) := by decide +kernel
theorem dX4_numberOf_96 : decode cX4_numberOf 96 = .ok (.iload_n 1, 1) := by decide +kernel
theorem dX4_numberOf_97 : decode cX4_numberOf 97 = .ok (.iadd, 1) := by decide +kernel
theorem dX4_numberOf_98 : decode cX4_numberOf 98 = .ok (.iaload, 1) := by decide +kernel
theorem dX4_numberOf_99 : decode cX4_numberOf 99 = .ok (.ireturn, 1) := by decide +kernel
theorem dX4_numberOf_100 : decode cX4_numberOf 100 = .ok (.aload_n 0, 1) := by decide +kernel
theorem dX4_numberOf_101 : decode cX4_numberOf 101 = .ok (.iload_n 1, 1) := by decide +kernel
theorem dX4_numberOf_102 : decode cX4_numberOf 102 = .ok (.invokevirtual 42, 3) := by decide +kernel
theorem dX4_numberOf_105 : decode cX4_numberOf 105 = .ok (.ifCond .eq 11, 3) := by decide +kernel
theorem dX4_numberOf_108 : decode cX4_numberOf 108 = .ok (.aload_n 0, 1) := by decide +kernel
theorem dX4_numberOf_109 : decode cX4_numberOf 109 = .ok (.iload_n 1, 1) := by decide +kernel
theorem dX4_numberOf_110 : decode cX4_numberOf 110 = .ok (.invokevirtual 55, 3) := by decide +kernel
theorem dX4_numberOf_113 : decode cX4_numberOf 113 = .ok (.goto 5, 3) := by decide +kernel
theorem dX4_numberOf_116 : decode cX4_numberOf 116 = .ok (.ldc 99, 2) := by decide +kernel
theorem dX4_numberOf_118 : decode cX4_numberOf 118 = .ok (.ireturn, 1) := by decide +kernel
set_option maxRecDepth 20000 in
theorem ggX4_find_X4_isName : GoodIn wsX4_find wsX4_isName := goodIn_r _ [6, 7, 8, 9, 5, 10] (by decide +kernel) (by decide +kernel)
set_option maxRecDepth 20000 in
theorem gX4_find_X4_isName : GoodIn wsX4_find (va_wsS RX4 58 yX4_isName wsX4_isName) := goodIn_app (goodIn_of _ (by decide +kernel)) ggX4_find_X4_isName
set_option maxRecDepth 20000 in
theorem ggX4_find_X4_numberWith : GoodIn wsX4_find wsX4_numberWith := goodIn_r _ [14, 15, 16, 17, 18, 19, 20, 21, 22, 23, 24, 25, 26, 27, 28, 29, 30, 31, 32] (by decide +kernel) (by decide +kernel)
set_option maxRecDepth 20000 in
theorem gX4_find_X4_numberWith : GoodIn wsX4_find (wsV RX4 47 RX4 yX4_numberWith wsX4_numberWith) := goodIn_app (goodIn_of _ (by decide +kernel)) ggX4_find_X4_numberWith
theorem dX4_find_0 : decode cX4_find 0 = .ok (.iload_n 1, 1) := by decide +kernel
theorem dX4_find_1 : decode cX4_find 1 = .ok (.invokestatic 58, 3) := by decide +kernel
theorem dX4_find_4 : decode cX4_find 4 = .ok (.ifCond .ne 6, 3) := by decide +kernel
theorem dX4_find_7 : decode cX4_find 7 = .ok (.ldc 61, 2) := by decide +kernel
theorem dX4_find_9 : decode cX4_find 9 = .ok (.ireturn, 1) := by decide +kernel
theorem dX4_find_10 : decode cX4_find 10 = .ok (.aload_n 0, 1) := by decide +kernel
theorem dX4_find_11 : decode cX4_find 11 = .ok (.iload_n 1, 1) := by decide +kernel
theorem dX4_find_12 : decode cX4_find 12 = .ok (.invokevirtual 47, 3) := by decide +kernel
theorem dX4_find_15 : decode cX4_find 15 = .ok (.istore_n 2, 1) := by decide +kernel
theorem dX4_find_16 : decode cX4_find 16 = .ok (.iload_n 2, 1) := by decide +kernel
theorem dX4_find_17 : decode cX4_find 17 = .ok (.ifCond .ge 8, 3) := by decide +kernel
theorem dX4_find_20 : decode cX4_find 20 = .ok (.ldc 99, 2) := by decide +kernel
theorem dX4_find_22 : decode cX4_find 22 = .ok (.goto 4, 3) := by decide +kernel
theorem dX4_find_25 : decode cX4_find 25 = .ok (.iload_n 2, 1) := by decide +kernel
theorem dX4_find_26 : decode cX4_find 26 = .ok (.ireturn, 1) := by decide +kernel
set_option maxRecDepth 20000 in
theorem ggX4_nameAt_X4_within : GoodIn wsX4_nameAt wsX4_within := goodIn_r _ [9] (by decide +kernel) (by decide +kernel)
set_option maxRecDepth 20000 in
theorem gX4_nameAt_X4_within : GoodIn wsX4_nameAt (va_wsS RX4 37 yX4_within wsX4_within) := goodIn_app (goodIn_of _ (by decide +kernel)) ggX4_nameAt_X4_within
set_option maxRecDepth 20000 in
theorem ggX4_nameAt_X4_ranks : GoodIn wsX4_nameAt wsX4_ranks := goodIn_r _ [13, 2, 4, 14, 15, 16, 8, 17, 3, 18, 19, 20, 21, 22, 23, 24, 25, 26, 27, 28, 29, 30, 31, 32, 33, 34, 35, 36, 37, 38, 39, 40, 41, 42] (by decide +kernel) (by decide +kernel)
set_option maxRecDepth 20000 in
theorem gX4_nameAt_X4_ranks : GoodIn wsX4_nameAt (wsV RX4 109 RX4 yX4_ranks wsX4_ranks) := goodIn_app (goodIn_of _ (by decide +kernel)) ggX4_nameAt_X4_ranks
theorem dX4_nameAt_0 : decode cX4_nameAt 0 = .ok (.iload_n 1, 1) := by decide +kernel
theorem dX4_nameAt_1 : decode cX4_nameAt 1 = .ok (.iconst 0, 1) := by decide +kernel
theorem dX4_nameAt_2 : decode cX4_nameAt 2 = .ok (.iconst 2, 1) := by decide +kernel
theorem dX4_nameAt_3 : decode cX4_nameAt 3 = .ok (.invokestatic 37, 3) := by decide +kernel
theorem dX4_nameAt_6 : decode cX4_nameAt 6 = .ok (.ifCond .eq 7, 3) := by decide +kernel
theorem dX4_nameAt_9 : decode cX4_nameAt 9 = .ok (.iload_n 2, 1) := by decide +kernel
theorem dX4_nameAt_10 : decode cX4_nameAt 10 = .ok (.ifCond .ge 6, 3) := by decide +kernel
theorem dX4_nameAt_13 : decode cX4_nameAt 13 = .ok (.ldc 61, 2) := by decide +kernel
theorem dX4_nameAt_15 : decode cX4_nameAt 15 = .ok (.ireturn, 1) := by decide +kernel
theorem dX4_nameAt_16 : decode cX4_nameAt 16 = .ok (.aload_n 0, 1) := by decide +kernel
theorem dX4_nameAt_17 : decode cX4_nameAt 17 = .ok (.iload_n 1, 1) := by decide +kernel
theorem dX4_nameAt_18 : decode cX4_nameAt 18 = .ok (.invokevirtual 109, 3) := by decide +kernel
theorem dX4_nameAt_21 : decode cX4_nameAt 21 = .ok (.iload_n 2, 1) := by decide +kernel
theorem dX4_nameAt_22 : decode cX4_nameAt 22 = .ok (.aload_n 0, 1) := by decide +kernel
theorem dX4_nameAt_23 : decode cX4_nameAt 23 = .ok (.getfield 103, 3) := by decide +kernel
theorem dX4_nameAt_26 : decode cX4_nameAt 26 = .ok (.if_icmp .ge 19, 3) := by decide +kernel
theorem dX4_nameAt_29 : decode cX4_nameAt 29 = .ok (.aload_n 0, 1) := by decide +kernel
theorem dX4_nameAt_30 : decode cX4_nameAt 30 = .ok (.getfield 7, 3) := by decide +kernel
theorem dX4_nameAt_33 : decode cX4_nameAt 33 = .ok (.iconst 4, 1) := by decide +kernel
theorem dX4_nameAt_34 : decode cX4_nameAt 34 = .ok (.aload_n 0, 1) := by decide +kernel
theorem dX4_nameAt_35 : decode cX4_nameAt 35 = .ok (.getfield 22, 3) := by decide +kernel
theorem dX4_nameAt_38 : decode cX4_nameAt 38 = .ok (.iload_n 2, 1) := by decide +kernel
theorem dX4_nameAt_39 : decode cX4_nameAt 39 = .ok (.iaload, 1) := by decide +kernel
theorem dX4_nameAt_40 : decode cX4_nameAt 40 = .ok (.iadd, 1) := by decide +kernel
theorem dX4_nameAt_41 : decode cX4_nameAt 41 = .ok (.iaload, 1) := by decide +kernel
theorem dX4_nameAt_42 : decode cX4_nameAt 42 = .ok (.goto 5, 3) := by decide +kernel
theorem dX4_nameAt_45 : decode cX4_nameAt 45 = .ok (.ldc 99, 2) := by decide +kernel
theorem dX4_nameAt_47 : decode cX4_nameAt 47 = .ok (.ireturn, 1) := by decide +kernel
theorem dX4_begins_0 : decode cX4_begins 0 = .ok (.iload_n 0, 1) := by decide +kernel
theorem dX4_begins_1 : decode cX4_begins 1 = .ok (.istore_n 2, 1) := by decide +kernel
theorem dX4_begins_2 : decode cX4_begins 2 = .ok (.iload_n 2, 1) := by decide +kernel
theorem dX4_begins_3 : decode cX4_begins 3 = .ok (.iload_n 1, 1) := by decide +kernel
theorem dX4_begins_4 : decode cX4_begins 4 = .ok (.if_icmp .le 11, 3) := by decide +kernel
theorem dX4_begins_7 : decode cX4_begins 7 = .ok (.iload_n 2, 1) := by decide +kernel
theorem dX4_begins_8 : decode cX4_begins 8 = .ok (.bipush 27, 2) := by decide +kernel
theorem dX4_begins_10 : decode cX4_begins 10 = .ok (.idiv, 1) := by decide +kernel
theorem dX4_begins_11 : decode cX4_begins 11 = .ok (.istore_n 2, 1) := by decide +kernel
theorem dX4_begins_12 : decode cX4_begins 12 = .ok (.goto (-10), 3) := by decide +kernel
theorem dX4_begins_15 : decode cX4_begins 15 = .ok (.iload_n 2, 1) := by decide +kernel
theorem dX4_begins_16 : decode cX4_begins 16 = .ok (.iload_n 1, 1) := by decide +kernel
theorem dX4_begins_17 : decode cX4_begins 17 = .ok (.if_icmp .ne 7, 3) := by decide +kernel
theorem dX4_begins_20 : decode cX4_begins 20 = .ok (.iconst 1, 1) := by decide +kernel
theorem dX4_begins_21 : decode cX4_begins 21 = .ok (.goto 4, 3) := by decide +kernel
theorem dX4_begins_24 : decode cX4_begins 24 = .ok (.iconst 0, 1) := by decide +kernel
theorem dX4_begins_25 : decode cX4_begins 25 = .ok (.ireturn, 1) := by decide +kernel
set_option maxRecDepth 20000 in
theorem ggX4_beginning_X4_isName : GoodIn wsX4_beginning wsX4_isName := goodIn_r _ [6, 7, 8, 9, 5, 10] (by decide +kernel) (by decide +kernel)
set_option maxRecDepth 20000 in
theorem gX4_beginning_X4_isName : GoodIn wsX4_beginning (va_wsS RX4 58 yX4_isName wsX4_isName) := goodIn_app (goodIn_of _ (by decide +kernel)) ggX4_beginning_X4_isName
set_option maxRecDepth 20000 in
theorem ggX4_beginning_X4_isNamed : GoodIn wsX4_beginning wsX4_isNamed := goodIn_r _ [14, 2, 18, 19, 20, 21, 22, 23, 24, 25, 26, 27, 28, 29, 30, 31, 32, 33, 34] (by decide +kernel) (by decide +kernel)
set_option maxRecDepth 20000 in
theorem gX4_beginning_X4_isNamed : GoodIn wsX4_beginning (wsV RX4 42 RX4 yX4_isNamed wsX4_isNamed) := goodIn_app (goodIn_of _ (by decide +kernel)) ggX4_beginning_X4_isNamed
set_option maxRecDepth 20000 in
theorem ggX4_beginning_X4_begins : GoodIn wsX4_beginning wsX4_begins := goodIn_r _ [17] (by decide +kernel) (by decide +kernel)
set_option maxRecDepth 20000 in
theorem gX4_beginning_X4_begins : GoodIn wsX4_beginning (va_wsS RX4 116 yX4_begins wsX4_begins) := goodIn_app (goodIn_of _ (by decide +kernel)) ggX4_beginning_X4_begins
theorem dX4_beginning_0 : decode cX4_beginning 0 = .ok (.iload_n 1, 1) := by decide +kernel
theorem dX4_beginning_1 : decode cX4_beginning 1 = .ok (.invokestatic 58, 3) := by decide +kernel
theorem dX4_beginning_4 : decode cX4_beginning 4 = .ok (.ifCond .ne 6, 3) := by decide +kernel
theorem dX4_beginning_7 : decode cX4_beginning 7 = .ok (.ldc 61, 2) := by decide +kernel
theorem dX4_beginning_9 : decode cX4_beginning 9 = .ok (.ireturn, 1) := by decide +kernel
theorem dX4_beginning_10 : decode cX4_beginning 10 = .ok (.iconst 0, 1) := by decide +kernel
theorem dX4_beginning_11 : decode cX4_beginning 11 = .ok (.istore_n 2, 1) := by decide +kernel
theorem dX4_beginning_12 : decode cX4_beginning 12 = .ok (.iconst 0, 1) := by decide +kernel
theorem dX4_beginning_13 : decode cX4_beginning 13 = .ok (.istore_n 3, 1) := by decide +kernel
theorem dX4_beginning_14 : decode cX4_beginning 14 = .ok (.iload_n 3, 1) := by decide +kernel
theorem dX4_beginning_15 : decode cX4_beginning 15 = .ok (.bipush 40, 2) := by decide +kernel
theorem dX4_beginning_17 : decode cX4_beginning 17 = .ok (.if_icmp .ge 40, 3) := by decide +kernel
theorem dX4_beginning_20 : decode cX4_beginning 20 = .ok (.iload_n 2, 1) := by decide +kernel
theorem dX4_beginning_21 : decode cX4_beginning 21 = .ok (.aload_n 0, 1) := by decide +kernel
theorem dX4_beginning_22 : decode cX4_beginning 22 = .ok (.iload_n 3, 1) := by decide +kernel
theorem dX4_beginning_23 : decode cX4_beginning 23 = .ok (.invokevirtual 42, 3) := by decide +kernel
theorem dX4_beginning_26 : decode cX4_beginning 26 = .ok (.ifCond .eq 22, 3) := by decide +kernel
theorem dX4_beginning_29 : decode cX4_beginning 29 = .ok (.aload_n 0, 1) := by decide +kernel
theorem dX4_beginning_30 : decode cX4_beginning 30 = .ok (.getfield 7, 3) := by decide +kernel
theorem dX4_beginning_33 : decode cX4_beginning 33 = .ok (.iconst 4, 1) := by decide +kernel
theorem dX4_beginning_34 : decode cX4_beginning 34 = .ok (.iload_n 3, 1) := by decide +kernel
theorem dX4_beginning_35 : decode cX4_beginning 35 = .ok (.iadd, 1) := by decide +kernel
theorem dX4_beginning_36 : decode cX4_beginning 36 = .ok (.iaload, 1) := by decide +kernel
theorem dX4_beginning_37 : decode cX4_beginning 37 = .ok (.iload_n 1, 1) := by decide +kernel
theorem dX4_beginning_38 : decode cX4_beginning 38 = .ok (.invokestatic 116, 3) := by decide +kernel
theorem dX4_beginning_41 : decode cX4_beginning 41 = .ok (.ifCond .eq 7, 3) := by decide +kernel
theorem dX4_beginning_44 : decode cX4_beginning 44 = .ok (.iconst 1, 1) := by decide +kernel
theorem dX4_beginning_45 : decode cX4_beginning 45 = .ok (.goto 4, 3) := by decide +kernel
theorem dX4_beginning_48 : decode cX4_beginning 48 = .ok (.iconst 0, 1) := by decide +kernel
theorem dX4_beginning_49 : decode cX4_beginning 49 = .ok (.iadd, 1) := by decide +kernel
theorem dX4_beginning_50 : decode cX4_beginning 50 = .ok (.istore_n 2, 1) := by decide +kernel
theorem dX4_beginning_51 : decode cX4_beginning 51 = .ok (.iinc 3 1, 3) := by decide +kernel
theorem dX4_beginning_54 : decode cX4_beginning 54 = .ok (.goto (-40), 3) := by decide +kernel
theorem dX4_beginning_57 : decode cX4_beginning 57 = .ok (.iload_n 2, 1) := by decide +kernel
theorem dX4_beginning_58 : decode cX4_beginning 58 = .ok (.ireturn, 1) := by decide +kernel
set_option maxRecDepth 20000 in
theorem ggX4_behind_X4_isName : GoodIn wsX4_behind wsX4_isName := goodIn_r _ [9, 10, 11, 12, 8, 13] (by decide +kernel) (by decide +kernel)
set_option maxRecDepth 20000 in
theorem gX4_behind_X4_isName : GoodIn wsX4_behind (va_wsS RX4 58 yX4_isName wsX4_isName) := goodIn_app (goodIn_of _ (by decide +kernel)) ggX4_behind_X4_isName
set_option maxRecDepth 20000 in
theorem ggX4_behind_X4_ranks : GoodIn wsX4_behind wsX4_ranks := goodIn_r _ [17, 2, 4, 18, 19, 20, 8, 21, 3, 22, 23, 24, 25, 26, 27, 28, 29, 30, 31, 32, 33, 34, 35, 36, 37, 38, 39, 40, 41, 42, 43, 44, 45, 46] (by decide +kernel) (by decide +kernel)
set_option maxRecDepth 20000 in
theorem gX4_behind_X4_ranks : GoodIn wsX4_behind (wsV RX4 109 RX4 yX4_ranks wsX4_ranks) := goodIn_app (goodIn_of _ (by decide +kernel)) ggX4_behind_X4_ranks
set_option maxRecDepth 20000 in
theorem ggX4_behind_X4_padded : GoodIn wsX4_behind wsX4_padded := goodIn_r _ [28, 29] (by decide +kernel) (by decide +kernel)
set_option maxRecDepth 20000 in
theorem gX4_behind_X4_padded : GoodIn wsX4_behind (va_wsS RX4 100 yX4_padded wsX4_padded) := goodIn_app (goodIn_of _ (by decide +kernel)) ggX4_behind_X4_padded
theorem dX4_behind_0 : decode cX4_behind 0 = .ok (.iload_n 1, 1) := by decide +kernel
theorem dX4_behind_1 : decode cX4_behind 1 = .ok (.invokestatic 58, 3) := by decide +kernel
theorem dX4_behind_4 : decode cX4_behind 4 = .ok (.ifCond .ne 6, 3) := by decide +kernel
theorem dX4_behind_7 : decode cX4_behind 7 = .ok (.ldc 61, 2) := by decide +kernel
theorem dX4_behind_9 : decode cX4_behind 9 = .ok (.ireturn, 1) := by decide +kernel
theorem dX4_behind_10 : decode cX4_behind 10 = .ok (.aload_n 0, 1) := by decide +kernel
theorem dX4_behind_11 : decode cX4_behind 11 = .ok (.iconst 1, 1) := by decide +kernel
theorem dX4_behind_12 : decode cX4_behind 12 = .ok (.invokevirtual 109, 3) := by decide +kernel
theorem dX4_behind_15 : decode cX4_behind 15 = .ok (.iconst 0, 1) := by decide +kernel
theorem dX4_behind_16 : decode cX4_behind 16 = .ok (.istore_n 2, 1) := by decide +kernel
theorem dX4_behind_17 : decode cX4_behind 17 = .ok (.iload_n 2, 1) := by decide +kernel
theorem dX4_behind_18 : decode cX4_behind 18 = .ok (.aload_n 0, 1) := by decide +kernel
theorem dX4_behind_19 : decode cX4_behind 19 = .ok (.getfield 103, 3) := by decide +kernel
theorem dX4_behind_22 : decode cX4_behind 22 = .ok (.if_icmp .ge 46, 3) := by decide +kernel
theorem dX4_behind_25 : decode cX4_behind 25 = .ok (.aload_n 0, 1) := by decide +kernel
theorem dX4_behind_26 : decode cX4_behind 26 = .ok (.getfield 7, 3) := by decide +kernel
theorem dX4_behind_29 : decode cX4_behind 29 = .ok (.iconst 4, 1) := by decide +kernel
theorem dX4_behind_30 : decode cX4_behind 30 = .ok (.aload_n 0, 1) := by decide +kernel
theorem dX4_behind_31 : decode cX4_behind 31 = .ok (.getfield 22, 3) := by decide +kernel
theorem dX4_behind_34 : decode cX4_behind 34 = .ok (.iload_n 2, 1) := by decide +kernel
theorem dX4_behind_35 : decode cX4_behind 35 = .ok (.iaload, 1) := by decide +kernel
theorem dX4_behind_36 : decode cX4_behind 36 = .ok (.iadd, 1) := by decide +kernel
theorem dX4_behind_37 : decode cX4_behind 37 = .ok (.iaload, 1) := by decide +kernel
theorem dX4_behind_38 : decode cX4_behind 38 = .ok (.invokestatic 100, 3) := by decide +kernel
theorem dX4_behind_41 : decode cX4_behind 41 = .ok (.iload_n 1, 1) := by decide +kernel
theorem dX4_behind_42 : decode cX4_behind 42 = .ok (.invokestatic 100, 3) := by decide +kernel
theorem dX4_behind_45 : decode cX4_behind 45 = .ok (.if_icmp .le 17, 3) := by decide +kernel
theorem dX4_behind_48 : decode cX4_behind 48 = .ok (.aload_n 0, 1) := by decide +kernel
theorem dX4_behind_49 : decode cX4_behind 49 = .ok (.getfield 7, 3) := by decide +kernel
theorem dX4_behind_52 : decode cX4_behind 52 = .ok (.iconst 4, 1) := by decide +kernel
theorem dX4_behind_53 : decode cX4_behind 53 = .ok (.aload_n 0, 1) := by decide +kernel
theorem dX4_behind_54 : decode cX4_behind 54 = .ok (.getfield 22, 3) := by decide +kernel
theorem dX4_behind_57 : decode cX4_behind 57 = .ok (.iload_n 2, 1) := by decide +kernel
theorem dX4_behind_58 : decode cX4_behind 58 = .ok (.iaload, 1) := by decide +kernel
theorem dX4_behind_59 : decode cX4_behind 59 = .ok (.iadd, 1) := by decide +kernel
theorem dX4_behind_60 : decode cX4_behind 60 = .ok (.iaload, 1) := by decide +kernel
theorem dX4_behind_61 : decode cX4_behind 61 = .ok (.ireturn, 1) := by decide +kernel
theorem dX4_behind_62 : decode cX4_behind 62 = .ok (.iinc 2 1, 3) := by decide +kernel
theorem dX4_behind_65 : decode cX4_behind 65 = .ok (.goto (-48), 3) := by decide +kernel
theorem dX4_behind_68 : decode cX4_behind 68 = .ok (.ldc 99, 2) := by decide +kernel
theorem dX4_behind_70 : decode cX4_behind 70 = .ok (.ireturn, 1) := by decide +kernel
set_option maxRecDepth 20000 in
theorem ggX4_wouldBe_X4_within : GoodIn wsX4_wouldBe wsX4_within := goodIn_r _ [8] (by decide +kernel) (by decide +kernel)
set_option maxRecDepth 20000 in
theorem gX4_wouldBe_X4_within : GoodIn wsX4_wouldBe (va_wsS RX4 37 yX4_within wsX4_within) := goodIn_app (goodIn_of _ (by decide +kernel)) ggX4_wouldBe_X4_within
set_option maxRecDepth 20000 in
theorem ggX4_wouldBe_X4_ranks : GoodIn wsX4_wouldBe wsX4_ranks := goodIn_r _ [12, 2, 3, 13, 14, 15, 7, 16, 17, 18, 19, 20, 21, 22, 23, 24, 25, 26, 27, 28, 29, 30, 31, 32, 33, 34, 35, 36, 37, 38, 39, 40, 41, 42] (by decide +kernel) (by decide +kernel)
set_option maxRecDepth 20000 in
theorem gX4_wouldBe_X4_ranks : GoodIn wsX4_wouldBe (wsV RX4 109 RX4 yX4_ranks wsX4_ranks) := goodIn_app (goodIn_of _ (by decide +kernel)) ggX4_wouldBe_X4_ranks
theorem dX4_wouldBe_0 : decode cX4_wouldBe 0 = .ok (.iload_n 1, 1) := by decide +kernel
theorem dX4_wouldBe_1 : decode cX4_wouldBe 1 = .ok (.iconst 0, 1) := by decide +kernel
theorem dX4_wouldBe_2 : decode cX4_wouldBe 2 = .ok (.bipush 39, 2) := by decide +kernel
theorem dX4_wouldBe_4 : decode cX4_wouldBe 4 = .ok (.invokestatic 37, 3) := by decide +kernel
theorem dX4_wouldBe_7 : decode cX4_wouldBe 7 = .ok (.ifCond .eq 12, 3) := by decide +kernel
theorem dX4_wouldBe_10 : decode cX4_wouldBe 10 = .ok (.iload_n 2, 1) := by decide +kernel
theorem dX4_wouldBe_11 : decode cX4_wouldBe 11 = .ok (.iconst 0, 1) := by decide +kernel
theorem dX4_wouldBe_12 : decode cX4_wouldBe 12 = .ok (.iconst 2, 1) := by decide +kernel
theorem dX4_wouldBe_13 : decode cX4_wouldBe 13 = .ok (.invokestatic 37, 3) := by decide +kernel
theorem dX4_wouldBe_16 : decode cX4_wouldBe 16 = .ok (.ifCond .ne 6, 3) := by decide +kernel
theorem dX4_wouldBe_19 : decode cX4_wouldBe 19 = .ok (.ldc 61, 2) := by decide +kernel
theorem dX4_wouldBe_21 : decode cX4_wouldBe 21 = .ok (.ireturn, 1) := by decide +kernel
theorem dX4_wouldBe_22 : decode cX4_wouldBe 22 = .ok (.aload_n 0, 1) := by decide +kernel
theorem dX4_wouldBe_23 : decode cX4_wouldBe 23 = .ok (.iload_n 2, 1) := by decide +kernel
theorem dX4_wouldBe_24 : decode cX4_wouldBe 24 = .ok (.invokevirtual 109, 3) := by decide +kernel
theorem dX4_wouldBe_27 : decode cX4_wouldBe 27 = .ok (.iconst 0, 1) := by decide +kernel
theorem dX4_wouldBe_28 : decode cX4_wouldBe 28 = .ok (.istore_n 3, 1) := by decide +kernel
theorem dX4_wouldBe_29 : decode cX4_wouldBe 29 = .ok (.iload_n 3, 1) := by decide +kernel
theorem dX4_wouldBe_30 : decode cX4_wouldBe 30 = .ok (.aload_n 0, 1) := by decide +kernel
theorem dX4_wouldBe_31 : decode cX4_wouldBe 31 = .ok (.getfield 103, 3) := by decide +kernel
theorem dX4_wouldBe_34 : decode cX4_wouldBe 34 = .ok (.if_icmp .ge 21, 3) := by decide +kernel
theorem dX4_wouldBe_37 : decode cX4_wouldBe 37 = .ok (.aload_n 0, 1) := by decide +kernel
theorem dX4_wouldBe_38 : decode cX4_wouldBe 38 = .ok (.getfield 22, 3) := by decide +kernel
theorem dX4_wouldBe_41 : decode cX4_wouldBe 41 = .ok (.iload_n 3, 1) := by decide +kernel
theorem dX4_wouldBe_42 : decode cX4_wouldBe 42 = .ok (.iaload, 1) := by decide +kernel
theorem dX4_wouldBe_43 : decode cX4_wouldBe 43 = .ok (.iload_n 1, 1) := by decide +kernel
theorem dX4_wouldBe_44 : decode cX4_wouldBe 44 = .ok (.if_icmp .ne 5, 3) := by decide +kernel
theorem dX4_wouldBe_47 : decode cX4_wouldBe 47 = .ok (.iload_n 3, 1) := by decide +kernel
theorem dX4_wouldBe_48 : decode cX4_wouldBe 48 = .ok (.ireturn, 1) := by decide +kernel
theorem dX4_wouldBe_49 : decode cX4_wouldBe 49 = .ok (.iinc 3 1, 3) := by decide +kernel
theorem dX4_wouldBe_52 : decode cX4_wouldBe 52 = .ok (.goto (-23), 3) := by decide +kernel
theorem dX4_wouldBe_55 : decode cX4_wouldBe 55 = .ok (.ldc 99, 2) := by decide +kernel
theorem dX4_wouldBe_57 : decode cX4_wouldBe 57 = .ok (.ireturn, 1) := by decide +kernel
set_option maxRecDepth 20000 in
theorem ggX4_standing_X4_ofCompaction : GoodIn wsX4_standing wsX4_ofCompaction := goodIn_r _ [7, 1, 21, 22, 23, 24, 25, 26, 27, 28, 29, 30, 31, 32, 33, 34, 35, 36, 37] (by decide +kernel) (by decide +kernel)
set_option maxRecDepth 20000 in
theorem gX4_standing_X4_ofCompaction : GoodIn wsX4_standing (wsV RX4 75 RX4 yX4_ofCompaction wsX4_ofCompaction) := goodIn_app (goodIn_of _ (by decide +kernel)) ggX4_standing_X4_ofCompaction
set_option maxRecDepth 20000 in
theorem ggX4_standing_X4_reasonOf : GoodIn wsX4_standing wsX4_reasonOf := goodIn_r _ [11, 2, 1, 12, 13, 14, 15, 6, 16, 3, 4, 5, 7, 17, 18, 19, 20, 21, 22, 23, 24, 25, 26, 27, 28, 29, 30, 31, 32, 33, 34, 35, 36, 37] (by decide +kernel) (by decide +kernel)
set_option maxRecDepth 20000 in
theorem gX4_standing_X4_reasonOf : GoodIn wsX4_standing (wsV RX4 82 RX4 yX4_reasonOf wsX4_reasonOf) := goodIn_app (goodIn_of _ (by decide +kernel)) ggX4_standing_X4_reasonOf
theorem dX4_standing_0 : decode cX4_standing 0 = .ok (.iconst 0, 1) := by decide +kernel
theorem dX4_standing_1 : decode cX4_standing 1 = .ok (.istore_n 2, 1) := by decide +kernel
theorem dX4_standing_2 : decode cX4_standing 2 = .ok (.aload_n 0, 1) := by decide +kernel
theorem dX4_standing_3 : decode cX4_standing 3 = .ok (.getfield 7, 3) := by decide +kernel
theorem dX4_standing_6 : decode cX4_standing 6 = .ok (.iconst 0, 1) := by decide +kernel
theorem dX4_standing_7 : decode cX4_standing 7 = .ok (.iaload, 1) := by decide +kernel
theorem dX4_standing_8 : decode cX4_standing 8 = .ok (.iconst 1, 1) := by decide +kernel
theorem dX4_standing_9 : decode cX4_standing 9 = .ok (.isub, 1) := by decide +kernel
theorem dX4_standing_10 : decode cX4_standing 10 = .ok (.iload_n 1, 1) := by decide +kernel
theorem dX4_standing_11 : decode cX4_standing 11 = .ok (.isub, 1) := by decide +kernel
theorem dX4_standing_12 : decode cX4_standing 12 = .ok (.istore_n 3, 1) := by decide +kernel
theorem dX4_standing_13 : decode cX4_standing 13 = .ok (.iconst 0, 1) := by decide +kernel
theorem dX4_standing_14 : decode cX4_standing 14 = .ok (.istore 4, 2) := by decide +kernel
theorem dX4_standing_16 : decode cX4_standing 16 = .ok (.iload 4, 2) := by decide +kernel
theorem dX4_standing_18 : decode cX4_standing 18 = .ok (.bipush 40, 2) := by decide +kernel
theorem dX4_standing_20 : decode cX4_standing 20 = .ok (.if_icmp .ge 53, 3) := by decide +kernel
theorem dX4_standing_23 : decode cX4_standing 23 = .ok (.aload_n 0, 1) := by decide +kernel
theorem dX4_standing_24 : decode cX4_standing 24 = .ok (.iload_n 1, 1) := by decide +kernel
theorem dX4_standing_25 : decode cX4_standing 25 = .ok (.iconst 3, 1) := by decide +kernel
theorem dX4_standing_26 : decode cX4_standing 26 = .ok (.iload 4, 2) := by decide +kernel
theorem dX4_standing_28 : decode cX4_standing 28 = .ok (.iadd, 1) := by decide +kernel
theorem dX4_standing_29 : decode cX4_standing 29 = .ok (.invokevirtual 75, 3) := by decide +kernel
theorem dX4_standing_32 : decode cX4_standing 32 = .ok (.istore 5, 2) := by decide +kernel
theorem dX4_standing_34 : decode cX4_standing 34 = .ok (.iload_n 2, 1) := by decide +kernel
theorem dX4_standing_35 : decode cX4_standing 35 = .ok (.iload 5, 2) := by decide +kernel
theorem dX4_standing_37 : decode cX4_standing 37 = .ok (.ifCond .lt 27, 3) := by decide +kernel
theorem dX4_standing_40 : decode cX4_standing 40 = .ok (.aload_n 0, 1) := by decide +kernel
theorem dX4_standing_41 : decode cX4_standing 41 = .ok (.ldc 46, 2) := by decide +kernel
theorem dX4_standing_43 : decode cX4_standing 43 = .ok (.iload_n 3, 1) := by decide +kernel
theorem dX4_standing_44 : decode cX4_standing 44 = .ok (.imul, 1) := by decide +kernel
theorem dX4_standing_45 : decode cX4_standing 45 = .ok (.bipush 100, 2) := by decide +kernel
theorem dX4_standing_47 : decode cX4_standing 47 = .ok (.iload 5, 2) := by decide +kernel
theorem dX4_standing_49 : decode cX4_standing 49 = .ok (.imul, 1) := by decide +kernel
theorem dX4_standing_50 : decode cX4_standing 50 = .ok (.iadd, 1) := by decide +kernel
theorem dX4_standing_51 : decode cX4_standing 51 = .ok (.iload 4, 2) := by decide +kernel
theorem dX4_standing_53 : decode cX4_standing 53 = .ok (.iadd, 1) := by decide +kernel
theorem dX4_standing_54 : decode cX4_standing 54 = .ok (.invokevirtual 82, 3) := by decide +kernel
theorem dX4_standing_57 : decode cX4_standing 57 = .ok (.ifCond .ne 7, 3) := by decide +kernel
theorem dX4_standing_60 : decode cX4_standing 60 = .ok (.iconst 1, 1) := by decide +kernel
theorem dX4_standing_61 : decode cX4_standing 61 = .ok (.goto 4, 3) := by decide +kernel
theorem dX4_standing_64 : decode cX4_standing 64 = .ok (.iconst 0, 1) := by decide +kernel
theorem dX4_standing_65 : decode cX4_standing 65 = .ok (.iadd, 1) := by decide +kernel
theorem dX4_standing_66 : decode cX4_standing 66 = .ok (.istore_n 2, 1) := by decide +kernel
theorem dX4_standing_67 : decode cX4_standing 67 = .ok (.iinc 4 1, 3) := by decide +kernel
theorem dX4_standing_70 : decode cX4_standing 70 = .ok (.goto (-54), 3) := by decide +kernel
theorem dX4_standing_73 : decode cX4_standing 73 = .ok (.iload_n 2, 1) := by decide +kernel
theorem dX4_standing_74 : decode cX4_standing 74 = .ok (.ireturn, 1) := by decide +kernel
set_option maxRecDepth 20000 in
theorem ggX4_compaction_X4_within : GoodIn wsX4_compaction wsX4_within := goodIn_r _ [6] (by decide +kernel) (by decide +kernel)
set_option maxRecDepth 20000 in
theorem gX4_compaction_X4_within : GoodIn wsX4_compaction (va_wsS RX4 37 yX4_within wsX4_within) := goodIn_app (goodIn_of _ (by decide +kernel)) ggX4_compaction_X4_within
set_option maxRecDepth 20000 in
theorem ggX4_compaction_X4_kept : GoodIn wsX4_compaction wsX4_kept := goodIn_r _ [10, 11, 30, 31, 32, 33, 34, 35, 36, 37, 38, 39, 40, 41, 42, 43, 44, 45, 46] (by decide +kernel) (by decide +kernel)
set_option maxRecDepth 20000 in
theorem gX4_compaction_X4_kept : GoodIn wsX4_compaction (wsV RX4 72 RX4 yX4_kept wsX4_kept) := goodIn_app (goodIn_of _ (by decide +kernel)) ggX4_compaction_X4_kept
set_option maxRecDepth 20000 in
theorem ggX4_compaction_X4_ofCompaction : GoodIn wsX4_compaction wsX4_ofCompaction := goodIn_r _ [15, 11, 30, 31, 32, 33, 34, 35, 36, 37, 38, 39, 40, 41, 42, 43, 44, 45, 46] (by decide +kernel) (by decide +kernel)
set_option maxRecDepth 20000 in
theorem gX4_compaction_X4_ofCompaction : GoodIn wsX4_compaction (wsV RX4 75 RX4 yX4_ofCompaction wsX4_ofCompaction) := goodIn_app (goodIn_of _ (by decide +kernel)) ggX4_compaction_X4_ofCompaction
set_option maxRecDepth 20000 in
theorem ggX4_compaction_X4_standing : GoodIn wsX4_compaction wsX4_standing := goodIn_r _ [19, 11, 20, 12, 13, 14, 5, 15, 21, 22, 23, 24, 25, 7, 8, 9, 10, 26, 27, 28, 29, 30, 31, 32, 33, 34, 35, 36, 37, 38, 39, 40, 41, 42, 43, 44, 45, 46] (by decide +kernel) (by decide +kernel)
set_option maxRecDepth 20000 in
theorem gX4_compaction_X4_standing : GoodIn wsX4_compaction (wsV RX4 119 RX4 yX4_standing wsX4_standing) := goodIn_app (goodIn_of _ (by decide +kernel)) ggX4_compaction_X4_standing
