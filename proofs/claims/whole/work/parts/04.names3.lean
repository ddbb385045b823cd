theorem dX3_release_0 : decode cX3_release 0 = .ok (.aload_n 0, 1) := by decide +kernel
theorem dX3_release_1 : decode cX3_release 1 = .ok (.getfield 10, 3) := by decide +kernel
theorem dX3_release_4 : decode cX3_release 4 = .ok (.iload_n 1, 1) := by decide +kernel
theorem dX3_release_5 : decode cX3_release 5 = .ok (.invokevirtual 53, 3) := by decide +kernel
theorem dX3_release_8 : decode cX3_release 8 = .ok (.istore_n 2, 1) := by decide +kernel
theorem dX3_release_9 : decode cX3_release 9 = .ok (.iload_n 2, 1) := by decide +kernel
theorem dX3_release_10 : decode cX3_release 10 = .ok (.ifCond .ge 6, 3) := by decide +kernel
theorem dX3_release_13 : decode cX3_release 13 = .ok (.ldc 56, 2) := by decide +kernel
theorem dX3_release_15 : decode cX3_release 15 = .ok (.ireturn, 1) := by decide +kernel
theorem dX3_release_16 : decode cX3_release 16 = .ok (.aload_n 0, 1) := by decide +kernel
theorem dX3_release_17 : decode cX3_release 17 = .ok (.getfield 10, 3) := by decide +kernel
theorem dX3_release_20 : decode cX3_release 20 = .ok (.iload_n 2, 1) := by decide +kernel
theorem dX3_release_21 : decode cX3_release 21 = .ok (.invokevirtual 63, 3) := by decide +kernel
theorem dX3_release_24 : decode cX3_release 24 = .ok (.ifCond .ne 6, 3) := by decide +kernel
theorem dX3_release_27 : decode cX3_release 27 = .ok (.ldc 66, 2) := by decide +kernel
theorem dX3_release_29 : decode cX3_release 29 = .ok (.ireturn, 1) := by decide +kernel
theorem dX3_release_30 : decode cX3_release 30 = .ok (.aload_n 0, 1) := by decide +kernel
theorem dX3_release_31 : decode cX3_release 31 = .ok (.invokevirtual 43, 3) := by decide +kernel
theorem dX3_release_34 : decode cX3_release 34 = .ok (.aload_n 0, 1) := by decide +kernel
theorem dX3_release_35 : decode cX3_release 35 = .ok (.getfield 10, 3) := by decide +kernel
theorem dX3_release_38 : decode cX3_release 38 = .ok (.iload_n 2, 1) := by decide +kernel
theorem dX3_release_39 : decode cX3_release 39 = .ok (.invokevirtual 67, 3) := by decide +kernel
theorem dX3_release_42 : decode cX3_release 42 = .ok (.ireturn, 1) := by decide +kernel
set_option maxRecDepth 20000 in
theorem ggX3_follow_X1_standing : GoodIn wsX3_follow wsX1_standing := goodIn_r _ [7, 8, 9, 10, 11, 12, 13, 14, 15, 16, 17, 31, 32, 33, 34, 35, 36, 37, 38, 39, 40, 41, 42, 43, 44, 45] (by decide +kernel) (by decide +kernel)
set_option maxRecDepth 20000 in
theorem gX3_follow_X1_standing : GoodIn wsX3_follow (wsV RX3 53 RX1 yX1_standing wsX1_standing) := goodIn_app (goodIn_of _ (by decide +kernel)) ggX3_follow_X1_standing
set_option maxRecDepth 20000 in
theorem ggX3_follow_X1_tagOf : GoodIn wsX3_follow wsX1_tagOf := goodIn_r _ [21, 9, 14, 22, 15, 16, 17, 23, 24, 6, 25, 8, 31, 32, 33, 34, 35, 36, 37, 38, 39, 40, 41, 42, 43, 44, 45] (by decide +kernel) (by decide +kernel)
set_option maxRecDepth 20000 in
theorem gX3_follow_X1_tagOf : GoodIn wsX3_follow (wsV RX3 50 RX1 yX1_tagOf wsX1_tagOf) := goodIn_app (goodIn_of _ (by decide +kernel)) ggX3_follow_X1_tagOf
theorem dX3_follow_0 : decode cX3_follow 0 = .ok (.aload_n 0, 1) := by decide +kernel
theorem dX3_follow_1 : decode cX3_follow 1 = .ok (.getfield 10, 3) := by decide +kernel
theorem dX3_follow_4 : decode cX3_follow 4 = .ok (.iload_n 1, 1) := by decide +kernel
theorem dX3_follow_5 : decode cX3_follow 5 = .ok (.invokevirtual 53, 3) := by decide +kernel
theorem dX3_follow_8 : decode cX3_follow 8 = .ok (.istore_n 2, 1) := by decide +kernel
theorem dX3_follow_9 : decode cX3_follow 9 = .ok (.iload_n 2, 1) := by decide +kernel
theorem dX3_follow_10 : decode cX3_follow 10 = .ok (.ifCond .ge 8, 3) := by decide +kernel
theorem dX3_follow_13 : decode cX3_follow 13 = .ok (.ldc 56, 2) := by decide +kernel
theorem dX3_follow_15 : decode cX3_follow 15 = .ok (.goto 11, 3) := by decide +kernel
theorem dX3_follow_18 : decode cX3_follow 18 = .ok (.aload_n 0, 1) := by decide +kernel
theorem dX3_follow_19 : decode cX3_follow 19 = .ok (.getfield 10, 3) := by decide +kernel
theorem dX3_follow_22 : decode cX3_follow 22 = .ok (.iload_n 2, 1) := by decide +kernel
theorem dX3_follow_23 : decode cX3_follow 23 = .ok (.invokevirtual 50, 3) := by decide +kernel
theorem dX3_follow_26 : decode cX3_follow 26 = .ok (.ireturn, 1) := by decide +kernel
set_option maxRecDepth 20000 in
theorem ggX3_nameOf_X1_standing : GoodIn wsX3_nameOf wsX1_standing := goodIn_r _ [8, 9, 10, 11, 12, 13, 14, 15, 16, 17, 18, 24, 25, 26, 27, 28, 29, 30, 31, 32, 33, 34, 35, 36, 37, 38] (by decide +kernel) (by decide +kernel)
set_option maxRecDepth 20000 in
theorem gX3_nameOf_X1_standing : GoodIn wsX3_nameOf (wsV RX3 53 RX1 yX1_standing wsX1_standing) := goodIn_app (goodIn_of _ (by decide +kernel)) ggX3_nameOf_X1_standing
theorem dX3_nameOf_0 : decode cX3_nameOf 0 = .ok (.aload_n 0, 1) := by decide +kernel
theorem dX3_nameOf_1 : decode cX3_nameOf 1 = .ok (.getfield 10, 3) := by decide +kernel
theorem dX3_nameOf_4 : decode cX3_nameOf 4 = .ok (.iload_n 1, 1) := by decide +kernel
theorem dX3_nameOf_5 : decode cX3_nameOf 5 = .ok (.invokevirtual 53, 3) := by decide +kernel
theorem dX3_nameOf_8 : decode cX3_nameOf 8 = .ok (.istore_n 2, 1) := by decide +kernel
theorem dX3_nameOf_9 : decode cX3_nameOf 9 = .ok (.iload_n 2, 1) := by decide +kernel
theorem dX3_nameOf_10 : decode cX3_nameOf 10 = .ok (.ifCond .ge 8, 3) := by decide +kernel
theorem dX3_nameOf_13 : decode cX3_nameOf 13 = .ok (.ldc 56, 2) := by decide +kernel
theorem dX3_nameOf_15 : decode cX3_nameOf 15 = .ok (.goto 12, 3) := by decide +kernel
theorem dX3_nameOf_18 : decode cX3_nameOf 18 = .ok (.aload_n 0, 1) := by decide +kernel
theorem dX3_nameOf_19 : decode cX3_nameOf 19 = .ok (.getfield 10, 3) := by decide +kernel
theorem dX3_nameOf_22 : decode cX3_nameOf 22 = .ok (.getfield 70, 3) := by decide +kernel
theorem dX3_nameOf_25 : decode cX3_nameOf 25 = .ok (.iload_n 2, 1) := by decide +kernel
theorem dX3_nameOf_26 : decode cX3_nameOf 26 = .ok (.iaload, 1) := by decide +kernel
theorem dX3_nameOf_27 : decode cX3_nameOf 27 = .ok (.ireturn, 1) := by decide +kernel
set_option maxRecDepth 20000 in
theorem ggX3_why_X1_standing : GoodIn wsX3_why wsX1_standing := goodIn_r _ [6, 7, 8, 9, 10, 11, 12, 13, 14, 15, 16, 22, 23, 24, 25, 26, 27, 28, 29, 30, 31, 32, 33, 34, 35, 36] (by decide +kernel) (by decide +kernel)
set_option maxRecDepth 20000 in
theorem gX3_why_X1_standing : GoodIn wsX3_why (wsV RX3 53 RX1 yX1_standing wsX1_standing) := goodIn_app (goodIn_of _ (by decide +kernel)) ggX3_why_X1_standing
theorem dX3_why_0 : decode cX3_why 0 = .ok (.aload_n 0, 1) := by decide +kernel
theorem dX3_why_1 : decode cX3_why 1 = .ok (.getfield 10, 3) := by decide +kernel
theorem dX3_why_4 : decode cX3_why 4 = .ok (.iload_n 1, 1) := by decide +kernel
theorem dX3_why_5 : decode cX3_why 5 = .ok (.invokevirtual 53, 3) := by decide +kernel
theorem dX3_why_8 : decode cX3_why 8 = .ok (.istore_n 2, 1) := by decide +kernel
theorem dX3_why_9 : decode cX3_why 9 = .ok (.iload_n 2, 1) := by decide +kernel
theorem dX3_why_10 : decode cX3_why 10 = .ok (.ifCond .ge 8, 3) := by decide +kernel
theorem dX3_why_13 : decode cX3_why 13 = .ok (.iload_n 2, 1) := by decide +kernel
theorem dX3_why_14 : decode cX3_why 14 = .ok (.ineg, 1) := by decide +kernel
theorem dX3_why_15 : decode cX3_why 15 = .ok (.goto 4, 3) := by decide +kernel
theorem dX3_why_18 : decode cX3_why 18 = .ok (.iconst 0, 1) := by decide +kernel
theorem dX3_why_19 : decode cX3_why 19 = .ok (.ireturn, 1) := by decide +kernel
set_option maxRecDepth 20000 in
theorem ggX3_put_X3_isCell : GoodIn wsX3_put wsX3_isCell := goodIn_r _ [8, 9, 10, 7, 11] (by decide +kernel) (by decide +kernel)
set_option maxRecDepth 20000 in
theorem gX3_put_X3_isCell : GoodIn wsX3_put (va_wsS RX3 74 yX3_isCell wsX3_isCell) := goodIn_app (goodIn_of _ (by decide +kernel)) ggX3_put_X3_isCell
set_option maxRecDepth 20000 in
theorem ggX3_put_X1_standing : GoodIn wsX3_put wsX1_standing := goodIn_r _ [16, 17, 18, 19, 20, 21, 22, 23, 10, 7, 11, 69, 70, 71, 72, 73, 74, 75, 76, 77, 78, 79, 80, 81, 82, 83] (by decide +kernel) (by decide +kernel)
set_option maxRecDepth 20000 in
theorem gX3_put_X1_standing : GoodIn wsX3_put (wsV RX3 53 RX1 yX1_standing wsX1_standing) := goodIn_app (goodIn_of _ (by decide +kernel)) ggX3_put_X1_standing
set_option maxRecDepth 20000 in
theorem ggX3_put_X1_hasRoomForUser : GoodIn wsX3_put wsX1_hasRoomForUser := goodIn_r _ [27, 28, 10, 7, 11, 69, 70, 71, 72, 73, 74, 75, 76, 77, 78, 79, 80, 81, 82, 83] (by decide +kernel) (by decide +kernel)
set_option maxRecDepth 20000 in
theorem gX3_put_X1_hasRoomForUser : GoodIn wsX3_put (wsV RX3 57 RX1 yX1_hasRoomForUser wsX1_hasRoomForUser) := goodIn_app (goodIn_of _ (by decide +kernel)) ggX3_put_X1_hasRoomForUser
set_option maxRecDepth 20000 in
theorem ggX3_put_X3_recordState : GoodIn wsX3_put wsX3_recordState := goodIn_r _ [32, 33, 34, 2, 35, 36, 37, 15, 38, 22, 39, 40, 41, 42, 28, 23, 43, 18, 44, 45, 46, 47, 48, 20, 19, 21, 64, 65, 66, 67, 68, 69, 70, 71, 72, 73, 74, 75, 76, 77, 78, 79, 80, 81, 82, 83] (by decide +kernel) (by decide +kernel)
set_option maxRecDepth 20000 in
theorem gX3_put_X3_recordState : GoodIn wsX3_put (wsV RX3 43 RX3 yX3_recordState wsX3_recordState) := goodIn_app (goodIn_of _ (by decide +kernel)) ggX3_put_X3_recordState
set_option maxRecDepth 20000 in
theorem ggX3_put_X3_cellIndex : GoodIn wsX3_put wsX3_cellIndex := goodIn_r _ [51] (by decide +kernel) (by decide +kernel)
set_option maxRecDepth 20000 in
theorem gX3_put_X3_cellIndex : GoodIn wsX3_put (va_wsS RX3 78 yX3_cellIndex wsX3_cellIndex) := goodIn_app (goodIn_of _ (by decide +kernel)) ggX3_put_X3_cellIndex
set_option maxRecDepth 20000 in
theorem ggX3_put_X1_fillCell : GoodIn wsX3_put wsX1_fillCell := goodIn_r _ [55, 43, 28, 10, 7, 11, 56, 57, 58, 15, 59, 60, 61, 62, 63, 22, 23, 45, 69, 70, 71, 72, 73, 74, 75, 76, 77, 78, 79, 80, 81, 82, 83] (by decide +kernel) (by decide +kernel)
set_option maxRecDepth 20000 in
theorem gX3_put_X1_fillCell : GoodIn wsX3_put (wsV RX3 82 RX1 yX1_fillCell wsX1_fillCell) := goodIn_app (goodIn_of _ (by decide +kernel)) ggX3_put_X1_fillCell
theorem dX3_put_0 : decode cX3_put 0 = .ok (.iload_n 1, 1) := by decide +kernel
theorem dX3_put_1 : decode cX3_put 1 = .ok (.iload_n 2, 1) := by decide +kernel
theorem dX3_put_2 : decode cX3_put 2 = .ok (.invokestatic 74, 3) := by decide +kernel
theorem dX3_put_5 : decode cX3_put 5 = .ok (.ifCond .ne 6, 3) := by decide +kernel
theorem dX3_put_8 : decode cX3_put 8 = .ok (.ldc 38, 2) := by decide +kernel
theorem dX3_put_10 : decode cX3_put 10 = .ok (.ireturn, 1) := by decide +kernel
theorem dX3_put_11 : decode cX3_put 11 = .ok (.aload_n 0, 1) := by decide +kernel
theorem dX3_put_12 : decode cX3_put 12 = .ok (.getfield 10, 3) := by decide +kernel
theorem dX3_put_15 : decode cX3_put 15 = .ok (.iload_n 3, 1) := by decide +kernel
theorem dX3_put_16 : decode cX3_put 16 = .ok (.invokevirtual 53, 3) := by decide +kernel
theorem dX3_put_19 : decode cX3_put 19 = .ok (.istore 4, 2) := by decide +kernel
theorem dX3_put_21 : decode cX3_put 21 = .ok (.iload 4, 2) := by decide +kernel
theorem dX3_put_23 : decode cX3_put 23 = .ok (.ifCond .ge 6, 3) := by decide +kernel
theorem dX3_put_26 : decode cX3_put 26 = .ok (.ldc 56, 2) := by decide +kernel
theorem dX3_put_28 : decode cX3_put 28 = .ok (.ireturn, 1) := by decide +kernel
theorem dX3_put_29 : decode cX3_put 29 = .ok (.aload_n 0, 1) := by decide +kernel
theorem dX3_put_30 : decode cX3_put 30 = .ok (.getfield 10, 3) := by decide +kernel
theorem dX3_put_33 : decode cX3_put 33 = .ok (.iload 4, 2) := by decide +kernel
theorem dX3_put_35 : decode cX3_put 35 = .ok (.invokevirtual 57, 3) := by decide +kernel
theorem dX3_put_38 : decode cX3_put 38 = .ok (.ifCond .ne 6, 3) := by decide +kernel
theorem dX3_put_41 : decode cX3_put 41 = .ok (.ldc 42, 2) := by decide +kernel
theorem dX3_put_43 : decode cX3_put 43 = .ok (.ireturn, 1) := by decide +kernel
theorem dX3_put_44 : decode cX3_put 44 = .ok (.aload_n 0, 1) := by decide +kernel
theorem dX3_put_45 : decode cX3_put 45 = .ok (.invokevirtual 43, 3) := by decide +kernel
theorem dX3_put_48 : decode cX3_put 48 = .ok (.aload_n 0, 1) := by decide +kernel
theorem dX3_put_49 : decode cX3_put 49 = .ok (.getfield 10, 3) := by decide +kernel
theorem dX3_put_52 : decode cX3_put 52 = .ok (.iload_n 1, 1) := by decide +kernel
theorem dX3_put_53 : decode cX3_put 53 = .ok (.iload_n 2, 1) := by decide +kernel
theorem dX3_put_54 : decode cX3_put 54 = .ok (.invokestatic 78, 3) := by decide +kernel
theorem dX3_put_57 : decode cX3_put 57 = .ok (.iload 4, 2) := by decide +kernel
theorem dX3_put_59 : decode cX3_put 59 = .ok (.invokevirtual 82, 3) := by decide +kernel
theorem dX3_put_62 : decode cX3_put 62 = .ok (.ireturn, 1) := by decide +kernel
set_option maxRecDepth 20000 in
theorem ggX3_clear_X3_isCell : GoodIn wsX3_clear wsX3_isCell := goodIn_r _ [8, 9, 10, 7, 11] (by decide +kernel) (by decide +kernel)
set_option maxRecDepth 20000 in
theorem gX3_clear_X3_isCell : GoodIn wsX3_clear (va_wsS RX3 74 yX3_isCell wsX3_isCell) := goodIn_app (goodIn_of _ (by decide +kernel)) ggX3_clear_X3_isCell
set_option maxRecDepth 20000 in
theorem ggX3_clear_X3_cellIndex : GoodIn wsX3_clear wsX3_cellIndex := goodIn_r _ [14] (by decide +kernel) (by decide +kernel)
set_option maxRecDepth 20000 in
theorem gX3_clear_X3_cellIndex : GoodIn wsX3_clear (va_wsS RX3 78 yX3_cellIndex wsX3_cellIndex) := goodIn_app (goodIn_of _ (by decide +kernel)) ggX3_clear_X3_cellIndex
set_option maxRecDepth 20000 in
theorem ggX3_clear_X3_recordState : GoodIn wsX3_clear wsX3_recordState := goodIn_r _ [18, 19, 20, 2, 21, 22, 23, 24, 25, 26, 27, 28, 29, 30, 31, 32, 33, 34, 35, 36, 37, 38, 39, 40, 41, 42, 51, 52, 53, 54, 55, 56, 57, 58, 59, 60, 61, 62, 63, 64, 65, 66, 67, 68, 69, 70] (by decide +kernel) (by decide +kernel)
set_option maxRecDepth 20000 in
theorem gX3_clear_X3_recordState : GoodIn wsX3_clear (wsV RX3 43 RX3 yX3_recordState wsX3_recordState) := goodIn_app (goodIn_of _ (by decide +kernel)) ggX3_clear_X3_recordState
set_option maxRecDepth 20000 in
theorem ggX3_clear_X1_emptyCell : GoodIn wsX3_clear wsX1_emptyCell := goodIn_r _ [46, 33, 10, 7, 11, 47, 48, 49, 24, 50, 31, 26, 32, 36, 56, 57, 58, 59, 60, 61, 62, 63, 64, 65, 66, 67, 68, 69, 70] (by decide +kernel) (by decide +kernel)
set_option maxRecDepth 20000 in
theorem gX3_clear_X1_emptyCell : GoodIn wsX3_clear (wsV RX3 88 RX1 yX1_emptyCell wsX1_emptyCell) := goodIn_app (goodIn_of _ (by decide +kernel)) ggX3_clear_X1_emptyCell
theorem dX3_clear_0 : decode cX3_clear 0 = .ok (.iload_n 1, 1) := by decide +kernel
theorem dX3_clear_1 : decode cX3_clear 1 = .ok (.iload_n 2, 1) := by decide +kernel
theorem dX3_clear_2 : decode cX3_clear 2 = .ok (.invokestatic 74, 3) := by decide +kernel
theorem dX3_clear_5 : decode cX3_clear 5 = .ok (.ifCond .ne 6, 3) := by decide +kernel
theorem dX3_clear_8 : decode cX3_clear 8 = .ok (.ldc 38, 2) := by decide +kernel
theorem dX3_clear_10 : decode cX3_clear 10 = .ok (.ireturn, 1) := by decide +kernel
theorem dX3_clear_11 : decode cX3_clear 11 = .ok (.aload_n 0, 1) := by decide +kernel
theorem dX3_clear_12 : decode cX3_clear 12 = .ok (.getfield 10, 3) := by decide +kernel
theorem dX3_clear_15 : decode cX3_clear 15 = .ok (.getfield 85, 3) := by decide +kernel
theorem dX3_clear_18 : decode cX3_clear 18 = .ok (.iload_n 1, 1) := by decide +kernel
theorem dX3_clear_19 : decode cX3_clear 19 = .ok (.iload_n 2, 1) := by decide +kernel
theorem dX3_clear_20 : decode cX3_clear 20 = .ok (.invokestatic 78, 3) := by decide +kernel
theorem dX3_clear_23 : decode cX3_clear 23 = .ok (.iaload, 1) := by decide +kernel
theorem dX3_clear_24 : decode cX3_clear 24 = .ok (.iconst (-1), 1) := by decide +kernel
theorem dX3_clear_25 : decode cX3_clear 25 = .ok (.if_icmp .ne 6, 3) := by decide +kernel
theorem dX3_clear_28 : decode cX3_clear 28 = .ok (.ldc 66, 2) := by decide +kernel
theorem dX3_clear_30 : decode cX3_clear 30 = .ok (.ireturn, 1) := by decide +kernel
theorem dX3_clear_31 : decode cX3_clear 31 = .ok (.aload_n 0, 1) := by decide +kernel
theorem dX3_clear_32 : decode cX3_clear 32 = .ok (.invokevirtual 43, 3) := by decide +kernel
theorem dX3_clear_35 : decode cX3_clear 35 = .ok (.aload_n 0, 1) := by decide +kernel
theorem dX3_clear_36 : decode cX3_clear 36 = .ok (.getfield 10, 3) := by decide +kernel
theorem dX3_clear_39 : decode cX3_clear 39 = .ok (.iload_n 1, 1) := by decide +kernel
theorem dX3_clear_40 : decode cX3_clear 40 = .ok (.iload_n 2, 1) := by decide +kernel
theorem dX3_clear_41 : decode cX3_clear 41 = .ok (.invokestatic 78, 3) := by decide +kernel
theorem dX3_clear_44 : decode cX3_clear 44 = .ok (.invokevirtual 88, 3) := by decide +kernel
theorem dX3_clear_47 : decode cX3_clear 47 = .ok (.ireturn, 1) := by decide +kernel
set_option maxRecDepth 20000 in
theorem ggX3_cellOf_X3_isCell : GoodIn wsX3_cellOf wsX3_isCell := goodIn_r _ [8, 9, 10, 7, 11] (by decide +kernel) (by decide +kernel)
set_option maxRecDepth 20000 in
theorem gX3_cellOf_X3_isCell : GoodIn wsX3_cellOf (va_wsS RX3 74 yX3_isCell wsX3_isCell) := goodIn_app (goodIn_of _ (by decide +kernel)) ggX3_cellOf_X3_isCell
set_option maxRecDepth 20000 in
theorem ggX3_cellOf_X3_cellIndex : GoodIn wsX3_cellOf wsX3_cellIndex := goodIn_r _ [14] (by decide +kernel) (by decide +kernel)
set_option maxRecDepth 20000 in
theorem gX3_cellOf_X3_cellIndex : GoodIn wsX3_cellOf (va_wsS RX3 78 yX3_cellIndex wsX3_cellIndex) := goodIn_app (goodIn_of _ (by decide +kernel)) ggX3_cellOf_X3_cellIndex
set_option maxRecDepth 20000 in
theorem ggX3_cellOf_X1_tagOf : GoodIn wsX3_cellOf wsX1_tagOf := goodIn_r _ [19, 20, 21, 22, 10, 7, 11, 23, 24, 18, 25, 26, 32, 33, 34, 35, 36, 37, 38, 39, 40, 41, 42, 43, 44, 45, 46] (by decide +kernel) (by decide +kernel)
set_option maxRecDepth 20000 in
theorem gX3_cellOf_X1_tagOf : GoodIn wsX3_cellOf (wsV RX3 50 RX1 yX1_tagOf wsX1_tagOf) := goodIn_app (goodIn_of _ (by decide +kernel)) ggX3_cellOf_X1_tagOf
theorem dX3_cellOf_0 : decode cX3_cellOf 0 = .ok (.iload_n 1, 1) := by decide +kernel
theorem dX3_cellOf_1 : decode cX3_cellOf 1 = .ok (.iload_n 2, 1) := by decide +kernel
theorem dX3_cellOf_2 : decode cX3_cellOf 2 = .ok (.invokestatic 74, 3) := by decide +kernel
theorem dX3_cellOf_5 : decode cX3_cellOf 5 = .ok (.ifCond .ne 6, 3) := by decide +kernel
theorem dX3_cellOf_8 : decode cX3_cellOf 8 = .ok (.ldc 38, 2) := by decide +kernel
theorem dX3_cellOf_10 : decode cX3_cellOf 10 = .ok (.ireturn, 1) := by decide +kernel
theorem dX3_cellOf_11 : decode cX3_cellOf 11 = .ok (.aload_n 0, 1) := by decide +kernel
theorem dX3_cellOf_12 : decode cX3_cellOf 12 = .ok (.getfield 10, 3) := by decide +kernel
theorem dX3_cellOf_15 : decode cX3_cellOf 15 = .ok (.getfield 85, 3) := by decide +kernel
theorem dX3_cellOf_18 : decode cX3_cellOf 18 = .ok (.iload_n 1, 1) := by decide +kernel
theorem dX3_cellOf_19 : decode cX3_cellOf 19 = .ok (.iload_n 2, 1) := by decide +kernel
theorem dX3_cellOf_20 : decode cX3_cellOf 20 = .ok (.invokestatic 78, 3) := by decide +kernel
theorem dX3_cellOf_23 : decode cX3_cellOf 23 = .ok (.iaload, 1) := by decide +kernel
theorem dX3_cellOf_24 : decode cX3_cellOf 24 = .ok (.istore_n 3, 1) := by decide +kernel
theorem dX3_cellOf_25 : decode cX3_cellOf 25 = .ok (.iload_n 3, 1) := by decide +kernel
theorem dX3_cellOf_26 : decode cX3_cellOf 26 = .ok (.iconst (-1), 1) := by decide +kernel
theorem dX3_cellOf_27 : decode cX3_cellOf 27 = .ok (.if_icmp .ne 8, 3) := by decide +kernel
theorem dX3_cellOf_30 : decode cX3_cellOf 30 = .ok (.ldc 91, 2) := by decide +kernel
theorem dX3_cellOf_32 : decode cX3_cellOf 32 = .ok (.goto 11, 3) := by decide +kernel
theorem dX3_cellOf_35 : decode cX3_cellOf 35 = .ok (.aload_n 0, 1) := by decide +kernel
theorem dX3_cellOf_36 : decode cX3_cellOf 36 = .ok (.getfield 10, 3) := by decide +kernel
theorem dX3_cellOf_39 : decode cX3_cellOf 39 = .ok (.iload_n 3, 1) := by decide +kernel
theorem dX3_cellOf_40 : decode cX3_cellOf 40 = .ok (.invokevirtual 50, 3) := by decide +kernel
theorem dX3_cellOf_43 : decode cX3_cellOf 43 = .ok (.ireturn, 1) := by decide +kernel
set_option maxRecDepth 20000 in
theorem ggX3_compact_X3_isBelow : GoodIn wsX3_compact wsX3_isBelow := goodIn_r _ [7] (by decide +kernel) (by decide +kernel)
set_option maxRecDepth 20000 in
theorem gX3_compact_X3_isBelow : GoodIn wsX3_compact (va_wsS RX3 92 yX3_isBelow wsX3_isBelow) := goodIn_app (goodIn_of _ (by decide +kernel)) ggX3_compact_X3_isBelow
set_option maxRecDepth 20000 in
theorem ggX3_compact_X1_hasNextEpoch : GoodIn wsX3_compact wsX1_hasNextEpoch := goodIn_r _ [12, 13, 78, 79, 80, 81, 82, 83, 84, 85, 86, 87, 88, 89, 90, 91, 92] (by decide +kernel) (by decide +kernel)
set_option maxRecDepth 20000 in
theorem gX3_compact_X1_hasNextEpoch : GoodIn wsX3_compact (wsV RX3 95 RX1 yX1_hasNextEpoch wsX1_hasNextEpoch) := goodIn_app (goodIn_of _ (by decide +kernel)) ggX3_compact_X1_hasNextEpoch
set_option maxRecDepth 20000 in
theorem ggX3_compact_X3_recordState : GoodIn wsX3_compact wsX3_recordState := goodIn_r _ [17, 18, 19, 2, 20, 21, 22, 11, 23, 24, 25, 26, 27, 28, 29, 30, 31, 13, 32, 33, 34, 35, 36, 37, 38, 39, 73, 74, 75, 76, 77, 78, 79, 80, 81, 82, 83, 84, 85, 86, 87, 88, 89, 90, 91, 92] (by decide +kernel) (by decide +kernel)
set_option maxRecDepth 20000 in
theorem gX3_compact_X3_recordState : GoodIn wsX3_compact (wsV RX3 43 RX3 yX3_recordState wsX3_recordState) := goodIn_app (goodIn_of _ (by decide +kernel)) ggX3_compact_X3_recordState
set_option maxRecDepth 20000 in
theorem ggX3_compact_X1_giveAnew : GoodIn wsX3_compact wsX1_giveAnew := goodIn_r _ [43, 13, 24, 38, 34, 35, 36, 30, 37, 25, 26, 27, 28, 39, 44, 45, 46, 11, 47, 48, 49, 50, 51, 29, 5, 6, 7, 52, 53, 54, 55, 56, 57, 58, 59, 60, 61, 62, 63, 64, 65, 66, 67, 68, 69, 70, 71, 72, 31, 78, 79, 80, 81, 82, 83, 84, 85, 86, 87, 88, 89, 90, 91, 92] (by decide +kernel) (by decide +kernel)
set_option maxRecDepth 20000 in
theorem gX3_compact_X1_giveAnew : GoodIn wsX3_compact (wsV RX3 99 RX1 yX1_giveAnew wsX1_giveAnew) := goodIn_app (goodIn_of _ (by decide +kernel)) ggX3_compact_X1_giveAnew
theorem dX3_compact_0 : decode cX3_compact 0 = .ok (.iload_n 1, 1) := by decide +kernel
theorem dX3_compact_1 : decode cX3_compact 1 = .ok (.iconst 3, 1) := by decide +kernel
theorem dX3_compact_2 : decode cX3_compact 2 = .ok (.invokestatic 92, 3) := by decide +kernel
theorem dX3_compact_5 : decode cX3_compact 5 = .ok (.ifCond .ne 6, 3) := by decide +kernel
theorem dX3_compact_8 : decode cX3_compact 8 = .ok (.ldc 38, 2) := by decide +kernel
theorem dX3_compact_10 : decode cX3_compact 10 = .ok (.ireturn, 1) := by decide +kernel
theorem dX3_compact_11 : decode cX3_compact 11 = .ok (.aload_n 0, 1) := by decide +kernel
theorem dX3_compact_12 : decode cX3_compact 12 = .ok (.getfield 10, 3) := by decide +kernel
theorem dX3_compact_15 : decode cX3_compact 15 = .ok (.invokevirtual 95, 3) := by decide +kernel
theorem dX3_compact_18 : decode cX3_compact 18 = .ok (.ifCond .ne 6, 3) := by decide +kernel
theorem dX3_compact_21 : decode cX3_compact 21 = .ok (.ldc 42, 2) := by decide +kernel
theorem dX3_compact_23 : decode cX3_compact 23 = .ok (.ireturn, 1) := by decide +kernel
theorem dX3_compact_24 : decode cX3_compact 24 = .ok (.aload_n 0, 1) := by decide +kernel
theorem dX3_compact_25 : decode cX3_compact 25 = .ok (.invokevirtual 43, 3) := by decide +kernel
theorem dX3_compact_28 : decode cX3_compact 28 = .ok (.aload_n 0, 1) := by decide +kernel
theorem dX3_compact_29 : decode cX3_compact 29 = .ok (.getfield 10, 3) := by decide +kernel
theorem dX3_compact_32 : decode cX3_compact 32 = .ok (.iload_n 1, 1) := by decide +kernel
theorem dX3_compact_33 : decode cX3_compact 33 = .ok (.invokevirtual 99, 3) := by decide +kernel
theorem dX3_compact_36 : decode cX3_compact 36 = .ok (.ireturn, 1) := by decide +kernel
set_option maxRecDepth 20000 in
theorem ggX3_numberOf_X3_isBelow : GoodIn wsX3_numberOf wsX3_isBelow := goodIn_r _ [10] (by decide +kernel) (by decide +kernel)
set_option maxRecDepth 20000 in
theorem gX3_numberOf_X3_isBelow : GoodIn wsX3_numberOf (va_wsS RX3 92 yX3_isBelow wsX3_isBelow) := goodIn_app (goodIn_of _ (by decide +kernel)) ggX3_numberOf_X3_isBelow
set_option maxRecDepth 20000 in
theorem ggX3_numberOf_X1_cellsWith : GoodIn wsX3_numberOf wsX1_cellsWith := goodIn_r _ [15, 16, 33, 34, 35, 36, 37, 38, 39, 40, 41, 42, 43, 44, 45, 46, 47] (by decide +kernel) (by decide +kernel)
set_option maxRecDepth 20000 in
theorem gX3_numberOf_X1_cellsWith : GoodIn wsX3_numberOf (wsV RX3 105 RX1 yX1_cellsWith wsX1_cellsWith) := goodIn_app (goodIn_of _ (by decide +kernel)) ggX3_numberOf_X1_cellsWith
set_option maxRecDepth 20000 in
theorem ggX3_numberOf_X1_tagOf : GoodIn wsX3_numberOf wsX1_tagOf := goodIn_r _ [20, 21, 22, 23, 8, 9, 10, 24, 25, 14, 26, 27, 33, 34, 35, 36, 37, 38, 39, 40, 41, 42, 43, 44, 45, 46, 47] (by decide +kernel) (by decide +kernel)
set_option maxRecDepth 20000 in
theorem gX3_numberOf_X1_tagOf : GoodIn wsX3_numberOf (wsV RX3 50 RX1 yX1_tagOf wsX1_tagOf) := goodIn_app (goodIn_of _ (by decide +kernel)) ggX3_numberOf_X1_tagOf
theorem dX3_numberOf_0 : decode cX3_numberOf 0 = .ok (.iload_n 1, 1) := by decide +kernel
theorem dX3_numberOf_1 : decode cX3_numberOf 1 = .ok (.bipush 40, 2) := by decide +kernel
theorem dX3_numberOf_3 : decode cX3_numberOf 3 = .ok (.invokestatic 92, 3) := by decide +kernel
theorem dX3_numberOf_6 : decode cX3_numberOf 6 = .ok (.ifCond .eq 11, 3) := by decide +kernel
theorem dX3_numberOf_9 : decode cX3_numberOf 9 = .ok (.iload_n 2, 1) := by decide +kernel
theorem dX3_numberOf_10 : decode cX3_numberOf 10 = .ok (.iconst 5, 1) := by decide +kernel
theorem dX3_numberOf_11 : decode cX3_numberOf 11 = .ok (.invokestatic 92, 3) := by decide +kernel
theorem dX3_numberOf_14 : decode cX3_numberOf 14 = .ok (.ifCond .ne 6, 3) := by decide +kernel
theorem dX3_numberOf_17 : decode cX3_numberOf 17 = .ok (.ldc 38, 2) := by decide +kernel
theorem dX3_numberOf_19 : decode cX3_numberOf 19 = .ok (.ireturn, 1) := by decide +kernel
theorem dX3_numberOf_20 : decode cX3_numberOf 20 = .ok (.aload_n 0, 1) := by decide +kernel
theorem dX3_numberOf_21 : decode cX3_numberOf 21 = .ok (.getfield 10, 3) := by decide +kernel
theorem dX3_numberOf_24 : decode cX3_numberOf 24 = .ok (.getfield 70, 3) := by decide +kernel
theorem dX3_numberOf_27 : decode cX3_numberOf 27 = .ok (.iload_n 1, 1) := by decide +kernel
theorem dX3_numberOf_28 : decode cX3_numberOf 28 = .ok (.iaload, 1) := by decide +kernel
theorem dX3_numberOf_29 : decode cX3_numberOf 29 = .ok (.ifCond .eq 7, 3) := by decide +kernel
theorem dX3_numberOf_32 : decode cX3_numberOf 32 = .ok (.iconst 1, 1) := by decide +kernel
theorem dX3_numberOf_33 : decode cX3_numberOf 33 = .ok (.goto 4, 3) := by decide +kernel
theorem dX3_numberOf_36 : decode cX3_numberOf 36 = .ok (.iconst 0, 1) := by decide +kernel
theorem dX3_numberOf_37 : decode cX3_numberOf 37 = .ok (.istore_n 3, 1) := by decide +kernel
theorem dX3_numberOf_38 : decode cX3_numberOf 38 = .ok (.iload_n 2, 1) := by decide +kernel
theorem dX3_numberOf_39 : decode cX3_numberOf 39 = .ok (.tableswitch 77 0 3 #[29, 48, 58, 67], 29) := by decide +kernel
theorem dX3_numberOf_68 : decode cX3_numberOf 68 = .ok (.iload_n 3, 1) := by decide +kernel
theorem dX3_numberOf_69 : decode cX3_numberOf 69 = .ok (.ifCond .eq 15, 3) := by decide +kernel
theorem dX3_numberOf_72 : decode cX3_numberOf 72 = .ok (.aload_n 0, 1) := by decide +kernel
theorem dX3_numberOf_73 : decode cX3_numberOf 73 = .ok (.getfield 10, 3) := by decide +kernel
theorem dX3_numberOf_76 : decode cX3_numberOf 76 = .ok (.getfield 70, 3) := by decide +kernel
theorem dX3_numberOf_79 : decode cX3_numberOf 79 = .ok (.iload_n 1, 1) := by decide +kernel
theorem dX3_numberOf_80 : decode cX3_numberOf 80 = .ok (.iaload, 1) := by decide +kernel
theorem dX3_numberOf_81 : decode cX3_numberOf 81 = .ok (.goto 5, 3) := by decide +kernel
theorem dX3_numberOf_84 : decode cX3_numberOf 84 = .ok (.ldc 91, 2) := by decide +kernel
theorem dX3_numberOf_86 : decode cX3_numberOf 86 = .ok (.ireturn, 1) := by decide +kernel
theorem dX3_numberOf_87 : decode cX3_numberOf 87 = .ok (.aload_n 0, 1) := by decide +kernel
theorem dX3_numberOf_88 : decode cX3_numberOf 88 = .ok (.getfield 10, 3) := by decide +kernel
theorem dX3_numberOf_91 : decode cX3_numberOf 91 = .ok (.getfield 102, 3) := by decide +kernel
theorem dX3_numberOf_94 : decode cX3_numberOf 94 = .ok (.iload_n 1, 1) := by decide +kernel
theorem dX3_numberOf_95 : decode cX3_numberOf 95 = .ok (.iaload, 1) := by decide +kernel
theorem dX3_numberOf_96 : decode cX3_numberOf 96 = .ok (.ireturn, 1) := by decide +kernel
theorem dX3_numberOf_97 : decode cX3_numberOf 97 = .ok (.aload_n 0, 1) := by decide +kernel
theorem dX3_numberOf_98 : decode cX3_numberOf 98 = .ok (.getfield 10, 3) := by decide +kernel
theorem dX3_numberOf_101 : decode cX3_numberOf 101 = .ok (.iload_n 1, 1) := by decide +kernel
theorem dX3_numberOf_102 : decode cX3_numberOf 102 = .ok (.invokevirtual 105, 3) := by decide +kernel
theorem dX3_numberOf_105 : decode cX3_numberOf 105 = .ok (.ireturn, 1) := by decide +kernel
theorem dX3_numberOf_106 : decode cX3_numberOf 106 = .ok (.aload_n 0, 1) := by decide +kernel
theorem dX3_numberOf_107 : decode cX3_numberOf 107 = .ok (.getfield 10, 3) := by decide +kernel
theorem dX3_numberOf_110 : decode cX3_numberOf 110 = .ok (.getfield 108, 3) := by decide +kernel
theorem dX3_numberOf_113 : decode cX3_numberOf 113 = .ok (.iload_n 1, 1) := by decide +kernel
theorem dX3_numberOf_114 : decode cX3_numberOf 114 = .ok (.iaload, 1) := by decide +kernel
theorem dX3_numberOf_115 : decode cX3_numberOf 115 = .ok (.ireturn, 1) := by decide +kernel
theorem dX3_numberOf_116 : decode cX3_numberOf 116 = .ok (.iload_n 3, 1) := by decide +kernel
theorem dX3_numberOf_117 : decode cX3_numberOf 117 = .ok (.ifCond .eq 14, 3) := by decide +kernel
theorem dX3_numberOf_120 : decode cX3_numberOf 120 = .ok (.aload_n 0, 1) := by decide +kernel
theorem dX3_numberOf_121 : decode cX3_numberOf 121 = .ok (.getfield 10, 3) := by decide +kernel
theorem dX3_numberOf_124 : decode cX3_numberOf 124 = .ok (.iload_n 1, 1) := by decide +kernel
theorem dX3_numberOf_125 : decode cX3_numberOf 125 = .ok (.invokevirtual 50, 3) := by decide +kernel
theorem dX3_numberOf_128 : decode cX3_numberOf 128 = .ok (.goto 5, 3) := by decide +kernel
theorem dX3_numberOf_131 : decode cX3_numberOf 131 = .ok (.ldc 91, 2) := by decide +kernel
theorem dX3_numberOf_133 : decode cX3_numberOf 133 = .ok (.ireturn, 1) := by decide +kernel
set_option maxRecDepth 20000 in
theorem ggX3_find_X3_isName : GoodIn wsX3_find wsX3_isName := goodIn_r _ [7, 8] (by decide +kernel) (by decide +kernel)
set_option maxRecDepth 20000 in
theorem gX3_find_X3_isName : GoodIn wsX3_find (va_wsS RX3 34 yX3_isName wsX3_isName) := goodIn_app (goodIn_of _ (by decide +kernel)) ggX3_find_X3_isName
set_option maxRecDepth 20000 in
theorem ggX3_find_X1_numberWith : GoodIn wsX3_find wsX1_numberWith := goodIn_r _ [13, 14, 20, 21, 22, 23, 24, 25, 26, 27, 28, 29, 30, 31, 32, 33, 34] (by decide +kernel) (by decide +kernel)
set_option maxRecDepth 20000 in
theorem gX3_find_X1_numberWith : GoodIn wsX3_find (wsV RX3 111 RX1 yX1_numberWith wsX1_numberWith) := goodIn_app (goodIn_of _ (by decide +kernel)) ggX3_find_X1_numberWith
theorem dX3_find_0 : decode cX3_find 0 = .ok (.iload_n 1, 1) := by decide +kernel
theorem dX3_find_1 : decode cX3_find 1 = .ok (.invokestatic 34, 3) := by decide +kernel
theorem dX3_find_4 : decode cX3_find 4 = .ok (.ifCond .ne 6, 3) := by decide +kernel
theorem dX3_find_7 : decode cX3_find 7 = .ok (.ldc 38, 2) := by decide +kernel
theorem dX3_find_9 : decode cX3_find 9 = .ok (.ireturn, 1) := by decide +kernel
theorem dX3_find_10 : decode cX3_find 10 = .ok (.aload_n 0, 1) := by decide +kernel
theorem dX3_find_11 : decode cX3_find 11 = .ok (.getfield 10, 3) := by decide +kernel
theorem dX3_find_14 : decode cX3_find 14 = .ok (.iload_n 1, 1) := by decide +kernel
theorem dX3_find_15 : decode cX3_find 15 = .ok (.invokevirtual 111, 3) := by decide +kernel
theorem dX3_find_18 : decode cX3_find 18 = .ok (.istore_n 2, 1) := by decide +kernel
theorem dX3_find_19 : decode cX3_find 19 = .ok (.iload_n 2, 1) := by decide +kernel
theorem dX3_find_20 : decode cX3_find 20 = .ok (.iconst (-1), 1) := by decide +kernel
theorem dX3_find_21 : decode cX3_find 21 = .ok (.if_icmp .ne 8, 3) := by decide +kernel
theorem dX3_find_24 : decode cX3_find 24 = .ok (.ldc 91, 2) := by decide +kernel
theorem dX3_find_26 : decode cX3_find 26 = .ok (.goto 4, 3) := by decide +kernel
theorem dX3_find_29 : decode cX3_find 29 = .ok (.iload_n 2, 1) := by decide +kernel
theorem dX3_find_30 : decode cX3_find 30 = .ok (.ireturn, 1) := by decide +kernel
set_option maxRecDepth 20000 in
theorem ggX3_nameAt_X3_isBelow : GoodIn wsX3_nameAt wsX3_isBelow := goodIn_r _ [8] (by decide +kernel) (by decide +kernel)
set_option maxRecDepth 20000 in
theorem gX3_nameAt_X3_isBelow : GoodIn wsX3_nameAt (va_wsS RX3 92 yX3_isBelow wsX3_isBelow) := goodIn_app (goodIn_of _ (by decide +kernel)) ggX3_nameAt_X3_isBelow
set_option maxRecDepth 20000 in
theorem ggX3_nameAt_X1_placeOf : GoodIn wsX3_nameAt wsX1_placeOf := goodIn_r _ [13, 14, 15, 16, 17, 12, 18, 19, 6, 7, 8, 20, 21, 22, 28, 29, 30, 31, 32, 33, 34, 35, 36, 37, 38, 39, 40, 41, 42] (by decide +kernel) (by decide +kernel)
set_option maxRecDepth 20000 in
theorem gX3_nameAt_X1_placeOf : GoodIn wsX3_nameAt (wsV RX3 114 RX1 yX1_placeOf wsX1_placeOf) := goodIn_app (goodIn_of _ (by decide +kernel)) ggX3_nameAt_X1_placeOf
theorem dX3_nameAt_0 : decode cX3_nameAt 0 = .ok (.iload_n 1, 1) := by decide +kernel
theorem dX3_nameAt_1 : decode cX3_nameAt 1 = .ok (.iconst 3, 1) := by decide +kernel
theorem dX3_nameAt_2 : decode cX3_nameAt 2 = .ok (.invokestatic 92, 3) := by decide +kernel
theorem dX3_nameAt_5 : decode cX3_nameAt 5 = .ok (.ifCond .eq 7, 3) := by decide +kernel
theorem dX3_nameAt_8 : decode cX3_nameAt 8 = .ok (.iload_n 2, 1) := by decide +kernel
theorem dX3_nameAt_9 : decode cX3_nameAt 9 = .ok (.ifCond .ge 6, 3) := by decide +kernel
theorem dX3_nameAt_12 : decode cX3_nameAt 12 = .ok (.ldc 38, 2) := by decide +kernel
theorem dX3_nameAt_14 : decode cX3_nameAt 14 = .ok (.ireturn, 1) := by decide +kernel
theorem dX3_nameAt_15 : decode cX3_nameAt 15 = .ok (.iconst 0, 1) := by decide +kernel
theorem dX3_nameAt_16 : decode cX3_nameAt 16 = .ok (.istore_n 3, 1) := by decide +kernel
theorem dX3_nameAt_17 : decode cX3_nameAt 17 = .ok (.iload_n 3, 1) := by decide +kernel
theorem dX3_nameAt_18 : decode cX3_nameAt 18 = .ok (.bipush 40, 2) := by decide +kernel
theorem dX3_nameAt_20 : decode cX3_nameAt 20 = .ok (.if_icmp .ge 44, 3) := by decide +kernel
theorem dX3_nameAt_23 : decode cX3_nameAt 23 = .ok (.aload_n 0, 1) := by decide +kernel
theorem dX3_nameAt_24 : decode cX3_nameAt 24 = .ok (.getfield 10, 3) := by decide +kernel
theorem dX3_nameAt_27 : decode cX3_nameAt 27 = .ok (.getfield 70, 3) := by decide +kernel
theorem dX3_nameAt_30 : decode cX3_nameAt 30 = .ok (.iload_n 3, 1) := by decide +kernel
theorem dX3_nameAt_31 : decode cX3_nameAt 31 = .ok (.iaload, 1) := by decide +kernel
theorem dX3_nameAt_32 : decode cX3_nameAt 32 = .ok (.ifCond .eq 26, 3) := by decide +kernel
theorem dX3_nameAt_35 : decode cX3_nameAt 35 = .ok (.aload_n 0, 1) := by decide +kernel
theorem dX3_nameAt_36 : decode cX3_nameAt 36 = .ok (.getfield 10, 3) := by decide +kernel
theorem dX3_nameAt_39 : decode cX3_nameAt 39 = .ok (.iload_n 3, 1) := by decide +kernel
theorem dX3_nameAt_40 : decode cX3_nameAt 40 = .ok (.iload_n 1, 1) := by decide +kernel
theorem dX3_nameAt_41 : decode cX3_nameAt 41 = .ok (.invokevirtual 114, 3) := by decide +kernel
theorem dX3_nameAt_44 : decode cX3_nameAt 44 = .ok (.iload_n 2, 1) := by decide +kernel
theorem dX3_nameAt_45 : decode cX3_nameAt 45 = .ok (.if_icmp .ne 13, 3) := by decide +kernel
theorem dX3_nameAt_48 : decode cX3_nameAt 48 = .ok (.aload_n 0, 1) := by decide +kernel
theorem dX3_nameAt_49 : decode cX3_nameAt 49 = .ok (.getfield 10, 3) := by decide +kernel
theorem dX3_nameAt_52 : decode cX3_nameAt 52 = .ok (.getfield 70, 3) := by decide +kernel
theorem dX3_nameAt_55 : decode cX3_nameAt 55 = .ok (.iload_n 3, 1) := by decide +kernel
theorem dX3_nameAt_56 : decode cX3_nameAt 56 = .ok (.iaload, 1) := by decide +kernel
theorem dX3_nameAt_57 : decode cX3_nameAt 57 = .ok (.ireturn, 1) := by decide +kernel
theorem dX3_nameAt_58 : decode cX3_nameAt 58 = .ok (.iinc 3 1, 3) := by decide +kernel
theorem dX3_nameAt_61 : decode cX3_nameAt 61 = .ok (.goto (-44), 3) := by decide +kernel
theorem dX3_nameAt_64 : decode cX3_nameAt 64 = .ok (.ldc 91, 2) := by decide +kernel
theorem dX3_nameAt_66 : decode cX3_nameAt 66 = .ok (.ireturn, 1) := by decide +kernel
set_option maxRecDepth 20000 in
theorem ggX3_beginning_X3_isName : GoodIn wsX3_beginning wsX3_isName := goodIn_r _ [7, 8] (by decide +kernel) (by decide +kernel)
set_option maxRecDepth 20000 in
theorem gX3_beginning_X3_isName : GoodIn wsX3_beginning (va_wsS RX3 34 yX3_isName wsX3_isName) := goodIn_app (goodIn_of _ (by decide +kernel)) ggX3_beginning_X3_isName
set_option maxRecDepth 20000 in
theorem ggX3_beginning_X3_beginsWith : GoodIn wsX3_beginning wsX3_beginsWith := goodIn_r _ [11] (by decide +kernel) (by decide +kernel)
set_option maxRecDepth 20000 in
theorem gX3_beginning_X3_beginsWith : GoodIn wsX3_beginning (va_wsS RX3 117 yX3_beginsWith wsX3_beginsWith) := goodIn_app (goodIn_of _ (by decide +kernel)) ggX3_beginning_X3_beginsWith
theorem dX3_beginning_0 : decode cX3_beginning 0 = .ok (.iload_n 1, 1) := by decide +kernel
theorem dX3_beginning_1 : decode cX3_beginning 1 = .ok (.invokestatic 34, 3) := by decide +kernel
theorem dX3_beginning_4 : decode cX3_beginning 4 = .ok (.ifCond .ne 6, 3) := by decide +kernel
theorem dX3_beginning_7 : decode cX3_beginning 7 = .ok (.ldc 38, 2) := by decide +kernel
theorem dX3_beginning_9 : decode cX3_beginning 9 = .ok (.ireturn, 1) := by decide +kernel
theorem dX3_beginning_10 : decode cX3_beginning 10 = .ok (.iconst 0, 1) := by decide +kernel
theorem dX3_beginning_11 : decode cX3_beginning 11 = .ok (.istore_n 2, 1) := by decide +kernel
theorem dX3_beginning_12 : decode cX3_beginning 12 = .ok (.iconst 0, 1) := by decide +kernel
theorem dX3_beginning_13 : decode cX3_beginning 13 = .ok (.istore_n 3, 1) := by decide +kernel
theorem dX3_beginning_14 : decode cX3_beginning 14 = .ok (.iload_n 3, 1) := by decide +kernel
theorem dX3_beginning_15 : decode cX3_beginning 15 = .ok (.bipush 40, 2) := by decide +kernel
theorem dX3_beginning_17 : decode cX3_beginning 17 = .ok (.if_icmp .ge 40, 3) := by decide +kernel
theorem dX3_beginning_20 : decode cX3_beginning 20 = .ok (.aload_n 0, 1) := by decide +kernel
theorem dX3_beginning_21 : decode cX3_beginning 21 = .ok (.getfield 10, 3) := by decide +kernel
theorem dX3_beginning_24 : decode cX3_beginning 24 = .ok (.getfield 70, 3) := by decide +kernel
theorem dX3_beginning_27 : decode cX3_beginning 27 = .ok (.iload_n 3, 1) := by decide +kernel
theorem dX3_beginning_28 : decode cX3_beginning 28 = .ok (.iaload, 1) := by decide +kernel
theorem dX3_beginning_29 : decode cX3_beginning 29 = .ok (.ifCond .eq 22, 3) := by decide +kernel
theorem dX3_beginning_32 : decode cX3_beginning 32 = .ok (.aload_n 0, 1) := by decide +kernel
theorem dX3_beginning_33 : decode cX3_beginning 33 = .ok (.getfield 10, 3) := by decide +kernel
theorem dX3_beginning_36 : decode cX3_beginning 36 = .ok (.getfield 70, 3) := by decide +kernel
theorem dX3_beginning_39 : decode cX3_beginning 39 = .ok (.iload_n 3, 1) := by decide +kernel
theorem dX3_beginning_40 : decode cX3_beginning 40 = .ok (.iaload, 1) := by decide +kernel
theorem dX3_beginning_41 : decode cX3_beginning 41 = .ok (.iload_n 1, 1) := by decide +kernel
theorem dX3_beginning_42 : decode cX3_beginning 42 = .ok (.invokestatic 117, 3) := by decide +kernel
theorem dX3_beginning_45 : decode cX3_beginning 45 = .ok (.ifCond .eq 6, 3) := by decide +kernel
theorem dX3_beginning_48 : decode cX3_beginning 48 = .ok (.iinc 2 1, 3) := by decide +kernel
theorem dX3_beginning_51 : decode cX3_beginning 51 = .ok (.iinc 3 1, 3) := by decide +kernel
theorem dX3_beginning_54 : decode cX3_beginning 54 = .ok (.goto (-40), 3) := by decide +kernel
theorem dX3_beginning_57 : decode cX3_beginning 57 = .ok (.iload_n 2, 1) := by decide +kernel
theorem dX3_beginning_58 : decode cX3_beginning 58 = .ok (.ireturn, 1) := by decide +kernel
set_option maxRecDepth 20000 in
theorem ggX3_behind_X3_isName : GoodIn wsX3_behind wsX3_isName := goodIn_r _ [8, 9] (by decide +kernel) (by decide +kernel)
set_option maxRecDepth 20000 in
theorem gX3_behind_X3_isName : GoodIn wsX3_behind (va_wsS RX3 34 yX3_isName wsX3_isName) := goodIn_app (goodIn_of _ (by decide +kernel)) ggX3_behind_X3_isName
set_option maxRecDepth 20000 in
theorem ggX3_behind_X3_orderKey : GoodIn wsX3_behind wsX3_orderKey := goodIn_r _ [12, 13] (by decide +kernel) (by decide +kernel)
set_option maxRecDepth 20000 in
theorem gX3_behind_X3_orderKey : GoodIn wsX3_behind (va_wsS RX3 120 yX3_orderKey wsX3_orderKey) := goodIn_app (goodIn_of _ (by decide +kernel)) ggX3_behind_X3_orderKey
theorem dX3_behind_0 : decode cX3_behind 0 = .ok (.iload_n 1, 1) := by decide +kernel
theorem dX3_behind_1 : decode cX3_behind 1 = .ok (.invokestatic 34, 3) := by decide +kernel
theorem dX3_behind_4 : decode cX3_behind 4 = .ok (.ifCond .ne 6, 3) := by decide +kernel
theorem dX3_behind_7 : decode cX3_behind 7 = .ok (.ldc 38, 2) := by decide +kernel
theorem dX3_behind_9 : decode cX3_behind 9 = .ok (.ireturn, 1) := by decide +kernel
theorem dX3_behind_10 : decode cX3_behind 10 = .ok (.iload_n 1, 1) := by decide +kernel
theorem dX3_behind_11 : decode cX3_behind 11 = .ok (.invokestatic 120, 3) := by decide +kernel
theorem dX3_behind_14 : decode cX3_behind 14 = .ok (.istore_n 2, 1) := by decide +kernel
theorem dX3_behind_15 : decode cX3_behind 15 = .ok (.iconst 0, 1) := by decide +kernel
theorem dX3_behind_16 : decode cX3_behind 16 = .ok (.istore_n 3, 1) := by decide +kernel
theorem dX3_behind_17 : decode cX3_behind 17 = .ok (.iconst 0, 1) := by decide +kernel
theorem dX3_behind_18 : decode cX3_behind 18 = .ok (.istore 4, 2) := by decide +kernel
theorem dX3_behind_20 : decode cX3_behind 20 = .ok (.iload 4, 2) := by decide +kernel
theorem dX3_behind_22 : decode cX3_behind 22 = .ok (.bipush 40, 2) := by decide +kernel
theorem dX3_behind_24 : decode cX3_behind 24 = .ok (.if_icmp .ge 66, 3) := by decide +kernel
theorem dX3_behind_27 : decode cX3_behind 27 = .ok (.aload_n 0, 1) := by decide +kernel
theorem dX3_behind_28 : decode cX3_behind 28 = .ok (.getfield 10, 3) := by decide +kernel
theorem dX3_behind_31 : decode cX3_behind 31 = .ok (.getfield 70, 3) := by decide +kernel
theorem dX3_behind_34 : decode cX3_behind 34 = .ok (.iload 4, 2) := by decide +kernel
theorem dX3_behind_36 : decode cX3_behind 36 = .ok (.iaload, 1) := by decide +kernel
theorem dX3_behind_37 : decode cX3_behind 37 = .ok (.istore 5, 2) := by decide +kernel
theorem dX3_behind_39 : decode cX3_behind 39 = .ok (.iload 5, 2) := by decide +kernel
theorem dX3_behind_41 : decode cX3_behind 41 = .ok (.ifCond .eq 16, 3) := by decide +kernel
theorem dX3_behind_44 : decode cX3_behind 44 = .ok (.iload 5, 2) := by decide +kernel
theorem dX3_behind_46 : decode cX3_behind 46 = .ok (.invokestatic 120, 3) := by decide +kernel
theorem dX3_behind_49 : decode cX3_behind 49 = .ok (.iload_n 2, 1) := by decide +kernel
theorem dX3_behind_50 : decode cX3_behind 50 = .ok (.if_icmp .le 7, 3) := by decide +kernel
theorem dX3_behind_53 : decode cX3_behind 53 = .ok (.iconst 1, 1) := by decide +kernel
theorem dX3_behind_54 : decode cX3_behind 54 = .ok (.goto 4, 3) := by decide +kernel
theorem dX3_behind_57 : decode cX3_behind 57 = .ok (.iconst 0, 1) := by decide +kernel
theorem dX3_behind_58 : decode cX3_behind 58 = .ok (.istore 6, 2) := by decide +kernel
theorem dX3_behind_60 : decode cX3_behind 60 = .ok (.iload 6, 2) := by decide +kernel
theorem dX3_behind_62 : decode cX3_behind 62 = .ok (.ifCond .eq 22, 3) := by decide +kernel
theorem dX3_behind_65 : decode cX3_behind 65 = .ok (.iload_n 3, 1) := by decide +kernel
theorem dX3_behind_66 : decode cX3_behind 66 = .ok (.ifCond .eq 15, 3) := by decide +kernel
theorem dX3_behind_69 : decode cX3_behind 69 = .ok (.iload 5, 2) := by decide +kernel
theorem dX3_behind_71 : decode cX3_behind 71 = .ok (.invokestatic 120, 3) := by decide +kernel
theorem dX3_behind_74 : decode cX3_behind 74 = .ok (.iload_n 3, 1) := by decide +kernel
theorem dX3_behind_75 : decode cX3_behind 75 = .ok (.invokestatic 120, 3) := by decide +kernel
theorem dX3_behind_78 : decode cX3_behind 78 = .ok (.if_icmp .ge 6, 3) := by decide +kernel
theorem dX3_behind_81 : decode cX3_behind 81 = .ok (.iload 5, 2) := by decide +kernel
theorem dX3_behind_83 : decode cX3_behind 83 = .ok (.istore_n 3, 1) := by decide +kernel
theorem dX3_behind_84 : decode cX3_behind 84 = .ok (.iinc 4 1, 3) := by decide +kernel
theorem dX3_behind_87 : decode cX3_behind 87 = .ok (.goto (-67), 3) := by decide +kernel
theorem dX3_behind_90 : decode cX3_behind 90 = .ok (.iload_n 3, 1) := by decide +kernel
theorem dX3_behind_91 : decode cX3_behind 91 = .ok (.ifCond .ne 8, 3) := by decide +kernel
theorem dX3_behind_94 : decode cX3_behind 94 = .ok (.ldc 91, 2) := by decide +kernel
theorem dX3_behind_96 : decode cX3_behind 96 = .ok (.goto 4, 3) := by decide +kernel
theorem dX3_behind_99 : decode cX3_behind 99 = .ok (.iload_n 3, 1) := by decide +kernel
theorem dX3_behind_100 : decode cX3_behind 100 = .ok (.ireturn, 1) := by decide +kernel
set_option maxRecDepth 20000 in
theorem ggX3_wouldBe_X3_isBelow : GoodIn wsX3_wouldBe wsX3_isBelow := goodIn_r _ [8] (by decide +kernel) (by decide +kernel)
set_option maxRecDepth 20000 in
theorem gX3_wouldBe_X3_isBelow : GoodIn wsX3_wouldBe (va_wsS RX3 92 yX3_isBelow wsX3_isBelow) := goodIn_app (goodIn_of _ (by decide +kernel)) ggX3_wouldBe_X3_isBelow
set_option maxRecDepth 20000 in
theorem ggX3_wouldBe_X1_placeOf : GoodIn wsX3_wouldBe wsX1_placeOf := goodIn_r _ [13, 14, 15, 16, 17, 12, 18, 19, 6, 7, 8, 20, 21, 22, 28, 29, 30, 31, 32, 33, 34, 35, 36, 37, 38, 39, 40, 41, 42] (by decide +kernel) (by decide +kernel)
set_option maxRecDepth 20000 in
theorem gX3_wouldBe_X1_placeOf : GoodIn wsX3_wouldBe (wsV RX3 114 RX1 yX1_placeOf wsX1_placeOf) := goodIn_app (goodIn_of _ (by decide +kernel)) ggX3_wouldBe_X1_placeOf
theorem dX3_wouldBe_0 : decode cX3_wouldBe 0 = .ok (.iload_n 1, 1) := by decide +kernel
theorem dX3_wouldBe_1 : decode cX3_wouldBe 1 = .ok (.bipush 40, 2) := by decide +kernel
theorem dX3_wouldBe_3 : decode cX3_wouldBe 3 = .ok (.invokestatic 92, 3) := by decide +kernel
theorem dX3_wouldBe_6 : decode cX3_wouldBe 6 = .ok (.ifCond .eq 11, 3) := by decide +kernel
theorem dX3_wouldBe_9 : decode cX3_wouldBe 9 = .ok (.iload_n 2, 1) := by decide +kernel
theorem dX3_wouldBe_10 : decode cX3_wouldBe 10 = .ok (.iconst 3, 1) := by decide +kernel
theorem dX3_wouldBe_11 : decode cX3_wouldBe 11 = .ok (.invokestatic 92, 3) := by decide +kernel
theorem dX3_wouldBe_14 : decode cX3_wouldBe 14 = .ok (.ifCond .ne 6, 3) := by decide +kernel
theorem dX3_wouldBe_17 : decode cX3_wouldBe 17 = .ok (.ldc 38, 2) := by decide +kernel
theorem dX3_wouldBe_19 : decode cX3_wouldBe 19 = .ok (.ireturn, 1) := by decide +kernel
theorem dX3_wouldBe_20 : decode cX3_wouldBe 20 = .ok (.aload_n 0, 1) := by decide +kernel
theorem dX3_wouldBe_21 : decode cX3_wouldBe 21 = .ok (.getfield 10, 3) := by decide +kernel
theorem dX3_wouldBe_24 : decode cX3_wouldBe 24 = .ok (.getfield 70, 3) := by decide +kernel
theorem dX3_wouldBe_27 : decode cX3_wouldBe 27 = .ok (.iload_n 1, 1) := by decide +kernel
theorem dX3_wouldBe_28 : decode cX3_wouldBe 28 = .ok (.iaload, 1) := by decide +kernel
theorem dX3_wouldBe_29 : decode cX3_wouldBe 29 = .ok (.ifCond .ne 8, 3) := by decide +kernel
theorem dX3_wouldBe_32 : decode cX3_wouldBe 32 = .ok (.ldc 91, 2) := by decide +kernel
theorem dX3_wouldBe_34 : decode cX3_wouldBe 34 = .ok (.goto 12, 3) := by decide +kernel
theorem dX3_wouldBe_37 : decode cX3_wouldBe 37 = .ok (.aload_n 0, 1) := by decide +kernel
theorem dX3_wouldBe_38 : decode cX3_wouldBe 38 = .ok (.getfield 10, 3) := by decide +kernel
theorem dX3_wouldBe_41 : decode cX3_wouldBe 41 = .ok (.iload_n 1, 1) := by decide +kernel
theorem dX3_wouldBe_42 : decode cX3_wouldBe 42 = .ok (.iload_n 2, 1) := by decide +kernel
theorem dX3_wouldBe_43 : decode cX3_wouldBe 43 = .ok (.invokevirtual 114, 3) := by decide +kernel
theorem dX3_wouldBe_46 : decode cX3_wouldBe 46 = .ok (.ireturn, 1) := by decide +kernel
set_option maxRecDepth 20000 in
theorem ggX3_compaction_X3_isBelow : GoodIn wsX3_compaction wsX3_isBelow := goodIn_r _ [11] (by decide +kernel) (by decide +kernel)
set_option maxRecDepth 20000 in
theorem gX3_compaction_X3_isBelow : GoodIn wsX3_compaction (va_wsS RX3 92 yX3_isBelow wsX3_isBelow) := goodIn_app (goodIn_of _ (by decide +kernel)) ggX3_compaction_X3_isBelow
set_option maxRecDepth 20000 in
theorem ggX3_compaction_X1_stillStanding : GoodIn wsX3_compaction wsX1_stillStanding := goodIn_r _ [16, 17, 18, 19, 20, 15, 21, 22, 23, 24, 25, 26, 27, 28, 29, 30, 9, 10, 11, 36, 37, 38, 39, 40, 41, 42, 43, 44, 45, 46, 47, 48, 49, 50] (by decide +kernel) (by decide +kernel)
set_option maxRecDepth 20000 in
theorem gX3_compaction_X1_stillStanding : GoodIn wsX3_compaction (wsV RX3 136 RX1 yX1_stillStanding wsX1_stillStanding) := goodIn_app (goodIn_of _ (by decide +kernel)) ggX3_compaction_X1_stillStanding
theorem dX3_compaction_0 : decode cX3_compaction 0 = .ok (.iload_n 1, 1) := by decide +kernel
theorem dX3_compaction_1 : decode cX3_compaction 1 = .ok (.iconst 3, 1) := by decide +kernel
theorem dX3_compaction_2 : decode cX3_compaction 2 = .ok (.invokestatic 92, 3) := by decide +kernel
theorem dX3_compaction_5 : decode cX3_compaction 5 = .ok (.ifCond .eq 11, 3) := by decide +kernel
theorem dX3_compaction_8 : decode cX3_compaction 8 = .ok (.iload_n 2, 1) := by decide +kernel
theorem dX3_compaction_9 : decode cX3_compaction 9 = .ok (.iconst 4, 1) := by decide +kernel
theorem dX3_compaction_10 : decode cX3_compaction 10 = .ok (.invokestatic 92, 3) := by decide +kernel
theorem dX3_compaction_13 : decode cX3_compaction 13 = .ok (.ifCond .ne 6, 3) := by decide +kernel
theorem dX3_compaction_16 : decode cX3_compaction 16 = .ok (.ldc 38, 2) := by decide +kernel
theorem dX3_compaction_18 : decode cX3_compaction 18 = .ok (.ireturn, 1) := by decide +kernel
theorem dX3_compaction_19 : decode cX3_compaction 19 = .ok (.iload_n 1, 1) := by decide +kernel
theorem dX3_compaction_20 : decode cX3_compaction 20 = .ok (.aload_n 0, 1) := by decide +kernel
theorem dX3_compaction_21 : decode cX3_compaction 21 = .ok (.getfield 10, 3) := by decide +kernel
theorem dX3_compaction_24 : decode cX3_compaction 24 = .ok (.getfield 123, 3) := by decide +kernel
theorem dX3_compaction_27 : decode cX3_compaction 27 = .ok (.if_icmp .lt 6, 3) := by decide +kernel
theorem dX3_compaction_30 : decode cX3_compaction 30 = .ok (.ldc 91, 2) := by decide +kernel
theorem dX3_compaction_32 : decode cX3_compaction 32 = .ok (.ireturn, 1) := by decide +kernel
theorem dX3_compaction_33 : decode cX3_compaction 33 = .ok (.aload_n 0, 1) := by decide +kernel
theorem dX3_compaction_34 : decode cX3_compaction 34 = .ok (.getfield 10, 3) := by decide +kernel
theorem dX3_compaction_37 : decode cX3_compaction 37 = .ok (.getfield 123, 3) := by decide +kernel
theorem dX3_compaction_40 : decode cX3_compaction 40 = .ok (.iconst 1, 1) := by decide +kernel
theorem dX3_compaction_41 : decode cX3_compaction 41 = .ok (.isub, 1) := by decide +kernel
theorem dX3_compaction_42 : decode cX3_compaction 42 = .ok (.iload_n 1, 1) := by decide +kernel
theorem dX3_compaction_43 : decode cX3_compaction 43 = .ok (.isub, 1) := by decide +kernel
theorem dX3_compaction_44 : decode cX3_compaction 44 = .ok (.istore_n 3, 1) := by decide +kernel
theorem dX3_compaction_45 : decode cX3_compaction 45 = .ok (.iload_n 2, 1) := by decide +kernel
theorem dX3_compaction_46 : decode cX3_compaction 46 = .ok (.tableswitch 62 0 2 #[26, 38, 50], 26) := by decide +kernel
theorem dX3_compaction_72 : decode cX3_compaction 72 = .ok (.aload_n 0, 1) := by decide +kernel
theorem dX3_compaction_73 : decode cX3_compaction 73 = .ok (.getfield 10, 3) := by decide +kernel
theorem dX3_compaction_76 : decode cX3_compaction 76 = .ok (.getfield 127, 3) := by decide +kernel
theorem dX3_compaction_79 : decode cX3_compaction 79 = .ok (.iload_n 3, 1) := by decide +kernel
theorem dX3_compaction_80 : decode cX3_compaction 80 = .ok (.iconst 3, 1) := by decide +kernel
theorem dX3_compaction_81 : decode cX3_compaction 81 = .ok (.irem, 1) := by decide +kernel
theorem dX3_compaction_82 : decode cX3_compaction 82 = .ok (.iaload, 1) := by decide +kernel
theorem dX3_compaction_83 : decode cX3_compaction 83 = .ok (.ireturn, 1) := by decide +kernel
theorem dX3_compaction_84 : decode cX3_compaction 84 = .ok (.aload_n 0, 1) := by decide +kernel
theorem dX3_compaction_85 : decode cX3_compaction 85 = .ok (.getfield 10, 3) := by decide +kernel
theorem dX3_compaction_88 : decode cX3_compaction 88 = .ok (.getfield 130, 3) := by decide +kernel
theorem dX3_compaction_91 : decode cX3_compaction 91 = .ok (.iload_n 3, 1) := by decide +kernel
theorem dX3_compaction_92 : decode cX3_compaction 92 = .ok (.iconst 3, 1) := by decide +kernel
theorem dX3_compaction_93 : decode cX3_compaction 93 = .ok (.irem, 1) := by decide +kernel
theorem dX3_compaction_94 : decode cX3_compaction 94 = .ok (.iaload, 1) := by decide +kernel
theorem dX3_compaction_95 : decode cX3_compaction 95 = .ok (.ireturn, 1) := by decide +kernel
theorem dX3_compaction_96 : decode cX3_compaction 96 = .ok (.aload_n 0, 1) := by decide +kernel
theorem dX3_compaction_97 : decode cX3_compaction 97 = .ok (.getfield 10, 3) := by decide +kernel
theorem dX3_compaction_100 : decode cX3_compaction 100 = .ok (.getfield 133, 3) := by decide +kernel
theorem dX3_compaction_103 : decode cX3_compaction 103 = .ok (.iload_n 3, 1) := by decide +kernel
theorem dX3_compaction_104 : decode cX3_compaction 104 = .ok (.iconst 3, 1) := by decide +kernel
theorem dX3_compaction_105 : decode cX3_compaction 105 = .ok (.irem, 1) := by decide +kernel
theorem dX3_compaction_106 : decode cX3_compaction 106 = .ok (.iaload, 1) := by decide +kernel
theorem dX3_compaction_107 : decode cX3_compaction 107 = .ok (.ireturn, 1) := by decide +kernel
theorem dX3_compaction_108 : decode cX3_compaction 108 = .ok (.aload_n 0, 1) := by decide +kernel
theorem dX3_compaction_109 : decode cX3_compaction 109 = .ok (.getfield 10, 3) := by decide +kernel
theorem dX3_compaction_112 : decode cX3_compaction 112 = .ok (.iload_n 3, 1) := by decide +kernel
theorem dX3_compaction_113 : decode cX3_compaction 113 = .ok (.invokevirtual 136, 3) := by decide +kernel
theorem dX3_compaction_116 : decode cX3_compaction 116 = .ok (.ireturn, 1) := by decide +kernel
set_option maxRecDepth 20000 in
theorem ggX3_count_X1_namesBelow : GoodIn wsX3_count wsX1_namesBelow := goodIn_r _ [18, 19, 39, 40, 41, 42, 43, 44, 45, 46, 47, 48, 49, 50, 51, 52, 53] (by decide +kernel) (by decide +kernel)
set_option maxRecDepth 20000 in
theorem gX3_count_X1_namesBelow : GoodIn wsX3_count (wsV RX3 139 RX1 yX1_namesBelow wsX1_namesBelow) := goodIn_app (goodIn_of _ (by decide +kernel)) ggX3_count_X1_namesBelow
set_option maxRecDepth 20000 in
theorem ggX3_count_X1_usersOfAll : GoodIn wsX3_count wsX1_usersOfAll := goodIn_r _ [23, 24, 39, 40, 41, 42, 43, 44, 45, 46, 47, 48, 49, 50, 51, 52, 53] (by decide +kernel) (by decide +kernel)
set_option maxRecDepth 20000 in
theorem gX3_count_X1_usersOfAll : GoodIn wsX3_count (wsV RX3 142 RX1 yX1_usersOfAll wsX1_usersOfAll) := goodIn_app (goodIn_of _ (by decide +kernel)) ggX3_count_X1_usersOfAll
set_option maxRecDepth 20000 in
theorem ggX3_count_X1_cellsWith : GoodIn wsX3_count wsX1_cellsWith := goodIn_r _ [28, 29, 39, 40, 41, 42, 43, 44, 45, 46, 47, 48, 49, 50, 51, 52, 53] (by decide +kernel) (by decide +kernel)
set_option maxRecDepth 20000 in
theorem gX3_count_X1_cellsWith : GoodIn wsX3_count (wsV RX3 105 RX1 yX1_cellsWith wsX1_cellsWith) := goodIn_app (goodIn_of _ (by decide +kernel)) ggX3_count_X1_cellsWith
set_option maxRecDepth 20000 in
theorem ggX3_count_X1_top : GoodIn wsX3_count wsX1_top := goodIn_r _ [33, 19, 39, 40, 41, 42, 43, 44, 45, 46, 47, 48, 49, 50, 51, 52, 53] (by decide +kernel) (by decide +kernel)
set_option maxRecDepth 20000 in
theorem gX3_count_X1_top : GoodIn wsX3_count (wsV RX3 146 RX1 yX1_top wsX1_top) := goodIn_app (goodIn_of _ (by decide +kernel)) ggX3_count_X1_top
theorem dX3_count_0 : decode cX3_count 0 = .ok (.iload_n 1, 1) := by decide +kernel
theorem dX3_count_1 : decode cX3_count 1 = .ok (.tableswitch 175 0 10 #[59, 69, 77, 95, 103, 111, 134, 142, 150, 162, 167], 59) := by decide +kernel
theorem dX3_count_60 : decode cX3_count 60 = .ok (.aload_n 0, 1) := by decide +kernel
theorem dX3_count_61 : decode cX3_count 61 = .ok (.getfield 10, 3) := by decide +kernel
theorem dX3_count_64 : decode cX3_count 64 = .ok (.bipush 40, 2) := by decide +kernel
theorem dX3_count_66 : decode cX3_count 66 = .ok (.invokevirtual 139, 3) := by decide +kernel
theorem dX3_count_69 : decode cX3_count 69 = .ok (.ireturn, 1) := by decide +kernel
theorem dX3_count_70 : decode cX3_count 70 = .ok (.aload_n 0, 1) := by decide +kernel
theorem dX3_count_71 : decode cX3_count 71 = .ok (.getfield 10, 3) := by decide +kernel
theorem dX3_count_74 : decode cX3_count 74 = .ok (.invokevirtual 142, 3) := by decide +kernel
theorem dX3_count_77 : decode cX3_count 77 = .ok (.ireturn, 1) := by decide +kernel
theorem dX3_count_78 : decode cX3_count 78 = .ok (.aload_n 0, 1) := by decide +kernel
theorem dX3_count_79 : decode cX3_count 79 = .ok (.getfield 10, 3) := by decide +kernel
theorem dX3_count_82 : decode cX3_count 82 = .ok (.getfield 85, 3) := by decide +kernel
theorem dX3_count_85 : decode cX3_count 85 = .ok (.arraylength, 1) := by decide +kernel
theorem dX3_count_86 : decode cX3_count 86 = .ok (.aload_n 0, 1) := by decide +kernel
theorem dX3_count_87 : decode cX3_count 87 = .ok (.getfield 10, 3) := by decide +kernel
theorem dX3_count_90 : decode cX3_count 90 = .ok (.iconst (-1), 1) := by decide +kernel
theorem dX3_count_91 : decode cX3_count 91 = .ok (.invokevirtual 105, 3) := by decide +kernel
theorem dX3_count_94 : decode cX3_count 94 = .ok (.isub, 1) := by decide +kernel
theorem dX3_count_95 : decode cX3_count 95 = .ok (.ireturn, 1) := by decide +kernel
theorem dX3_count_96 : decode cX3_count 96 = .ok (.aload_n 0, 1) := by decide +kernel
theorem dX3_count_97 : decode cX3_count 97 = .ok (.getfield 10, 3) := by decide +kernel
theorem dX3_count_100 : decode cX3_count 100 = .ok (.getfield 123, 3) := by decide +kernel
theorem dX3_count_103 : decode cX3_count 103 = .ok (.ireturn, 1) := by decide +kernel
theorem dX3_count_104 : decode cX3_count 104 = .ok (.aload_n 0, 1) := by decide +kernel
theorem dX3_count_105 : decode cX3_count 105 = .ok (.getfield 10, 3) := by decide +kernel
theorem dX3_count_108 : decode cX3_count 108 = .ok (.invokevirtual 146, 3) := by decide +kernel
theorem dX3_count_111 : decode cX3_count 111 = .ok (.ireturn, 1) := by decide +kernel
theorem dX3_count_112 : decode cX3_count 112 = .ok (.aload_n 0, 1) := by decide +kernel
theorem dX3_count_113 : decode cX3_count 113 = .ok (.getfield 10, 3) := by decide +kernel
theorem dX3_count_116 : decode cX3_count 116 = .ok (.invokevirtual 146, 3) := by decide +kernel
theorem dX3_count_119 : decode cX3_count 119 = .ok (.aload_n 0, 1) := by decide +kernel
theorem dX3_count_120 : decode cX3_count 120 = .ok (.getfield 10, 3) := by decide +kernel
theorem dX3_count_123 : decode cX3_count 123 = .ok (.aload_n 0, 1) := by decide +kernel
theorem dX3_count_124 : decode cX3_count 124 = .ok (.getfield 10, 3) := by decide +kernel
theorem dX3_count_127 : decode cX3_count 127 = .ok (.invokevirtual 146, 3) := by decide +kernel
theorem dX3_count_130 : decode cX3_count 130 = .ok (.invokevirtual 139, 3) := by decide +kernel
theorem dX3_count_133 : decode cX3_count 133 = .ok (.isub, 1) := by decide +kernel
theorem dX3_count_134 : decode cX3_count 134 = .ok (.ireturn, 1) := by decide +kernel
theorem dX3_count_135 : decode cX3_count 135 = .ok (.aload_n 0, 1) := by decide +kernel
theorem dX3_count_136 : decode cX3_count 136 = .ok (.getfield 10, 3) := by decide +kernel
theorem dX3_count_139 : decode cX3_count 139 = .ok (.getfield 149, 3) := by decide +kernel
theorem dX3_count_142 : decode cX3_count 142 = .ok (.ireturn, 1) := by decide +kernel
theorem dX3_count_143 : decode cX3_count 143 = .ok (.aload_n 0, 1) := by decide +kernel
theorem dX3_count_144 : decode cX3_count 144 = .ok (.getfield 10, 3) := by decide +kernel
theorem dX3_count_147 : decode cX3_count 147 = .ok (.getfield 152, 3) := by decide +kernel
theorem dX3_count_150 : decode cX3_count 150 = .ok (.ireturn, 1) := by decide +kernel
theorem dX3_count_151 : decode cX3_count 151 = .ok (.aload_n 0, 1) := by decide +kernel
theorem dX3_count_152 : decode cX3_count 152 = .ok (.getfield 10, 3) := by decide +kernel
theorem dX3_count_155 : decode cX3_count 155 = .ok (.getfield 123, 3) := by decide +kernel
theorem dX3_count_158 : decode cX3_count 158 = .ok (.iconst 3, 1) := by decide +kernel
theorem dX3_count_159 : decode cX3_count 159 = .ok (.invokestatic 155, 3) := by decide +kernel
theorem dX3_count_162 : decode cX3_count 162 = .ok (.ireturn, 1) := by decide +kernel
theorem dX3_count_163 : decode cX3_count 163 = .ok (.aload_n 0, 1) := by decide +kernel
theorem dX3_count_164 : decode cX3_count 164 = .ok (.getfield 160, 3) := by decide +kernel
theorem dX3_count_167 : decode cX3_count 167 = .ok (.ireturn, 1) := by decide +kernel
theorem dX3_count_168 : decode cX3_count 168 = .ok (.aload_n 0, 1) := by decide +kernel
theorem dX3_count_169 : decode cX3_count 169 = .ok (.getfield 23, 3) := by decide +kernel
theorem dX3_count_172 : decode cX3_count 172 = .ok (.getfield 163, 3) := by decide +kernel
theorem dX3_count_175 : decode cX3_count 175 = .ok (.ireturn, 1) := by decide +kernel
theorem dX3_count_176 : decode cX3_count 176 = .ok (.ldc 38, 2) := by decide +kernel
theorem dX3_count_178 : decode cX3_count 178 = .ok (.ireturn, 1) := by decide +kernel
set_option maxRecDepth 20000 in
theorem ggX3_undo_X1_copyFrom : GoodIn wsX3_undo wsX1_copyFrom := goodIn_r _ [9, 10, 11, 12, 13, 14, 15, 16, 17, 18, 19, 20, 21, 22, 23, 24, 25, 26, 32, 33, 34, 35, 36, 37, 38, 39, 40, 41, 42, 43, 44, 45, 46] (by decide +kernel) (by decide +kernel)
set_option maxRecDepth 20000 in
theorem gX3_undo_X1_copyFrom : GoodIn wsX3_undo (wsV RX3 166 RX1 yX1_copyFrom wsX1_copyFrom) := goodIn_app (goodIn_of _ (by decide +kernel)) ggX3_undo_X1_copyFrom
theorem dX3_undo_0 : decode cX3_undo 0 = .ok (.aload_n 0, 1) := by decide +kernel
theorem dX3_undo_1 : decode cX3_undo 1 = .ok (.getfield 160, 3) := by decide +kernel
theorem dX3_undo_4 : decode cX3_undo 4 = .ok (.ifCond .le 11, 3) := by decide +kernel
theorem dX3_undo_7 : decode cX3_undo 7 = .ok (.aload_n 0, 1) := by decide +kernel
theorem dX3_undo_8 : decode cX3_undo 8 = .ok (.getfield 160, 3) := by decide +kernel
theorem dX3_undo_11 : decode cX3_undo 11 = .ok (.iconst 4, 1) := by decide +kernel
theorem dX3_undo_12 : decode cX3_undo 12 = .ok (.if_icmp .le 6, 3) := by decide +kernel
theorem dX3_undo_15 : decode cX3_undo 15 = .ok (.ldc 66, 2) := by decide +kernel
theorem dX3_undo_17 : decode cX3_undo 17 = .ok (.ireturn, 1) := by decide +kernel
theorem dX3_undo_18 : decode cX3_undo 18 = .ok (.aload_n 0, 1) := by decide +kernel
theorem dX3_undo_19 : decode cX3_undo 19 = .ok (.dup, 1) := by decide +kernel
theorem dX3_undo_20 : decode cX3_undo 20 = .ok (.getfield 160, 3) := by decide +kernel
theorem dX3_undo_23 : decode cX3_undo 23 = .ok (.iconst 1, 1) := by decide +kernel
theorem dX3_undo_24 : decode cX3_undo 24 = .ok (.isub, 1) := by decide +kernel
theorem dX3_undo_25 : decode cX3_undo 25 = .ok (.putfield 160, 3) := by decide +kernel
theorem dX3_undo_28 : decode cX3_undo 28 = .ok (.aload_n 0, 1) := by decide +kernel
theorem dX3_undo_29 : decode cX3_undo 29 = .ok (.getfield 10, 3) := by decide +kernel
theorem dX3_undo_32 : decode cX3_undo 32 = .ok (.aload_n 0, 1) := by decide +kernel
theorem dX3_undo_33 : decode cX3_undo 33 = .ok (.getfield 16, 3) := by decide +kernel
theorem dX3_undo_36 : decode cX3_undo 36 = .ok (.aload_n 0, 1) := by decide +kernel
theorem dX3_undo_37 : decode cX3_undo 37 = .ok (.getfield 160, 3) := by decide +kernel
theorem dX3_undo_40 : decode cX3_undo 40 = .ok (.aaload, 1) := by decide +kernel
theorem dX3_undo_41 : decode cX3_undo 41 = .ok (.invokevirtual 166, 3) := by decide +kernel
theorem dX3_undo_44 : decode cX3_undo 44 = .ok (.aload_n 0, 1) := by decide +kernel
theorem dX3_undo_45 : decode cX3_undo 45 = .ok (.getfield 160, 3) := by decide +kernel
theorem dX3_undo_48 : decode cX3_undo 48 = .ok (.ireturn, 1) := by decide +kernel
set_option maxRecDepth 20000 in
theorem ggX3_type_X2_append : GoodIn wsX3_type wsX2_append := goodIn_r _ [9, 10, 11, 12, 13, 14, 20, 21] (by decide +kernel) (by decide +kernel)
set_option maxRecDepth 20000 in
theorem gX3_type_X2_append : GoodIn wsX3_type (wsV RX3 170 RX2 yX2_append wsX2_append) := goodIn_app (goodIn_of _ (by decide +kernel)) ggX3_type_X2_append
theorem dX3_type_0 : decode cX3_type 0 = .ok (.iload_n 1, 1) := by decide +kernel
theorem dX3_type_1 : decode cX3_type 1 = .ok (.bipush 32, 2) := by decide +kernel
theorem dX3_type_3 : decode cX3_type 3 = .ok (.if_icmp .lt 9, 3) := by decide +kernel
theorem dX3_type_6 : decode cX3_type 6 = .ok (.iload_n 1, 1) := by decide +kernel
theorem dX3_type_7 : decode cX3_type 7 = .ok (.bipush 126, 2) := by decide +kernel
theorem dX3_type_9 : decode cX3_type 9 = .ok (.if_icmp .le 6, 3) := by decide +kernel
theorem dX3_type_12 : decode cX3_type 12 = .ok (.ldc 38, 2) := by decide +kernel
theorem dX3_type_14 : decode cX3_type 14 = .ok (.ireturn, 1) := by decide +kernel
theorem dX3_type_15 : decode cX3_type 15 = .ok (.aload_n 0, 1) := by decide +kernel
theorem dX3_type_16 : decode cX3_type 16 = .ok (.getfield 23, 3) := by decide +kernel
theorem dX3_type_19 : decode cX3_type 19 = .ok (.getfield 163, 3) := by decide +kernel
theorem dX3_type_22 : decode cX3_type 22 = .ok (.bipush 60, 2) := by decide +kernel
theorem dX3_type_24 : decode cX3_type 24 = .ok (.if_icmp .lt 6, 3) := by decide +kernel
theorem dX3_type_27 : decode cX3_type 27 = .ok (.ldc 42, 2) := by decide +kernel
theorem dX3_type_29 : decode cX3_type 29 = .ok (.ireturn, 1) := by decide +kernel
theorem dX3_type_30 : decode cX3_type 30 = .ok (.aload_n 0, 1) := by decide +kernel
theorem dX3_type_31 : decode cX3_type 31 = .ok (.getfield 23, 3) := by decide +kernel
theorem dX3_type_34 : decode cX3_type 34 = .ok (.iload_n 1, 1) := by decide +kernel
theorem dX3_type_35 : decode cX3_type 35 = .ok (.i2c, 1) := by decide +kernel
theorem dX3_type_36 : decode cX3_type 36 = .ok (.invokevirtual 170, 3) := by decide +kernel
theorem dX3_type_39 : decode cX3_type 39 = .ok (.ireturn, 1) := by decide +kernel
theorem dX3_clearText_0 : decode cX3_clearText 0 = .ok (.aload_n 0, 1) := by decide +kernel
theorem dX3_clearText_1 : decode cX3_clearText 1 = .ok (.getfield 23, 3) := by decide +kernel
theorem dX3_clearText_4 : decode cX3_clearText 4 = .ok (.getfield 163, 3) := by decide +kernel
theorem dX3_clearText_7 : decode cX3_clearText 7 = .ok (.istore_n 1, 1) := by decide +kernel
theorem dX3_clearText_8 : decode cX3_clearText 8 = .ok (.aload_n 0, 1) := by decide +kernel
theorem dX3_clearText_9 : decode cX3_clearText 9 = .ok (.getfield 23, 3) := by decide +kernel
theorem dX3_clearText_12 : decode cX3_clearText 12 = .ok (.iconst 0, 1) := by decide +kernel
theorem dX3_clearText_13 : decode cX3_clearText 13 = .ok (.putfield 163, 3) := by decide +kernel
theorem dX3_clearText_16 : decode cX3_clearText 16 = .ok (.iload_n 1, 1) := by decide +kernel
theorem dX3_clearText_17 : decode cX3_clearText 17 = .ok (.ireturn, 1) := by decide +kernel
set_option maxRecDepth 20000 in
theorem ggX3_fault_X3_isBelow : GoodIn wsX3_fault wsX3_isBelow := goodIn_r _ [12] (by decide +kernel) (by decide +kernel)
set_option maxRecDepth 20000 in
theorem gX3_fault_X3_isBelow : GoodIn wsX3_fault (va_wsS RX3 92 yX3_isBelow wsX3_isBelow) := goodIn_app (goodIn_of _ (by decide +kernel)) ggX3_fault_X3_isBelow
set_option maxRecDepth 20000 in
theorem ggX3_fault_X0_tryOn : GoodIn wsX3_fault wsX0_tryOn := goodIn_r _ [17, 18, 19, 20, 21, 22, 23, 24, 25, 26, 27, 28, 29, 30, 31, 32, 33, 34, 35, 36, 37, 38, 39, 40, 41, 42, 43, 44, 45, 46, 47, 48, 16, 49, 50, 51, 52, 53, 54, 55, 56, 57, 58, 59, 60, 61, 62, 10, 11, 12, 63, 64, 65, 66, 67, 68, 69, 70, 71, 72, 73, 74, 75, 76, 77, 78, 79, 80, 81, 82, 83, 84, 85, 86, 87, 88, 89, 90, 91, 92, 93, 94, 95, 96, 97, 98, 99, 100, 101, 102, 103, 104, 105, 106, 107, 108, 109, 110, 111, 112, 113, 114, 115, 116, 117, 118, 119, 120, 121, 122, 123, 124, 125, 126, 127, 128, 129, 130, 131, 132, 133, 134, 135, 136, 137, 138, 139, 140, 141, 142, 143, 144, 145, 146, 147, 148, 149, 150, 151, 152, 153, 154, 155, 156, 157, 158, 159, 160, 161, 162, 163, 164, 165, 166, 167, 168, 169, 175, 176, 177, 178, 179, 180, 181, 182, 183, 184, 185, 186, 187, 188, 189, 190, 191, 192, 193, 194, 195, 196, 197, 198, 199, 200, 201, 202, 203] (by decide +kernel) (by decide +kernel)
set_option maxRecDepth 20000 in
theorem gX3_fault_X0_tryOn : GoodIn wsX3_fault (wsV RX3 174 RX0 yX0_tryOn wsX0_tryOn) := goodIn_app (goodIn_of _ (by decide +kernel)) ggX3_fault_X0_tryOn
theorem dX3_fault_0 : decode cX3_fault 0 = .ok (.iload_n 1, 1) := by decide +kernel
theorem dX3_fault_1 : decode cX3_fault 1 = .ok (.iconst 3, 1) := by decide +kernel
theorem dX3_fault_2 : decode cX3_fault 2 = .ok (.invokestatic 92, 3) := by decide +kernel
theorem dX3_fault_5 : decode cX3_fault 5 = .ok (.ifCond .ne 6, 3) := by decide +kernel
theorem dX3_fault_8 : decode cX3_fault 8 = .ok (.ldc 38, 2) := by decide +kernel
theorem dX3_fault_10 : decode cX3_fault 10 = .ok (.ireturn, 1) := by decide +kernel
theorem dX3_fault_11 : decode cX3_fault 11 = .ok (.aload_n 0, 1) := by decide +kernel
theorem dX3_fault_12 : decode cX3_fault 12 = .ok (.getfield 30, 3) := by decide +kernel
theorem dX3_fault_15 : decode cX3_fault 15 = .ok (.aload_n 0, 1) := by decide +kernel
theorem dX3_fault_16 : decode cX3_fault 16 = .ok (.getfield 10, 3) := by decide +kernel
theorem dX3_fault_19 : decode cX3_fault 19 = .ok (.aload_n 0, 1) := by decide +kernel
theorem dX3_fault_20 : decode cX3_fault 20 = .ok (.getfield 23, 3) := by decide +kernel
theorem dX3_fault_23 : decode cX3_fault 23 = .ok (.invokevirtual 174, 3) := by decide +kernel
theorem dX3_fault_26 : decode cX3_fault 26 = .ok (.aload_n 0, 1) := by decide +kernel
theorem dX3_fault_27 : decode cX3_fault 27 = .ok (.getfield 30, 3) := by decide +kernel
theorem dX3_fault_30 : decode cX3_fault 30 = .ok (.getfield 178, 3) := by decide +kernel
theorem dX3_fault_33 : decode cX3_fault 33 = .ok (.ifCond .ne 6, 3) := by decide +kernel
theorem dX3_fault_36 : decode cX3_fault 36 = .ok (.ldc 91, 2) := by decide +kernel
theorem dX3_fault_38 : decode cX3_fault 38 = .ok (.ireturn, 1) := by decide +kernel
theorem dX3_fault_39 : decode cX3_fault 39 = .ok (.iload_n 1, 1) := by decide +kernel
theorem dX3_fault_40 : decode cX3_fault 40 = .ok (.lookupswitch 44 #[(0, 28), (1, 36)], 28) := by decide +kernel
theorem dX3_fault_68 : decode cX3_fault 68 = .ok (.aload_n 0, 1) := by decide +kernel
theorem dX3_fault_69 : decode cX3_fault 69 = .ok (.getfield 30, 3) := by decide +kernel
theorem dX3_fault_72 : decode cX3_fault 72 = .ok (.getfield 181, 3) := by decide +kernel
theorem dX3_fault_75 : decode cX3_fault 75 = .ok (.ireturn, 1) := by decide +kernel
theorem dX3_fault_76 : decode cX3_fault 76 = .ok (.aload_n 0, 1) := by decide +kernel
theorem dX3_fault_77 : decode cX3_fault 77 = .ok (.getfield 30, 3) := by decide +kernel
theorem dX3_fault_80 : decode cX3_fault 80 = .ok (.getfield 178, 3) := by decide +kernel
theorem dX3_fault_83 : decode cX3_fault 83 = .ok (.ireturn, 1) := by decide +kernel
theorem dX3_fault_84 : decode cX3_fault 84 = .ok (.aload_n 0, 1) := by decide +kernel
theorem dX3_fault_85 : decode cX3_fault 85 = .ok (.getfield 30, 3) := by decide +kernel
theorem dX3_fault_88 : decode cX3_fault 88 = .ok (.getfield 178, 3) := by decide +kernel
theorem dX3_fault_91 : decode cX3_fault 91 = .ok (.iconst 3, 1) := by decide +kernel
theorem dX3_fault_92 : decode cX3_fault 92 = .ok (.if_icmp .ne 8, 3) := by decide +kernel
theorem dX3_fault_95 : decode cX3_fault 95 = .ok (.ldc 91, 2) := by decide +kernel
theorem dX3_fault_97 : decode cX3_fault 97 = .ok (.goto 10, 3) := by decide +kernel
theorem dX3_fault_100 : decode cX3_fault 100 = .ok (.aload_n 0, 1) := by decide +kernel
theorem dX3_fault_101 : decode cX3_fault 101 = .ok (.getfield 30, 3) := by decide +kernel
theorem dX3_fault_104 : decode cX3_fault 104 = .ok (.getfield 184, 3) := by decide +kernel
theorem dX3_fault_107 : decode cX3_fault 107 = .ok (.ireturn, 1) := by decide +kernel
set_option maxRecDepth 20000 in
theorem ggX3_play_X0_tryOn : GoodIn wsX3_play wsX0_tryOn := goodIn_r _ [12, 13, 14, 15, 16, 17, 18, 19, 20, 21, 22, 23, 24, 25, 26, 27, 28, 29, 30, 31, 32, 33, 34, 35, 36, 37, 38, 39, 40, 41, 42, 43, 11, 44, 45, 46, 47, 48, 49, 50, 51, 52, 53, 54, 55, 56, 57, 58, 59, 60, 61, 62, 63, 64, 65, 66, 67, 68, 69, 70, 71, 72, 73, 74, 75, 76, 77, 78, 79, 80, 81, 82, 83, 84, 85, 86, 87, 88, 89, 90, 91, 92, 93, 94, 95, 96, 97, 98, 99, 100, 101, 102, 103, 104, 105, 106, 107, 108, 109, 110, 111, 112, 113, 114, 115, 116, 117, 118, 119, 120, 121, 122, 123, 124, 125, 126, 127, 128, 129, 130, 131, 132, 133, 134, 135, 136, 137, 138, 139, 140, 141, 142, 143, 144, 145, 146, 147, 148, 149, 150, 151, 152, 153, 154, 155, 156, 157, 158, 159, 160, 161, 162, 163, 164, 165, 166, 167, 180, 181, 182, 183, 184, 185, 186, 187, 188, 189, 190, 191, 192, 193, 194, 195, 196, 197, 198, 199, 200, 201, 202, 203, 204, 205, 206, 207, 208] (by decide +kernel) (by decide +kernel)
set_option maxRecDepth 20000 in
theorem gX3_play_X0_tryOn : GoodIn wsX3_play (wsV RX3 174 RX0 yX0_tryOn wsX0_tryOn) := goodIn_app (goodIn_of _ (by decide +kernel)) ggX3_play_X0_tryOn
set_option maxRecDepth 20000 in
theorem ggX3_play_X3_recordState : GoodIn wsX3_play wsX3_recordState := goodIn_r _ [171, 172, 173, 2, 174, 20, 21, 22, 23, 24, 25, 26, 27, 28, 29, 30, 31, 32, 33, 34, 35, 36, 37, 38, 39, 40, 175, 176, 177, 178, 179, 194, 195, 196, 197, 198, 199, 200, 201, 202, 203, 204, 205, 206, 207, 208] (by decide +kernel) (by decide +kernel)
set_option maxRecDepth 20000 in
theorem gX3_play_X3_recordState : GoodIn wsX3_play (wsV RX3 43 RX3 yX3_recordState wsX3_recordState) := goodIn_app (goodIn_of _ (by decide +kernel)) ggX3_play_X3_recordState
set_option maxRecDepth 20000 in
theorem ggX3_play_X1_copyFrom : GoodIn wsX3_play wsX1_copyFrom := goodIn_r _ [23, 24, 25, 26, 27, 28, 29, 30, 31, 32, 33, 34, 35, 36, 37, 38, 39, 40, 194, 195, 196, 197, 198, 199, 200, 201, 202, 203, 204, 205, 206, 207, 208] (by decide +kernel) (by decide +kernel)
set_option maxRecDepth 20000 in
theorem gX3_play_X1_copyFrom : GoodIn wsX3_play (wsV RX3 166 RX1 yX1_copyFrom wsX1_copyFrom) := goodIn_app (goodIn_of _ (by decide +kernel)) ggX3_play_X1_copyFrom
theorem dX3_play_0 : decode cX3_play 0 = .ok (.aload_n 0, 1) := by decide +kernel
theorem dX3_play_1 : decode cX3_play 1 = .ok (.getfield 30, 3) := by decide +kernel
theorem dX3_play_4 : decode cX3_play 4 = .ok (.aload_n 0, 1) := by decide +kernel
theorem dX3_play_5 : decode cX3_play 5 = .ok (.getfield 10, 3) := by decide +kernel
theorem dX3_play_8 : decode cX3_play 8 = .ok (.aload_n 0, 1) := by decide +kernel
theorem dX3_play_9 : decode cX3_play 9 = .ok (.getfield 23, 3) := by decide +kernel
theorem dX3_play_12 : decode cX3_play 12 = .ok (.invokevirtual 174, 3) := by decide +kernel
theorem dX3_play_15 : decode cX3_play 15 = .ok (.aload_n 0, 1) := by decide +kernel
theorem dX3_play_16 : decode cX3_play 16 = .ok (.getfield 30, 3) := by decide +kernel
theorem dX3_play_19 : decode cX3_play 19 = .ok (.getfield 178, 3) := by decide +kernel
theorem dX3_play_22 : decode cX3_play 22 = .ok (.ifCond .eq 6, 3) := by decide +kernel
theorem dX3_play_25 : decode cX3_play 25 = .ok (.ldc 66, 2) := by decide +kernel
theorem dX3_play_27 : decode cX3_play 27 = .ok (.ireturn, 1) := by decide +kernel
theorem dX3_play_28 : decode cX3_play 28 = .ok (.aload_n 0, 1) := by decide +kernel
theorem dX3_play_29 : decode cX3_play 29 = .ok (.invokevirtual 43, 3) := by decide +kernel
theorem dX3_play_32 : decode cX3_play 32 = .ok (.aload_n 0, 1) := by decide +kernel
theorem dX3_play_33 : decode cX3_play 33 = .ok (.getfield 10, 3) := by decide +kernel
theorem dX3_play_36 : decode cX3_play 36 = .ok (.aload_n 0, 1) := by decide +kernel
theorem dX3_play_37 : decode cX3_play 37 = .ok (.getfield 30, 3) := by decide +kernel
theorem dX3_play_40 : decode cX3_play 40 = .ok (.getfield 187, 3) := by decide +kernel
theorem dX3_play_43 : decode cX3_play 43 = .ok (.invokevirtual 166, 3) := by decide +kernel
theorem dX3_play_46 : decode cX3_play 46 = .ok (.aload_n 0, 1) := by decide +kernel
theorem dX3_play_47 : decode cX3_play 47 = .ok (.getfield 30, 3) := by decide +kernel
theorem dX3_play_50 : decode cX3_play 50 = .ok (.getfield 190, 3) := by decide +kernel
theorem dX3_play_53 : decode cX3_play 53 = .ok (.ireturn, 1) := by decide +kernel
set_option maxRecDepth 20000 in
theorem ggX3_recordState_X1_copyFrom : GoodIn wsX3_recordState wsX1_copyFrom := goodIn_r _ [8, 9, 10, 11, 12, 13, 14, 15, 16, 17, 18, 19, 20, 21, 22, 23, 24, 25, 31, 32, 33, 34, 35, 36, 37, 38, 39, 40, 41, 42, 43, 44, 45] (by decide +kernel) (by decide +kernel)
set_option maxRecDepth 20000 in
theorem gX3_recordState_X1_copyFrom : GoodIn wsX3_recordState (wsV RX3 166 RX1 yX1_copyFrom wsX1_copyFrom) := goodIn_app (goodIn_of _ (by decide +kernel)) ggX3_recordState_X1_copyFrom
theorem dX3_recordState_0 : decode cX3_recordState 0 = .ok (.aload_n 0, 1) := by decide +kernel
theorem dX3_recordState_1 : decode cX3_recordState 1 = .ok (.getfield 160, 3) := by decide +kernel
theorem dX3_recordState_4 : decode cX3_recordState 4 = .ok (.iconst 4, 1) := by decide +kernel
theorem dX3_recordState_5 : decode cX3_recordState 5 = .ok (.if_icmp .lt 49, 3) := by decide +kernel
theorem dX3_recordState_8 : decode cX3_recordState 8 = .ok (.aload_n 0, 1) := by decide +kernel
theorem dX3_recordState_9 : decode cX3_recordState 9 = .ok (.getfield 16, 3) := by decide +kernel
theorem dX3_recordState_12 : decode cX3_recordState 12 = .ok (.iconst 0, 1) := by decide +kernel
theorem dX3_recordState_13 : decode cX3_recordState 13 = .ok (.aaload, 1) := by decide +kernel
theorem dX3_recordState_14 : decode cX3_recordState 14 = .ok (.astore_n 1, 1) := by decide +kernel
theorem dX3_recordState_15 : decode cX3_recordState 15 = .ok (.iconst 1, 1) := by decide +kernel
theorem dX3_recordState_16 : decode cX3_recordState 16 = .ok (.istore_n 2, 1) := by decide +kernel
theorem dX3_recordState_17 : decode cX3_recordState 17 = .ok (.iload_n 2, 1) := by decide +kernel
theorem dX3_recordState_18 : decode cX3_recordState 18 = .ok (.iconst 4, 1) := by decide +kernel
theorem dX3_recordState_19 : decode cX3_recordState 19 = .ok (.if_icmp .ge 23, 3) := by decide +kernel
theorem dX3_recordState_22 : decode cX3_recordState 22 = .ok (.aload_n 0, 1) := by decide +kernel
theorem dX3_recordState_23 : decode cX3_recordState 23 = .ok (.getfield 16, 3) := by decide +kernel
theorem dX3_recordState_26 : decode cX3_recordState 26 = .ok (.iload_n 2, 1) := by decide +kernel
theorem dX3_recordState_27 : decode cX3_recordState 27 = .ok (.iconst 1, 1) := by decide +kernel
theorem dX3_recordState_28 : decode cX3_recordState 28 = .ok (.isub, 1) := by decide +kernel
theorem dX3_recordState_29 : decode cX3_recordState 29 = .ok (.aload_n 0, 1) := by decide +kernel
theorem dX3_recordState_30 : decode cX3_recordState 30 = .ok (.getfield 16, 3) := by decide +kernel
theorem dX3_recordState_33 : decode cX3_recordState 33 = .ok (.iload_n 2, 1) := by decide +kernel
theorem dX3_recordState_34 : decode cX3_recordState 34 = .ok (.aaload, 1) := by decide +kernel
theorem dX3_recordState_35 : decode cX3_recordState 35 = .ok (.aastore, 1) := by decide +kernel
theorem dX3_recordState_36 : decode cX3_recordState 36 = .ok (.iinc 2 1, 3) := by decide +kernel
theorem dX3_recordState_39 : decode cX3_recordState 39 = .ok (.goto (-22), 3) := by decide +kernel
theorem dX3_recordState_42 : decode cX3_recordState 42 = .ok (.aload_n 0, 1) := by decide +kernel
theorem dX3_recordState_43 : decode cX3_recordState 43 = .ok (.getfield 16, 3) := by decide +kernel
theorem dX3_recordState_46 : decode cX3_recordState 46 = .ok (.iconst 3, 1) := by decide +kernel
theorem dX3_recordState_47 : decode cX3_recordState 47 = .ok (.aload_n 1, 1) := by decide +kernel
theorem dX3_recordState_48 : decode cX3_recordState 48 = .ok (.aastore, 1) := by decide +kernel
theorem dX3_recordState_49 : decode cX3_recordState 49 = .ok (.aload_n 0, 1) := by decide +kernel
theorem dX3_recordState_50 : decode cX3_recordState 50 = .ok (.iconst 3, 1) := by decide +kernel
theorem dX3_recordState_51 : decode cX3_recordState 51 = .ok (.putfield 160, 3) := by decide +kernel
theorem dX3_recordState_54 : decode cX3_recordState 54 = .ok (.aload_n 0, 1) := by decide +kernel
theorem dX3_recordState_55 : decode cX3_recordState 55 = .ok (.getfield 16, 3) := by decide +kernel
theorem dX3_recordState_58 : decode cX3_recordState 58 = .ok (.aload_n 0, 1) := by decide +kernel
theorem dX3_recordState_59 : decode cX3_recordState 59 = .ok (.getfield 160, 3) := by decide +kernel
theorem dX3_recordState_62 : decode cX3_recordState 62 = .ok (.aaload, 1) := by decide +kernel
theorem dX3_recordState_63 : decode cX3_recordState 63 = .ok (.aload_n 0, 1) := by decide +kernel
theorem dX3_recordState_64 : decode cX3_recordState 64 = .ok (.getfield 10, 3) := by decide +kernel
theorem dX3_recordState_67 : decode cX3_recordState 67 = .ok (.invokevirtual 166, 3) := by decide +kernel
theorem dX3_recordState_70 : decode cX3_recordState 70 = .ok (.aload_n 0, 1) := by decide +kernel
theorem dX3_recordState_71 : decode cX3_recordState 71 = .ok (.dup, 1) := by decide +kernel
theorem dX3_recordState_72 : decode cX3_recordState 72 = .ok (.getfield 160, 3) := by decide +kernel
theorem dX3_recordState_75 : decode cX3_recordState 75 = .ok (.iconst 1, 1) := by decide +kernel
theorem dX3_recordState_76 : decode cX3_recordState 76 = .ok (.iadd, 1) := by decide +kernel
theorem dX3_recordState_77 : decode cX3_recordState 77 = .ok (.putfield 160, 3) := by decide +kernel
theorem dX3_recordState_80 : decode cX3_recordState 80 = .ok (.return_, 1) := by decide +kernel
theorem dX3_isBelow_0 : decode cX3_isBelow 0 = .ok (.iload_n 0, 1) := by decide +kernel
theorem dX3_isBelow_1 : decode cX3_isBelow 1 = .ok (.ifCond .lt 12, 3) := by decide +kernel
theorem dX3_isBelow_4 : decode cX3_isBelow 4 = .ok (.iload_n 0, 1) := by decide +kernel
theorem dX3_isBelow_5 : decode cX3_isBelow 5 = .ok (.iload_n 1, 1) := by decide +kernel
theorem dX3_isBelow_6 : decode cX3_isBelow 6 = .ok (.if_icmp .ge 7, 3) := by decide +kernel
theorem dX3_isBelow_9 : decode cX3_isBelow 9 = .ok (.iconst 1, 1) := by decide +kernel
theorem dX3_isBelow_10 : decode cX3_isBelow 10 = .ok (.goto 4, 3) := by decide +kernel
theorem dX3_isBelow_13 : decode cX3_isBelow 13 = .ok (.iconst 0, 1) := by decide +kernel
theorem dX3_isBelow_14 : decode cX3_isBelow 14 = .ok (.ireturn, 1) := by decide +kernel
set_option maxRecDepth 20000 in
theorem ggX3_isCell_X3_isBelow : GoodIn wsX3_isCell wsX3_isBelow := goodIn_r _ [4] (by decide +kernel) (by decide +kernel)
set_option maxRecDepth 20000 in
theorem gX3_isCell_X3_isBelow : GoodIn wsX3_isCell (va_wsS RX3 92 yX3_isBelow wsX3_isBelow) := goodIn_app (goodIn_of _ (by decide +kernel)) ggX3_isCell_X3_isBelow
theorem dX3_isCell_0 : decode cX3_isCell 0 = .ok (.iload_n 0, 1) := by decide +kernel
theorem dX3_isCell_1 : decode cX3_isCell 1 = .ok (.iconst 3, 1) := by decide +kernel
theorem dX3_isCell_2 : decode cX3_isCell 2 = .ok (.invokestatic 92, 3) := by decide +kernel
theorem dX3_isCell_5 : decode cX3_isCell 5 = .ok (.ifCond .eq 16, 3) := by decide +kernel
theorem dX3_isCell_8 : decode cX3_isCell 8 = .ok (.iload_n 1, 1) := by decide +kernel
theorem dX3_isCell_9 : decode cX3_isCell 9 = .ok (.bipush 6, 2) := by decide +kernel
theorem dX3_isCell_11 : decode cX3_isCell 11 = .ok (.invokestatic 92, 3) := by decide +kernel
theorem dX3_isCell_14 : decode cX3_isCell 14 = .ok (.ifCond .eq 7, 3) := by decide +kernel
theorem dX3_isCell_17 : decode cX3_isCell 17 = .ok (.iconst 1, 1) := by decide +kernel
theorem dX3_isCell_18 : decode cX3_isCell 18 = .ok (.goto 4, 3) := by decide +kernel
theorem dX3_isCell_21 : decode cX3_isCell 21 = .ok (.iconst 0, 1) := by decide +kernel
theorem dX3_isCell_22 : decode cX3_isCell 22 = .ok (.ireturn, 1) := by decide +kernel
theorem dX3_cellIndex_0 : decode cX3_cellIndex 0 = .ok (.iload_n 0, 1) := by decide +kernel
theorem dX3_cellIndex_1 : decode cX3_cellIndex 1 = .ok (.bipush 6, 2) := by decide +kernel
theorem dX3_cellIndex_3 : decode cX3_cellIndex 3 = .ok (.imul, 1) := by decide +kernel
theorem dX3_cellIndex_4 : decode cX3_cellIndex 4 = .ok (.iload_n 1, 1) := by decide +kernel
theorem dX3_cellIndex_5 : decode cX3_cellIndex 5 = .ok (.iadd, 1) := by decide +kernel
theorem dX3_cellIndex_6 : decode cX3_cellIndex 6 = .ok (.ireturn, 1) := by decide +kernel
theorem dX3_isName_0 : decode cX3_isName 0 = .ok (.iload_n 0, 1) := by decide +kernel
theorem dX3_isName_1 : decode cX3_isName 1 = .ok (.iconst 1, 1) := by decide +kernel
theorem dX3_isName_2 : decode cX3_isName 2 = .ok (.if_icmp .lt 9, 3) := by decide +kernel
theorem dX3_isName_5 : decode cX3_isName 5 = .ok (.iload_n 0, 1) := by decide +kernel
theorem dX3_isName_6 : decode cX3_isName 6 = .ok (.ldc 193, 2) := by decide +kernel
theorem dX3_isName_8 : decode cX3_isName 8 = .ok (.if_icmp .le 5, 3) := by decide +kernel
theorem dX3_isName_11 : decode cX3_isName 11 = .ok (.iconst 0, 1) := by decide +kernel
theorem dX3_isName_12 : decode cX3_isName 12 = .ok (.ireturn, 1) := by decide +kernel
theorem dX3_isName_13 : decode cX3_isName 13 = .ok (.iload_n 0, 1) := by decide +kernel
theorem dX3_isName_14 : decode cX3_isName 14 = .ok (.istore_n 1, 1) := by decide +kernel
theorem dX3_isName_15 : decode cX3_isName 15 = .ok (.iconst 0, 1) := by decide +kernel
theorem dX3_isName_16 : decode cX3_isName 16 = .ok (.istore_n 2, 1) := by decide +kernel
theorem dX3_isName_17 : decode cX3_isName 17 = .ok (.iload_n 2, 1) := by decide +kernel
theorem dX3_isName_18 : decode cX3_isName 18 = .ok (.bipush 6, 2) := by decide +kernel
theorem dX3_isName_20 : decode cX3_isName 20 = .ok (.if_icmp .ge 27, 3) := by decide +kernel
theorem dX3_isName_23 : decode cX3_isName 23 = .ok (.iload_n 1, 1) := by decide +kernel
theorem dX3_isName_24 : decode cX3_isName 24 = .ok (.ifCond .le 23, 3) := by decide +kernel
theorem dX3_isName_27 : decode cX3_isName 27 = .ok (.iload_n 1, 1) := by decide +kernel
theorem dX3_isName_28 : decode cX3_isName 28 = .ok (.bipush 27, 2) := by decide +kernel
theorem dX3_isName_30 : decode cX3_isName 30 = .ok (.irem, 1) := by decide +kernel
theorem dX3_isName_31 : decode cX3_isName 31 = .ok (.ifCond .ne 5, 3) := by decide +kernel
theorem dX3_isName_34 : decode cX3_isName 34 = .ok (.iconst 0, 1) := by decide +kernel
theorem dX3_isName_35 : decode cX3_isName 35 = .ok (.ireturn, 1) := by decide +kernel
theorem dX3_isName_36 : decode cX3_isName 36 = .ok (.iload_n 1, 1) := by decide +kernel
theorem dX3_isName_37 : decode cX3_isName 37 = .ok (.bipush 27, 2) := by decide +kernel
theorem dX3_isName_39 : decode cX3_isName 39 = .ok (.idiv, 1) := by decide +kernel
theorem dX3_isName_40 : decode cX3_isName 40 = .ok (.istore_n 1, 1) := by decide +kernel
theorem dX3_isName_41 : decode cX3_isName 41 = .ok (.iinc 2 1, 3) := by decide +kernel
theorem dX3_isName_44 : decode cX3_isName 44 = .ok (.goto (-27), 3) := by decide +kernel
theorem dX3_isName_47 : decode cX3_isName 47 = .ok (.iconst 1, 1) := by decide +kernel
theorem dX3_isName_48 : decode cX3_isName 48 = .ok (.ireturn, 1) := by decide +kernel
theorem dX3_orderKey_0 : decode cX3_orderKey 0 = .ok (.iload_n 0, 1) := by decide +kernel
theorem dX3_orderKey_1 : decode cX3_orderKey 1 = .ok (.istore_n 1, 1) := by decide +kernel
theorem dX3_orderKey_2 : decode cX3_orderKey 2 = .ok (.iconst 1, 1) := by decide +kernel
theorem dX3_orderKey_3 : decode cX3_orderKey 3 = .ok (.istore_n 2, 1) := by decide +kernel
theorem dX3_orderKey_4 : decode cX3_orderKey 4 = .ok (.iload_n 2, 1) := by decide +kernel
theorem dX3_orderKey_5 : decode cX3_orderKey 5 = .ok (.bipush 6, 2) := by decide +kernel
theorem dX3_orderKey_7 : decode cX3_orderKey 7 = .ok (.if_icmp .ge 20, 3) := by decide +kernel
theorem dX3_orderKey_10 : decode cX3_orderKey 10 = .ok (.iload_n 1, 1) := by decide +kernel
theorem dX3_orderKey_11 : decode cX3_orderKey 11 = .ok (.ldc 194, 2) := by decide +kernel
theorem dX3_orderKey_13 : decode cX3_orderKey 13 = .ok (.if_icmp .ge 14, 3) := by decide +kernel
theorem dX3_orderKey_16 : decode cX3_orderKey 16 = .ok (.iload_n 1, 1) := by decide +kernel
theorem dX3_orderKey_17 : decode cX3_orderKey 17 = .ok (.bipush 27, 2) := by decide +kernel
theorem dX3_orderKey_19 : decode cX3_orderKey 19 = .ok (.imul, 1) := by decide +kernel
theorem dX3_orderKey_20 : decode cX3_orderKey 20 = .ok (.istore_n 1, 1) := by decide +kernel
theorem dX3_orderKey_21 : decode cX3_orderKey 21 = .ok (.iinc 2 1, 3) := by decide +kernel
theorem dX3_orderKey_24 : decode cX3_orderKey 24 = .ok (.goto (-20), 3) := by decide +kernel
theorem dX3_orderKey_27 : decode cX3_orderKey 27 = .ok (.iload_n 1, 1) := by decide +kernel
theorem dX3_orderKey_28 : decode cX3_orderKey 28 = .ok (.ireturn, 1) := by decide +kernel
theorem dX3_beginsWith_0 : decode cX3_beginsWith 0 = .ok (.iload_n 0, 1) := by decide +kernel
theorem dX3_beginsWith_1 : decode cX3_beginsWith 1 = .ok (.istore_n 2, 1) := by decide +kernel
theorem dX3_beginsWith_2 : decode cX3_beginsWith 2 = .ok (.iconst 1, 1) := by decide +kernel
theorem dX3_beginsWith_3 : decode cX3_beginsWith 3 = .ok (.istore_n 3, 1) := by decide +kernel
theorem dX3_beginsWith_4 : decode cX3_beginsWith 4 = .ok (.iload_n 3, 1) := by decide +kernel
theorem dX3_beginsWith_5 : decode cX3_beginsWith 5 = .ok (.bipush 6, 2) := by decide +kernel
theorem dX3_beginsWith_7 : decode cX3_beginsWith 7 = .ok (.if_icmp .ge 19, 3) := by decide +kernel
theorem dX3_beginsWith_10 : decode cX3_beginsWith 10 = .ok (.iload_n 2, 1) := by decide +kernel
theorem dX3_beginsWith_11 : decode cX3_beginsWith 11 = .ok (.iload_n 1, 1) := by decide +kernel
theorem dX3_beginsWith_12 : decode cX3_beginsWith 12 = .ok (.if_icmp .le 14, 3) := by decide +kernel
theorem dX3_beginsWith_15 : decode cX3_beginsWith 15 = .ok (.iload_n 2, 1) := by decide +kernel
theorem dX3_beginsWith_16 : decode cX3_beginsWith 16 = .ok (.bipush 27, 2) := by decide +kernel
theorem dX3_beginsWith_18 : decode cX3_beginsWith 18 = .ok (.idiv, 1) := by decide +kernel
theorem dX3_beginsWith_19 : decode cX3_beginsWith 19 = .ok (.istore_n 2, 1) := by decide +kernel
theorem dX3_beginsWith_20 : decode cX3_beginsWith 20 = .ok (.iinc 3 1, 3) := by decide +kernel
theorem dX3_beginsWith_23 : decode cX3_beginsWith 23 = .ok (.goto (-19), 3) := by decide +kernel
theorem dX3_beginsWith_26 : decode cX3_beginsWith 26 = .ok (.iload_n 2, 1) := by decide +kernel
theorem dX3_beginsWith_27 : decode cX3_beginsWith 27 = .ok (.iload_n 1, 1) := by decide +kernel
theorem dX3_beginsWith_28 : decode cX3_beginsWith 28 = .ok (.if_icmp .ne 7, 3) := by decide +kernel
theorem dX3_beginsWith_31 : decode cX3_beginsWith 31 = .ok (.iconst 1, 1) := by decide +kernel
theorem dX3_beginsWith_32 : decode cX3_beginsWith 32 = .ok (.goto 4, 3) := by decide +kernel
theorem dX3_beginsWith_35 : decode cX3_beginsWith 35 = .ok (.iconst 0, 1) := by decide +kernel
theorem dX3_beginsWith_36 : decode cX3_beginsWith 36 = .ok (.ireturn, 1) := by decide +kernel
theorem dX4_init_0 : decode cX4_init 0 = .ok (.aload_n 0, 1) := by decide +kernel
theorem dX4_init_1 : decode cX4_init 1 = .ok (.invokespecial 1, 3) := by decide +kernel
theorem dX4_init_4 : decode cX4_init 4 = .ok (.aload_n 0, 1) := by decide +kernel
theorem dX4_init_5 : decode cX4_init 5 = .ok (.sipush 511, 3) := by decide +kernel
theorem dX4_init_8 : decode cX4_init 8 = .ok (.newarray .int, 2) := by decide +kernel
theorem dX4_init_10 : decode cX4_init 10 = .ok (.putfield 7, 3) := by decide +kernel
theorem dX4_init_13 : decode cX4_init 13 = .ok (.aload_n 0, 1) := by decide +kernel
theorem dX4_init_14 : decode cX4_init 14 = .ok (.sipush 2044, 3) := by decide +kernel
theorem dX4_init_17 : decode cX4_init 17 = .ok (.newarray .int, 2) := by decide +kernel
theorem dX4_init_19 : decode cX4_init 19 = .ok (.putfield 13, 3) := by decide +kernel
theorem dX4_init_22 : decode cX4_init 22 = .ok (.aload_n 0, 1) := by decide +kernel
theorem dX4_init_23 : decode cX4_init 23 = .ok (.sipush 511, 3) := by decide +kernel
theorem dX4_init_26 : decode cX4_init 26 = .ok (.newarray .int, 2) := by decide +kernel
theorem dX4_init_28 : decode cX4_init 28 = .ok (.putfield 16, 3) := by decide +kernel
theorem dX4_init_31 : decode cX4_init 31 = .ok (.aload_n 0, 1) := by decide +kernel
theorem dX4_init_32 : decode cX4_init 32 = .ok (.bipush 60, 2) := by decide +kernel
theorem dX4_init_34 : decode cX4_init 34 = .ok (.newarray .int, 2) := by decide +kernel
theorem dX4_init_36 : decode cX4_init 36 = .ok (.putfield 19, 3) := by decide +kernel
theorem dX4_init_39 : decode cX4_init 39 = .ok (.aload_n 0, 1) := by decide +kernel
theorem dX4_init_40 : decode cX4_init 40 = .ok (.bipush 40, 2) := by decide +kernel
theorem dX4_init_42 : decode cX4_init 42 = .ok (.newarray .int, 2) := by decide +kernel
theorem dX4_init_44 : decode cX4_init 44 = .ok (.putfield 22, 3) := by decide +kernel
theorem dX4_init_47 : decode cX4_init 47 = .ok (.aload_n 0, 1) := by decide +kernel
theorem dX4_init_48 : decode cX4_init 48 = .ok (.bipush 80, 2) := by decide +kernel
theorem dX4_init_50 : decode cX4_init 50 = .ok (.newarray .int, 2) := by decide +kernel
theorem dX4_init_52 : decode cX4_init 52 = .ok (.putfield 25, 3) := by decide +kernel
theorem dX4_init_55 : decode cX4_init 55 = .ok (.aload_n 0, 1) := by decide +kernel
theorem dX4_init_56 : decode cX4_init 56 = .ok (.iconst 2, 1) := by decide +kernel
theorem dX4_init_57 : decode cX4_init 57 = .ok (.newarray .int, 2) := by decide +kernel
theorem dX4_init_59 : decode cX4_init 59 = .ok (.putfield 28, 3) := by decide +kernel
theorem dX4_init_62 : decode cX4_init 62 = .ok (.iconst 0, 1) := by decide +kernel
theorem dX4_init_63 : decode cX4_init 63 = .ok (.istore_n 1, 1) := by decide +kernel
theorem dX4_init_64 : decode cX4_init 64 = .ok (.iload_n 1, 1) := by decide +kernel
theorem dX4_init_65 : decode cX4_init 65 = .ok (.bipush 18, 2) := by decide +kernel
theorem dX4_init_67 : decode cX4_init 67 = .ok (.if_icmp .ge 19, 3) := by decide +kernel
theorem dX4_init_70 : decode cX4_init 70 = .ok (.aload_n 0, 1) := by decide +kernel
theorem dX4_init_71 : decode cX4_init 71 = .ok (.getfield 7, 3) := by decide +kernel
theorem dX4_init_74 : decode cX4_init 74 = .ok (.bipush 124, 2) := by decide +kernel
theorem dX4_init_76 : decode cX4_init 76 = .ok (.iload_n 1, 1) := by decide +kernel
theorem dX4_init_77 : decode cX4_init 77 = .ok (.iadd, 1) := by decide +kernel
theorem dX4_init_78 : decode cX4_init 78 = .ok (.iconst (-1), 1) := by decide +kernel
theorem dX4_init_79 : decode cX4_init 79 = .ok (.iastore, 1) := by decide +kernel
theorem dX4_init_80 : decode cX4_init 80 = .ok (.iinc 1 1, 3) := by decide +kernel
theorem dX4_init_83 : decode cX4_init 83 = .ok (.goto (-19), 3) := by decide +kernel
theorem dX4_init_86 : decode cX4_init 86 = .ok (.return_, 1) := by decide +kernel
theorem dX4_within_0 : decode cX4_within 0 = .ok (.iload_n 0, 1) := by decide +kernel
theorem dX4_within_1 : decode cX4_within 1 = .ok (.iload_n 1, 1) := by decide +kernel
theorem dX4_within_2 : decode cX4_within 2 = .ok (.if_icmp .lt 12, 3) := by decide +kernel
theorem dX4_within_5 : decode cX4_within 5 = .ok (.iload_n 0, 1) := by decide +kernel
theorem dX4_within_6 : decode cX4_within 6 = .ok (.iload_n 2, 1) := by decide +kernel
theorem dX4_within_7 : decode cX4_within 7 = .ok (.if_icmp .gt 7, 3) := by decide +kernel
theorem dX4_within_10 : decode cX4_within 10 = .ok (.iconst 1, 1) := by decide +kernel
theorem dX4_within_11 : decode cX4_within 11 = .ok (.goto 4, 3) := by decide +kernel
theorem dX4_within_14 : decode cX4_within 14 = .ok (.iconst 0, 1) := by decide +kernel
theorem dX4_within_15 : decode cX4_within 15 = .ok (.ireturn, 1) := by decide +kernel
theorem dX4_saves_0 : decode cX4_saves 0 = .ok (.aload_n 0, 1) := by decide +kernel
theorem dX4_saves_1 : decode cX4_saves 1 = .ok (.getfield 31, 3) := by decide +kernel
theorem dX4_saves_4 : decode cX4_saves 4 = .ok (.iconst 4, 1) := by decide +kernel
theorem dX4_saves_5 : decode cX4_saves 5 = .ok (.if_icmp .ne 44, 3) := by decide +kernel
theorem dX4_saves_8 : decode cX4_saves 8 = .ok (.iconst 0, 1) := by decide +kernel
theorem dX4_saves_9 : decode cX4_saves 9 = .ok (.istore_n 1, 1) := by decide +kernel
theorem dX4_saves_10 : decode cX4_saves 10 = .ok (.iload_n 1, 1) := by decide +kernel
theorem dX4_saves_11 : decode cX4_saves 11 = .ok (.sipush 1533, 3) := by decide +kernel
theorem dX4_saves_14 : decode cX4_saves 14 = .ok (.if_icmp .ge 25, 3) := by decide +kernel
theorem dX4_saves_17 : decode cX4_saves 17 = .ok (.aload_n 0, 1) := by decide +kernel
theorem dX4_saves_18 : decode cX4_saves 18 = .ok (.getfield 13, 3) := by decide +kernel
theorem dX4_saves_21 : decode cX4_saves 21 = .ok (.iload_n 1, 1) := by decide +kernel
theorem dX4_saves_22 : decode cX4_saves 22 = .ok (.aload_n 0, 1) := by decide +kernel
theorem dX4_saves_23 : decode cX4_saves 23 = .ok (.getfield 13, 3) := by decide +kernel
theorem dX4_saves_26 : decode cX4_saves 26 = .ok (.iload_n 1, 1) := by decide +kernel
theorem dX4_saves_27 : decode cX4_saves 27 = .ok (.sipush 511, 3) := by decide +kernel
theorem dX4_saves_30 : decode cX4_saves 30 = .ok (.iadd, 1) := by decide +kernel
theorem dX4_saves_31 : decode cX4_saves 31 = .ok (.iaload, 1) := by decide +kernel
theorem dX4_saves_32 : decode cX4_saves 32 = .ok (.iastore, 1) := by decide +kernel
theorem dX4_saves_33 : decode cX4_saves 33 = .ok (.iinc 1 1, 3) := by decide +kernel
theorem dX4_saves_36 : decode cX4_saves 36 = .ok (.goto (-26), 3) := by decide +kernel
theorem dX4_saves_39 : decode cX4_saves 39 = .ok (.aload_n 0, 1) := by decide +kernel
theorem dX4_saves_40 : decode cX4_saves 40 = .ok (.dup, 1) := by decide +kernel
theorem dX4_saves_41 : decode cX4_saves 41 = .ok (.getfield 31, 3) := by decide +kernel
theorem dX4_saves_44 : decode cX4_saves 44 = .ok (.iconst 1, 1) := by decide +kernel
theorem dX4_saves_45 : decode cX4_saves 45 = .ok (.isub, 1) := by decide +kernel
theorem dX4_saves_46 : decode cX4_saves 46 = .ok (.putfield 31, 3) := by decide +kernel
theorem dX4_saves_49 : decode cX4_saves 49 = .ok (.iconst 0, 1) := by decide +kernel
theorem dX4_saves_50 : decode cX4_saves 50 = .ok (.istore_n 1, 1) := by decide +kernel
theorem dX4_saves_51 : decode cX4_saves 51 = .ok (.iload_n 1, 1) := by decide +kernel
theorem dX4_saves_52 : decode cX4_saves 52 = .ok (.sipush 511, 3) := by decide +kernel
theorem dX4_saves_55 : decode cX4_saves 55 = .ok (.if_icmp .ge 30, 3) := by decide +kernel
theorem dX4_saves_58 : decode cX4_saves 58 = .ok (.aload_n 0, 1) := by decide +kernel
theorem dX4_saves_59 : decode cX4_saves 59 = .ok (.getfield 13, 3) := by decide +kernel
theorem dX4_saves_62 : decode cX4_saves 62 = .ok (.sipush 511, 3) := by decide +kernel
theorem dX4_saves_65 : decode cX4_saves 65 = .ok (.aload_n 0, 1) := by decide +kernel
theorem dX4_saves_66 : decode cX4_saves 66 = .ok (.getfield 31, 3) := by decide +kernel
theorem dX4_saves_69 : decode cX4_saves 69 = .ok (.imul, 1) := by decide +kernel
theorem dX4_saves_70 : decode cX4_saves 70 = .ok (.iload_n 1, 1) := by decide +kernel
theorem dX4_saves_71 : decode cX4_saves 71 = .ok (.iadd, 1) := by decide +kernel
theorem dX4_saves_72 : decode cX4_saves 72 = .ok (.aload_n 0, 1) := by decide +kernel
theorem dX4_saves_73 : decode cX4_saves 73 = .ok (.getfield 7, 3) := by decide +kernel
theorem dX4_saves_76 : decode cX4_saves 76 = .ok (.iload_n 1, 1) := by decide +kernel
theorem dX4_saves_77 : decode cX4_saves 77 = .ok (.iaload, 1) := by decide +kernel
theorem dX4_saves_78 : decode cX4_saves 78 = .ok (.iastore, 1) := by decide +kernel
theorem dX4_saves_79 : decode cX4_saves 79 = .ok (.iinc 1 1, 3) := by decide +kernel
theorem dX4_saves_82 : decode cX4_saves 82 = .ok (.goto (-31), 3) := by decide +kernel
theorem dX4_saves_85 : decode cX4_saves 85 = .ok (.aload_n 0, 1) := by decide +kernel
theorem dX4_saves_86 : decode cX4_saves 86 = .ok (.dup, 1) := by decide +kernel
theorem dX4_saves_87 : decode cX4_saves 87 = .ok (.getfield 31, 3) := by decide +kernel
theorem dX4_saves_90 : decode cX4_saves 90 = .ok (.iconst 1, 1) := by decide +kernel
theorem dX4_saves_91 : decode cX4_saves 91 = .ok (.iadd, 1) := by decide +kernel
theorem dX4_saves_92 : decode cX4_saves 92 = .ok (.putfield 31, 3) := by decide +kernel
theorem dX4_saves_95 : decode cX4_saves 95 = .ok (.return_, 1) := by decide +kernel
theorem dX4_undo_0 : decode cX4_undo 0 = .ok (.aload_n 0, 1) := by decide +kernel
theorem dX4_undo_1 : decode cX4_undo 1 = .ok (.getfield 31, 3) := by decide +kernel
theorem dX4_undo_4 : decode cX4_undo 4 = .ok (.ifCond .ne 6, 3) := by decide +kernel
theorem dX4_undo_7 : decode cX4_undo 7 = .ok (.ldc 35, 2) := by decide +kernel
theorem dX4_undo_9 : decode cX4_undo 9 = .ok (.ireturn, 1) := by decide +kernel
theorem dX4_undo_10 : decode cX4_undo 10 = .ok (.aload_n 0, 1) := by decide +kernel
theorem dX4_undo_11 : decode cX4_undo 11 = .ok (.dup, 1) := by decide +kernel
theorem dX4_undo_12 : decode cX4_undo 12 = .ok (.getfield 31, 3) := by decide +kernel
theorem dX4_undo_15 : decode cX4_undo 15 = .ok (.iconst 1, 1) := by decide +kernel
theorem dX4_undo_16 : decode cX4_undo 16 = .ok (.isub, 1) := by decide +kernel
theorem dX4_undo_17 : decode cX4_undo 17 = .ok (.putfield 31, 3) := by decide +kernel
theorem dX4_undo_20 : decode cX4_undo 20 = .ok (.iconst 0, 1) := by decide +kernel
theorem dX4_undo_21 : decode cX4_undo 21 = .ok (.istore_n 1, 1) := by decide +kernel
theorem dX4_undo_22 : decode cX4_undo 22 = .ok (.iload_n 1, 1) := by decide +kernel
theorem dX4_undo_23 : decode cX4_undo 23 = .ok (.sipush 511, 3) := by decide +kernel
theorem dX4_undo_26 : decode cX4_undo 26 = .ok (.if_icmp .ge 30, 3) := by decide +kernel
theorem dX4_undo_29 : decode cX4_undo 29 = .ok (.aload_n 0, 1) := by decide +kernel
theorem dX4_undo_30 : decode cX4_undo 30 = .ok (.getfield 7, 3) := by decide +kernel
theorem dX4_undo_33 : decode cX4_undo 33 = .ok (.iload_n 1, 1) := by decide +kernel
theorem dX4_undo_34 : decode cX4_undo 34 = .ok (.aload_n 0, 1) := by decide +kernel
theorem dX4_undo_35 : decode cX4_undo 35 = .ok (.getfield 13, 3) := by decide +kernel
theorem dX4_undo_38 : decode cX4_undo 38 = .ok (.sipush 511, 3) := by decide +kernel
theorem dX4_undo_41 : decode cX4_undo 41 = .ok (.aload_n 0, 1) := by decide +kernel
theorem dX4_undo_42 : decode cX4_undo 42 = .ok (.getfield 31, 3) := by decide +kernel
theorem dX4_undo_45 : decode cX4_undo 45 = .ok (.imul, 1) := by decide +kernel
theorem dX4_undo_46 : decode cX4_undo 46 = .ok (.iload_n 1, 1) := by decide +kernel
theorem dX4_undo_47 : decode cX4_undo 47 = .ok (.iadd, 1) := by decide +kernel
theorem dX4_undo_48 : decode cX4_undo 48 = .ok (.iaload, 1) := by decide +kernel
theorem dX4_undo_49 : decode cX4_undo 49 = .ok (.iastore, 1) := by decide +kernel
theorem dX4_undo_50 : decode cX4_undo 50 = .ok (.iinc 1 1, 3) := by decide +kernel
theorem dX4_undo_53 : decode cX4_undo 53 = .ok (.goto (-31), 3) := by decide +kernel
theorem dX4_undo_56 : decode cX4_undo 56 = .ok (.aload_n 0, 1) := by decide +kernel
theorem dX4_undo_57 : decode cX4_undo 57 = .ok (.getfield 31, 3) := by decide +kernel
theorem dX4_undo_60 : decode cX4_undo 60 = .ok (.ireturn, 1) := by decide +kernel
set_option maxRecDepth 20000 in
theorem ggX4_isName_X4_within : GoodIn wsX4_isName wsX4_within := goodIn_r _ [5] (by decide +kernel) (by decide +kernel)
set_option maxRecDepth 20000 in
theorem gX4_isName_X4_within : GoodIn wsX4_isName (va_wsS RX4 37 yX4_within wsX4_within) := goodIn_app (goodIn_of _ (by decide +kernel)) ggX4_isName_X4_within
theorem dX4_isName_0 : decode cX4_isName 0 = .ok (.iload_n 0, 1) := by decide +kernel
theorem dX4_isName_1 : decode cX4_isName 1 = .ok (.iconst 1, 1) := by decide +kernel
theorem dX4_isName_2 : decode cX4_isName 2 = .ok (.ldc 36, 2) := by decide +kernel
theorem dX4_isName_4 : decode cX4_isName 4 = .ok (.invokestatic 37, 3) := by decide +kernel
theorem dX4_isName_7 : decode cX4_isName 7 = .ok (.istore_n 1, 1) := by decide +kernel
theorem dX4_isName_8 : decode cX4_isName 8 = .ok (.iload_n 0, 1) := by decide +kernel
theorem dX4_isName_9 : decode cX4_isName 9 = .ok (.istore_n 2, 1) := by decide +kernel
theorem dX4_isName_10 : decode cX4_isName 10 = .ok (.iload_n 2, 1) := by decide +kernel
theorem dX4_isName_11 : decode cX4_isName 11 = .ok (.ifCond .le 28, 3) := by decide +kernel
theorem dX4_isName_14 : decode cX4_isName 14 = .ok (.iload_n 1, 1) := by decide +kernel
theorem dX4_isName_15 : decode cX4_isName 15 = .ok (.ifCond .eq 24, 3) := by decide +kernel
theorem dX4_isName_18 : decode cX4_isName 18 = .ok (.iload_n 2, 1) := by decide +kernel
theorem dX4_isName_19 : decode cX4_isName 19 = .ok (.bipush 27, 2) := by decide +kernel
theorem dX4_isName_21 : decode cX4_isName 21 = .ok (.irem, 1) := by decide +kernel
theorem dX4_isName_22 : decode cX4_isName 22 = .ok (.ifCond .le 7, 3) := by decide +kernel
theorem dX4_isName_25 : decode cX4_isName 25 = .ok (.iconst 1, 1) := by decide +kernel
theorem dX4_isName_26 : decode cX4_isName 26 = .ok (.goto 4, 3) := by decide +kernel
theorem dX4_isName_29 : decode cX4_isName 29 = .ok (.iconst 0, 1) := by decide +kernel
theorem dX4_isName_30 : decode cX4_isName 30 = .ok (.istore_n 1, 1) := by decide +kernel
theorem dX4_isName_31 : decode cX4_isName 31 = .ok (.iload_n 2, 1) := by decide +kernel
theorem dX4_isName_32 : decode cX4_isName 32 = .ok (.bipush 27, 2) := by decide +kernel
theorem dX4_isName_34 : decode cX4_isName 34 = .ok (.idiv, 1) := by decide +kernel
theorem dX4_isName_35 : decode cX4_isName 35 = .ok (.istore_n 2, 1) := by decide +kernel
theorem dX4_isName_36 : decode cX4_isName 36 = .ok (.goto (-26), 3) := by decide +kernel
theorem dX4_isName_39 : decode cX4_isName 39 = .ok (.iload_n 1, 1) := by decide +kernel
theorem dX4_isName_40 : decode cX4_isName 40 = .ok (.ireturn, 1) := by decide +kernel
theorem dX4_padded_0 : decode cX4_padded 0 = .ok (.iload_n 0, 1) := by decide +kernel
theorem dX4_padded_1 : decode cX4_padded 1 = .ok (.istore_n 1, 1) := by decide +kernel
theorem dX4_padded_2 : decode cX4_padded 2 = .ok (.iload_n 1, 1) := by decide +kernel
theorem dX4_padded_3 : decode cX4_padded 3 = .ok (.ifCond .le 17, 3) := by decide +kernel
theorem dX4_padded_6 : decode cX4_padded 6 = .ok (.iload_n 1, 1) := by decide +kernel
theorem dX4_padded_7 : decode cX4_padded 7 = .ok (.ldc 41, 2) := by decide +kernel
theorem dX4_padded_9 : decode cX4_padded 9 = .ok (.if_icmp .ge 11, 3) := by decide +kernel
theorem dX4_padded_12 : decode cX4_padded 12 = .ok (.iload_n 1, 1) := by decide +kernel
theorem dX4_padded_13 : decode cX4_padded 13 = .ok (.bipush 27, 2) := by decide +kernel
theorem dX4_padded_15 : decode cX4_padded 15 = .ok (.imul, 1) := by decide +kernel
theorem dX4_padded_16 : decode cX4_padded 16 = .ok (.istore_n 1, 1) := by decide +kernel
theorem dX4_padded_17 : decode cX4_padded 17 = .ok (.goto (-15), 3) := by decide +kernel
theorem dX4_padded_20 : decode cX4_padded 20 = .ok (.iload_n 1, 1) := by decide +kernel
theorem dX4_padded_21 : decode cX4_padded 21 = .ok (.ireturn, 1) := by decide +kernel
theorem dX4_isNamed_0 : decode cX4_isNamed 0 = .ok (.aload_n 0, 1) := by decide +kernel
theorem dX4_isNamed_1 : decode cX4_isNamed 1 = .ok (.getfield 7, 3) := by decide +kernel
theorem dX4_isNamed_4 : decode cX4_isNamed 4 = .ok (.iconst 4, 1) := by decide +kernel
theorem dX4_isNamed_5 : decode cX4_isNamed 5 = .ok (.iload_n 1, 1) := by decide +kernel
theorem dX4_isNamed_6 : decode cX4_isNamed 6 = .ok (.iadd, 1) := by decide +kernel
theorem dX4_isNamed_7 : decode cX4_isNamed 7 = .ok (.iaload, 1) := by decide +kernel
theorem dX4_isNamed_8 : decode cX4_isNamed 8 = .ok (.ifCond .eq 7, 3) := by decide +kernel
theorem dX4_isNamed_11 : decode cX4_isNamed 11 = .ok (.iconst 1, 1) := by decide +kernel
theorem dX4_isNamed_12 : decode cX4_isNamed 12 = .ok (.goto 4, 3) := by decide +kernel
theorem dX4_isNamed_15 : decode cX4_isNamed 15 = .ok (.iconst 0, 1) := by decide +kernel
theorem dX4_isNamed_16 : decode cX4_isNamed 16 = .ok (.ireturn, 1) := by decide +kernel
theorem dX4_numberWith_0 : decode cX4_numberWith 0 = .ok (.iconst 0, 1) := by decide +kernel
theorem dX4_numberWith_1 : decode cX4_numberWith 1 = .ok (.istore_n 2, 1) := by decide +kernel
theorem dX4_numberWith_2 : decode cX4_numberWith 2 = .ok (.iload_n 2, 1) := by decide +kernel
theorem dX4_numberWith_3 : decode cX4_numberWith 3 = .ok (.bipush 40, 2) := by decide +kernel
theorem dX4_numberWith_5 : decode cX4_numberWith 5 = .ok (.if_icmp .ge 23, 3) := by decide +kernel
theorem dX4_numberWith_8 : decode cX4_numberWith 8 = .ok (.aload_n 0, 1) := by decide +kernel
theorem dX4_numberWith_9 : decode cX4_numberWith 9 = .ok (.getfield 7, 3) := by decide +kernel
theorem dX4_numberWith_12 : decode cX4_numberWith 12 = .ok (.iconst 4, 1) := by decide +kernel
theorem dX4_numberWith_13 : decode cX4_numberWith 13 = .ok (.iload_n 2, 1) := by decide +kernel
theorem dX4_numberWith_14 : decode cX4_numberWith 14 = .ok (.iadd, 1) := by decide +kernel
theorem dX4_numberWith_15 : decode cX4_numberWith 15 = .ok (.iaload, 1) := by decide +kernel
theorem dX4_numberWith_16 : decode cX4_numberWith 16 = .ok (.iload_n 1, 1) := by decide +kernel
theorem dX4_numberWith_17 : decode cX4_numberWith 17 = .ok (.if_icmp .ne 5, 3) := by decide +kernel
theorem dX4_numberWith_20 : decode cX4_numberWith 20 = .ok (.iload_n 2, 1) := by decide +kernel
theorem dX4_numberWith_21 : decode cX4_numberWith 21 = .ok (.ireturn, 1) := by decide +kernel
theorem dX4_numberWith_22 : decode cX4_numberWith 22 = .ok (.iinc 2 1, 3) := by decide +kernel
theorem dX4_numberWith_25 : decode cX4_numberWith 25 = .ok (.goto (-23), 3) := by decide +kernel
theorem dX4_numberWith_28 : decode cX4_numberWith 28 = .ok (.iconst (-1), 1) := by decide +kernel
theorem dX4_numberWith_29 : decode cX4_numberWith 29 = .ok (.ireturn, 1) := by decide +kernel
set_option maxRecDepth 20000 in
theorem ggX4_freeNumber_X4_isNamed : GoodIn wsX4_freeNumber wsX4_isNamed := goodIn_r _ [5, 6, 7, 8, 9, 10, 11, 12, 13, 14, 15, 16, 17, 18, 19, 20, 21, 22, 23] (by decide +kernel) (by decide +kernel)
set_option maxRecDepth 20000 in
theorem gX4_freeNumber_X4_isNamed : GoodIn wsX4_freeNumber (wsV RX4 42 RX4 yX4_isNamed wsX4_isNamed) := goodIn_app (goodIn_of _ (by decide +kernel)) ggX4_freeNumber_X4_isNamed
theorem dX4_freeNumber_0 : decode cX4_freeNumber 0 = .ok (.iconst 0, 1) := by decide +kernel
theorem dX4_freeNumber_1 : decode cX4_freeNumber 1 = .ok (.istore_n 1, 1) := by decide +kernel
theorem dX4_freeNumber_2 : decode cX4_freeNumber 2 = .ok (.iload_n 1, 1) := by decide +kernel
theorem dX4_freeNumber_3 : decode cX4_freeNumber 3 = .ok (.bipush 40, 2) := by decide +kernel
theorem dX4_freeNumber_5 : decode cX4_freeNumber 5 = .ok (.if_icmp .ge 19, 3) := by decide +kernel
theorem dX4_freeNumber_8 : decode cX4_freeNumber 8 = .ok (.aload_n 0, 1) := by decide +kernel
theorem dX4_freeNumber_9 : decode cX4_freeNumber 9 = .ok (.iload_n 1, 1) := by decide +kernel
theorem dX4_freeNumber_10 : decode cX4_freeNumber 10 = .ok (.invokevirtual 42, 3) := by decide +kernel
theorem dX4_freeNumber_13 : decode cX4_freeNumber 13 = .ok (.ifCond .ne 5, 3) := by decide +kernel
theorem dX4_freeNumber_16 : decode cX4_freeNumber 16 = .ok (.iload_n 1, 1) := by decide +kernel
theorem dX4_freeNumber_17 : decode cX4_freeNumber 17 = .ok (.ireturn, 1) := by decide +kernel
theorem dX4_freeNumber_18 : decode cX4_freeNumber 18 = .ok (.iinc 1 1, 3) := by decide +kernel
theorem dX4_freeNumber_21 : decode cX4_freeNumber 21 = .ok (.goto (-19), 3) := by decide +kernel
theorem dX4_freeNumber_24 : decode cX4_freeNumber 24 = .ok (.iconst (-1), 1) := by decide +kernel
theorem dX4_freeNumber_25 : decode cX4_freeNumber 25 = .ok (.ireturn, 1) := by decide +kernel
theorem dX4_tagOf_0 : decode cX4_tagOf 0 = .ok (.ldc 46, 2) := by decide +kernel
theorem dX4_tagOf_2 : decode cX4_tagOf 2 = .ok (.aload_n 0, 1) := by decide +kernel
theorem dX4_tagOf_3 : decode cX4_tagOf 3 = .ok (.getfield 7, 3) := by decide +kernel
theorem dX4_tagOf_6 : decode cX4_tagOf 6 = .ok (.iconst 0, 1) := by decide +kernel
theorem dX4_tagOf_7 : decode cX4_tagOf 7 = .ok (.iaload, 1) := by decide +kernel
theorem dX4_tagOf_8 : decode cX4_tagOf 8 = .ok (.imul, 1) := by decide +kernel
theorem dX4_tagOf_9 : decode cX4_tagOf 9 = .ok (.bipush 100, 2) := by decide +kernel
theorem dX4_tagOf_11 : decode cX4_tagOf 11 = .ok (.aload_n 0, 1) := by decide +kernel
theorem dX4_tagOf_12 : decode cX4_tagOf 12 = .ok (.getfield 7, 3) := by decide +kernel
theorem dX4_tagOf_15 : decode cX4_tagOf 15 = .ok (.bipush 84, 2) := by decide +kernel
theorem dX4_tagOf_17 : decode cX4_tagOf 17 = .ok (.iload_n 1, 1) := by decide +kernel
theorem dX4_tagOf_18 : decode cX4_tagOf 18 = .ok (.iadd, 1) := by decide +kernel
theorem dX4_tagOf_19 : decode cX4_tagOf 19 = .ok (.iaload, 1) := by decide +kernel
theorem dX4_tagOf_20 : decode cX4_tagOf 20 = .ok (.imul, 1) := by decide +kernel
theorem dX4_tagOf_21 : decode cX4_tagOf 21 = .ok (.iadd, 1) := by decide +kernel
theorem dX4_tagOf_22 : decode cX4_tagOf 22 = .ok (.iload_n 1, 1) := by decide +kernel
theorem dX4_tagOf_23 : decode cX4_tagOf 23 = .ok (.iadd, 1) := by decide +kernel
theorem dX4_tagOf_24 : decode cX4_tagOf 24 = .ok (.ireturn, 1) := by decide +kernel
theorem dX4_cellsWith_0 : decode cX4_cellsWith 0 = .ok (.iconst 0, 1) := by decide +kernel
theorem dX4_cellsWith_1 : decode cX4_cellsWith 1 = .ok (.istore_n 2, 1) := by decide +kernel
theorem dX4_cellsWith_2 : decode cX4_cellsWith 2 = .ok (.iconst 0, 1) := by decide +kernel
theorem dX4_cellsWith_3 : decode cX4_cellsWith 3 = .ok (.istore_n 3, 1) := by decide +kernel
theorem dX4_cellsWith_4 : decode cX4_cellsWith 4 = .ok (.iload_n 3, 1) := by decide +kernel
theorem dX4_cellsWith_5 : decode cX4_cellsWith 5 = .ok (.bipush 18, 2) := by decide +kernel
theorem dX4_cellsWith_7 : decode cX4_cellsWith 7 = .ok (.if_icmp .ge 30, 3) := by decide +kernel
theorem dX4_cellsWith_10 : decode cX4_cellsWith 10 = .ok (.iload_n 2, 1) := by decide +kernel
theorem dX4_cellsWith_11 : decode cX4_cellsWith 11 = .ok (.aload_n 0, 1) := by decide +kernel
theorem dX4_cellsWith_12 : decode cX4_cellsWith 12 = .ok (.getfield 7, 3) := by decide +kernel
theorem dX4_cellsWith_15 : decode cX4_cellsWith 15 = .ok (.bipush 124, 2) := by decide +kernel
theorem dX4_cellsWith_17 : decode cX4_cellsWith 17 = .ok (.iload_n 3, 1) := by decide +kernel
theorem dX4_cellsWith_18 : decode cX4_cellsWith 18 = .ok (.iadd, 1) := by decide +kernel
theorem dX4_cellsWith_19 : decode cX4_cellsWith 19 = .ok (.iaload, 1) := by decide +kernel
theorem dX4_cellsWith_20 : decode cX4_cellsWith 20 = .ok (.iload_n 1, 1) := by decide +kernel
theorem dX4_cellsWith_21 : decode cX4_cellsWith 21 = .ok (.if_icmp .ne 7, 3) := by decide +kernel
theorem dX4_cellsWith_24 : decode cX4_cellsWith 24 = .ok (.iconst 1, 1) := by decide +kernel
theorem dX4_cellsWith_25 : decode cX4_cellsWith 25 = .ok (.goto 4, 3) := by decide +kernel
theorem dX4_cellsWith_28 : decode cX4_cellsWith 28 = .ok (.iconst 0, 1) := by decide +kernel
theorem dX4_cellsWith_29 : decode cX4_cellsWith 29 = .ok (.iadd, 1) := by decide +kernel
theorem dX4_cellsWith_30 : decode cX4_cellsWith 30 = .ok (.istore_n 2, 1) := by decide +kernel
theorem dX4_cellsWith_31 : decode cX4_cellsWith 31 = .ok (.iinc 3 1, 3) := by decide +kernel
theorem dX4_cellsWith_34 : decode cX4_cellsWith 34 = .ok (.goto (-30), 3) := by decide +kernel
theorem dX4_cellsWith_37 : decode cX4_cellsWith 37 = .ok (.iload_n 2, 1) := by decide +kernel
theorem dX4_cellsWith_38 : decode cX4_cellsWith 38 = .ok (.ireturn, 1) := by decide +kernel
theorem dX4_givesBack_0 : decode cX4_givesBack 0 = .ok (.aload_n 0, 1) := by decide +kernel
theorem dX4_givesBack_1 : decode cX4_givesBack 1 = .ok (.getfield 7, 3) := by decide +kernel
theorem dX4_givesBack_4 : decode cX4_givesBack 4 = .ok (.bipush 44, 2) := by decide +kernel
theorem dX4_givesBack_6 : decode cX4_givesBack 6 = .ok (.iload_n 1, 1) := by decide +kernel
theorem dX4_givesBack_7 : decode cX4_givesBack 7 = .ok (.iadd, 1) := by decide +kernel
theorem dX4_givesBack_8 : decode cX4_givesBack 8 = .ok (.dup2, 1) := by decide +kernel
theorem dX4_givesBack_9 : decode cX4_givesBack 9 = .ok (.iaload, 1) := by decide +kernel
theorem dX4_givesBack_10 : decode cX4_givesBack 10 = .ok (.iconst 1, 1) := by decide +kernel
theorem dX4_givesBack_11 : decode cX4_givesBack 11 = .ok (.isub, 1) := by decide +kernel
theorem dX4_givesBack_12 : decode cX4_givesBack 12 = .ok (.iastore, 1) := by decide +kernel
theorem dX4_givesBack_13 : decode cX4_givesBack 13 = .ok (.aload_n 0, 1) := by decide +kernel
theorem dX4_givesBack_14 : decode cX4_givesBack 14 = .ok (.getfield 7, 3) := by decide +kernel
theorem dX4_givesBack_17 : decode cX4_givesBack 17 = .ok (.bipush 44, 2) := by decide +kernel
theorem dX4_givesBack_19 : decode cX4_givesBack 19 = .ok (.iload_n 1, 1) := by decide +kernel
theorem dX4_givesBack_20 : decode cX4_givesBack 20 = .ok (.iadd, 1) := by decide +kernel
theorem dX4_givesBack_21 : decode cX4_givesBack 21 = .ok (.iaload, 1) := by decide +kernel
theorem dX4_givesBack_22 : decode cX4_givesBack 22 = .ok (.ifCond .ne 35, 3) := by decide +kernel
theorem dX4_givesBack_25 : decode cX4_givesBack 25 = .ok (.aload_n 0, 1) := by decide +kernel
theorem dX4_givesBack_26 : decode cX4_givesBack 26 = .ok (.getfield 7, 3) := by decide +kernel
theorem dX4_givesBack_29 : decode cX4_givesBack 29 = .ok (.iconst 4, 1) := by decide +kernel
theorem dX4_givesBack_30 : decode cX4_givesBack 30 = .ok (.iload_n 1, 1) := by decide +kernel
theorem dX4_givesBack_31 : decode cX4_givesBack 31 = .ok (.iadd, 1) := by decide +kernel
theorem dX4_givesBack_32 : decode cX4_givesBack 32 = .ok (.iconst 0, 1) := by decide +kernel
theorem dX4_givesBack_33 : decode cX4_givesBack 33 = .ok (.iastore, 1) := by decide +kernel
theorem dX4_givesBack_34 : decode cX4_givesBack 34 = .ok (.aload_n 0, 1) := by decide +kernel
theorem dX4_givesBack_35 : decode cX4_givesBack 35 = .ok (.getfield 7, 3) := by decide +kernel
theorem dX4_givesBack_38 : decode cX4_givesBack 38 = .ok (.bipush 84, 2) := by decide +kernel
theorem dX4_givesBack_40 : decode cX4_givesBack 40 = .ok (.iload_n 1, 1) := by decide +kernel
theorem dX4_givesBack_41 : decode cX4_givesBack 41 = .ok (.iadd, 1) := by decide +kernel
theorem dX4_givesBack_42 : decode cX4_givesBack 42 = .ok (.dup2, 1) := by decide +kernel
theorem dX4_givesBack_43 : decode cX4_givesBack 43 = .ok (.iaload, 1) := by decide +kernel
theorem dX4_givesBack_44 : decode cX4_givesBack 44 = .ok (.iconst 1, 1) := by decide +kernel
theorem dX4_givesBack_45 : decode cX4_givesBack 45 = .ok (.iadd, 1) := by decide +kernel
theorem dX4_givesBack_46 : decode cX4_givesBack 46 = .ok (.iastore, 1) := by decide +kernel
theorem dX4_givesBack_47 : decode cX4_givesBack 47 = .ok (.aload_n 0, 1) := by decide +kernel
theorem dX4_givesBack_48 : decode cX4_givesBack 48 = .ok (.getfield 7, 3) := by decide +kernel
theorem dX4_givesBack_51 : decode cX4_givesBack 51 = .ok (.iconst 2, 1) := by decide +kernel
theorem dX4_givesBack_52 : decode cX4_givesBack 52 = .ok (.dup2, 1) := by decide +kernel
theorem dX4_givesBack_53 : decode cX4_givesBack 53 = .ok (.iaload, 1) := by decide +kernel
theorem dX4_givesBack_54 : decode cX4_givesBack 54 = .ok (.iconst 1, 1) := by decide +kernel
theorem dX4_givesBack_55 : decode cX4_givesBack 55 = .ok (.iadd, 1) := by decide +kernel
theorem dX4_givesBack_56 : decode cX4_givesBack 56 = .ok (.iastore, 1) := by decide +kernel
theorem dX4_givesBack_57 : decode cX4_givesBack 57 = .ok (.aload_n 0, 1) := by decide +kernel
theorem dX4_givesBack_58 : decode cX4_givesBack 58 = .ok (.getfield 7, 3) := by decide +kernel
theorem dX4_givesBack_61 : decode cX4_givesBack 61 = .ok (.bipush 44, 2) := by decide +kernel
theorem dX4_givesBack_63 : decode cX4_givesBack 63 = .ok (.iload_n 1, 1) := by decide +kernel
theorem dX4_givesBack_64 : decode cX4_givesBack 64 = .ok (.iadd, 1) := by decide +kernel
theorem dX4_givesBack_65 : decode cX4_givesBack 65 = .ok (.iaload, 1) := by decide +kernel
