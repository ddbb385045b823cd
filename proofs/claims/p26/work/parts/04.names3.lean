theorem dX3_why_8 : decode cX3_why 8 = .ok (.istore_n 2, 1) := by decide +kernel
theorem dX3_why_9 : decode cX3_why 9 = .ok (.iload_n 2, 1) := by decide +kernel
theorem dX3_why_10 : decode cX3_why 10 = .ok (.ifCond .ge 8, 3) := by decide +kernel
theorem dX3_why_13 : decode cX3_why 13 = .ok (.iload_n 2, 1) := by decide +kernel
theorem dX3_why_14 : decode cX3_why 14 = .ok (.ineg, 1) := by decide +kernel
theorem dX3_why_15 : decode cX3_why 15 = .ok (.goto 4, 3) := by decide +kernel
theorem dX3_why_18 : decode cX3_why 18 = .ok (.iconst 0, 1) := by decide +kernel
theorem dX3_why_19 : decode cX3_why 19 = .ok (.ireturn, 1) := by decide +kernel
set_option maxRecDepth 20000 in
theorem ggX3_put_X3_isCell : GoodIn wsX3_put wsX3_isCell := goodIn_r _ [8, 9, 10, 7, 11] (by decide +kernel) (by decide +kernel)
set_option maxRecDepth 20000 in
theorem gX3_put_X3_isCell : GoodIn wsX3_put (va_wsS RX3 74 yX3_isCell wsX3_isCell) := goodIn_app (goodIn_of _ (by decide +kernel)) ggX3_put_X3_isCell
set_option maxRecDepth 20000 in
theorem ggX3_put_X1_standing : GoodIn wsX3_put wsX1_standing := goodIn_r _ [16, 17, 18, 19, 20, 21, 22, 23, 10, 7, 11, 69, 70, 71, 72, 73, 74, 75, 76, 77, 78, 79, 80, 81, 82, 83] (by decide +kernel) (by decide +kernel)
set_option maxRecDepth 20000 in
theorem gX3_put_X1_standing : GoodIn wsX3_put (wsV RX3 53 RX1 yX1_standing wsX1_standing) := goodIn_app (goodIn_of _ (by decide +kernel)) ggX3_put_X1_standing
set_option maxRecDepth 20000 in
theorem ggX3_put_X1_hasRoomForUser : GoodIn wsX3_put wsX1_hasRoomForUser := goodIn_r _ [27, 28, 10, 7, 11, 69, 70, 71, 72, 73, 74, 75, 76, 77, 78, 79, 80, 81, 82, 83] (by decide +kernel) (by decide +kernel)
set_option maxRecDepth 20000 in
theorem gX3_put_X1_hasRoomForUser : GoodIn wsX3_put (wsV RX3 57 RX1 yX1_hasRoomForUser wsX1_hasRoomForUser) := goodIn_app (goodIn_of _ (by decide +kernel)) ggX3_put_X1_hasRoomForUser
set_option maxRecDepth 20000 in
theorem ggX3_put_X3_recordState : GoodIn wsX3_put wsX3_recordState := goodIn_r _ [32, 33, 34, 2, 35, 36, 37, 15, 38, 22, 39, 40, 41, 42, 28, 23, 43, 18, 44, 45, 46, 47, 48, 20, 19, 21, 64, 65, 66, 67, 68, 69, 70, 71, 72, 73, 74, 75, 76, 77, 78, 79, 80, 81, 82, 83] (by decide +kernel) (by decide +kernel)
set_option maxRecDepth 20000 in
theorem gX3_put_X3_recordState : GoodIn wsX3_put (wsV RX3 43 RX3 yX3_recordState wsX3_recordState) := goodIn_app (goodIn_of _ (by decide +kernel)) ggX3_put_X3_recordState
set_option maxRecDepth 20000 in
theorem ggX3_put_X3_cellIndex : GoodIn wsX3_put wsX3_cellIndex := goodIn_r _ [51] (by decide +kernel) (by decide +kernel)
set_option maxRecDepth 20000 in
theorem gX3_put_X3_cellIndex : GoodIn wsX3_put (va_wsS RX3 78 yX3_cellIndex wsX3_cellIndex) := goodIn_app (goodIn_of _ (by decide +kernel)) ggX3_put_X3_cellIndex
set_option maxRecDepth 20000 in
theorem ggX3_put_X1_fillCell : GoodIn wsX3_put wsX1_fillCell := goodIn_r _ [55, 43, 28, 10, 7, 11, 56, 57, 58, 15, 59, 60, 61, 62, 63, 22, 23, 45, 69, 70, 71, 72, 73, 74, 75, 76, 77, 78, 79, 80, 81, 82, 83] (by decide +kernel) (by decide +kernel)
set_option maxRecDepth 20000 in
theorem gX3_put_X1_fillCell : GoodIn wsX3_put (wsV RX3 82 RX1 yX1_fillCell wsX1_fillCell) := goodIn_app (goodIn_of _ (by decide +kernel)) ggX3_put_X1_fillCell
theorem dX3_put_0 : decode cX3_put 0 = .ok (.iload_n 1, 1) := by decide +kernel
theorem dX3_put_1 : decode cX3_put 1 = .ok (.iload_n 2, 1) := by decide +kernel
theorem dX3_put_2 : decode cX3_put 2 = .ok (.invokestatic 74, 3) := by decide +kernel
theorem dX3_put_5 : decode cX3_put 5 = .ok (.ifCond .ne 6, 3) := by decide +kernel
theorem dX3_put_8 : decode cX3_put 8 = .ok (.ldc 38, 2) := by decide +kernel
theorem dX3_put_10 : decode cX3_put 10 = .ok (.ireturn, 1) := by decide +kernel
theorem dX3_put_11 : decode cX3_put 11 = .ok (.aload_n 0, 1) := by decide +kernel
theorem dX3_put_12 : decode cX3_put 12 = .ok (.getfield 10, 3) := by decide +kernel
theorem dX3_put_15 : decode cX3_put 15 = .ok (.iload_n 3, 1) := by decide +kernel
theorem dX3_put_16 : decode cX3_put 16 = .ok (.invokevirtual 53, 3) := by decide +kernel
theorem dX3_put_19 : decode cX3_put 19 = .ok (.istore 4, 2) := by decide +kernel
theorem dX3_put_21 : decode cX3_put 21 = .ok (.iload 4, 2) := by decide +kernel
theorem dX3_put_23 : decode cX3_put 23 = .ok (.ifCond .ge 6, 3) := by decide +kernel
theorem dX3_put_26 : decode cX3_put 26 = .ok (.ldc 56, 2) := by decide +kernel
theorem dX3_put_28 : decode cX3_put 28 = .ok (.ireturn, 1) := by decide +kernel
theorem dX3_put_29 : decode cX3_put 29 = .ok (.aload_n 0, 1) := by decide +kernel
theorem dX3_put_30 : decode cX3_put 30 = .ok (.getfield 10, 3) := by decide +kernel
theorem dX3_put_33 : decode cX3_put 33 = .ok (.iload 4, 2) := by decide +kernel
theorem dX3_put_35 : decode cX3_put 35 = .ok (.invokevirtual 57, 3) := by decide +kernel
theorem dX3_put_38 : decode cX3_put 38 = .ok (.ifCond .ne 6, 3) := by decide +kernel
theorem dX3_put_41 : decode cX3_put 41 = .ok (.ldc 42, 2) := by decide +kernel
theorem dX3_put_43 : decode cX3_put 43 = .ok (.ireturn, 1) := by decide +kernel
theorem dX3_put_44 : decode cX3_put 44 = .ok (.aload_n 0, 1) := by decide +kernel
theorem dX3_put_45 : decode cX3_put 45 = .ok (.invokevirtual 43, 3) := by decide +kernel
theorem dX3_put_48 : decode cX3_put 48 = .ok (.aload_n 0, 1) := by decide +kernel
theorem dX3_put_49 : decode cX3_put 49 = .ok (.getfield 10, 3) := by decide +kernel
theorem dX3_put_52 : decode cX3_put 52 = .ok (.iload_n 1, 1) := by decide +kernel
theorem dX3_put_53 : decode cX3_put 53 = .ok (.iload_n 2, 1) := by decide +kernel
theorem dX3_put_54 : decode cX3_put 54 = .ok (.invokestatic 78, 3) := by decide +kernel
theorem dX3_put_57 : decode cX3_put 57 = .ok (.iload 4, 2) := by decide +kernel
theorem dX3_put_59 : decode cX3_put 59 = .ok (.invokevirtual 82, 3) := by decide +kernel
theorem dX3_put_62 : decode cX3_put 62 = .ok (.ireturn, 1) := by decide +kernel
set_option maxRecDepth 20000 in
theorem ggX3_clear_X3_isCell : GoodIn wsX3_clear wsX3_isCell := goodIn_r _ [8, 9, 10, 7, 11] (by decide +kernel) (by decide +kernel)
set_option maxRecDepth 20000 in
theorem gX3_clear_X3_isCell : GoodIn wsX3_clear (va_wsS RX3 74 yX3_isCell wsX3_isCell) := goodIn_app (goodIn_of _ (by decide +kernel)) ggX3_clear_X3_isCell
set_option maxRecDepth 20000 in
theorem ggX3_clear_X3_cellIndex : GoodIn wsX3_clear wsX3_cellIndex := goodIn_r _ [14] (by decide +kernel) (by decide +kernel)
set_option maxRecDepth 20000 in
theorem gX3_clear_X3_cellIndex : GoodIn wsX3_clear (va_wsS RX3 78 yX3_cellIndex wsX3_cellIndex) := goodIn_app (goodIn_of _ (by decide +kernel)) ggX3_clear_X3_cellIndex
set_option maxRecDepth 20000 in
theorem ggX3_clear_X3_recordState : GoodIn wsX3_clear wsX3_recordState := goodIn_r _ [18, 19, 20, 2, 21, 22, 23, 24, 25, 26, 27, 28, 29, 30, 31, 32, 33, 34, 35, 36, 37, 38, 39, 40, 41, 42, 51, 52, 53, 54, 55, 56, 57, 58, 59, 60, 61, 62, 63, 64, 65, 66, 67, 68, 69, 70] (by decide +kernel) (by decide +kernel)
set_option maxRecDepth 20000 in
theorem gX3_clear_X3_recordState : GoodIn wsX3_clear (wsV RX3 43 RX3 yX3_recordState wsX3_recordState) := goodIn_app (goodIn_of _ (by decide +kernel)) ggX3_clear_X3_recordState
set_option maxRecDepth 20000 in
theorem ggX3_clear_X1_emptyCell : GoodIn wsX3_clear wsX1_emptyCell := goodIn_r _ [46, 33, 10, 7, 11, 47, 48, 49, 24, 50, 31, 26, 32, 36, 56, 57, 58, 59, 60, 61, 62, 63, 64, 65, 66, 67, 68, 69, 70] (by decide +kernel) (by decide +kernel)
set_option maxRecDepth 20000 in
theorem gX3_clear_X1_emptyCell : GoodIn wsX3_clear (wsV RX3 88 RX1 yX1_emptyCell wsX1_emptyCell) := goodIn_app (goodIn_of _ (by decide +kernel)) ggX3_clear_X1_emptyCell
theorem dX3_clear_0 : decode cX3_clear 0 = .ok (.iload_n 1, 1) := by decide +kernel
theorem dX3_clear_1 : decode cX3_clear 1 = .ok (.iload_n 2, 1) := by decide +kernel
theorem dX3_clear_2 : decode cX3_clear 2 = .ok (.invokestatic 74, 3) := by decide +kernel
theorem dX3_clear_5 : decode cX3_clear 5 = .ok (.ifCond .ne 6, 3) := by decide +kernel
theorem dX3_clear_8 : decode cX3_clear 8 = .ok (.ldc 38, 2) := by decide +kernel
theorem dX3_clear_10 : decode cX3_clear 10 = .ok (.ireturn, 1) := by decide +kernel
theorem dX3_clear_11 : decode cX3_clear 11 = .ok (.aload_n 0, 1) := by decide +kernel
theorem dX3_clear_12 : decode cX3_clear 12 = .ok (.getfield 10, 3) := by decide +kernel
theorem dX3_clear_15 : decode cX3_clear 15 = .ok (.getfield 85, 3) := by decide +kernel
theorem dX3_clear_18 : decode cX3_clear 18 = .ok (.iload_n 1, 1) := by decide +kernel
theorem dX3_clear_19 : decode cX3_clear 19 = .ok (.iload_n 2, 1) := by decide +kernel
theorem dX3_clear_20 : decode cX3_clear 20 = .ok (.invokestatic 78, 3) := by decide +kernel
theorem dX3_clear_23 : decode cX3_clear 23 = .ok (.iaload, 1) := by decide +kernel
theorem dX3_clear_24 : decode cX3_clear 24 = .ok (.iconst (-1), 1) := by decide +kernel
theorem dX3_clear_25 : decode cX3_clear 25 = .ok (.if_icmp .ne 6, 3) := by decide +kernel
theorem dX3_clear_28 : decode cX3_clear 28 = .ok (.ldc 66, 2) := by decide +kernel
theorem dX3_clear_30 : decode cX3_clear 30 = .ok (.ireturn, 1) := by decide +kernel
theorem dX3_clear_31 : decode cX3_clear 31 = .ok (.aload_n 0, 1) := by decide +kernel
theorem dX3_clear_32 : decode cX3_clear 32 = .ok (.invokevirtual 43, 3) := by decide +kernel
theorem dX3_clear_35 : decode cX3_clear 35 = .ok (.aload_n 0, 1) := by decide +kernel
theorem dX3_clear_36 : decode cX3_clear 36 = .ok (.getfield 10, 3) := by decide +kernel
theorem dX3_clear_39 : decode cX3_clear 39 = .ok (.iload_n 1, 1) := by decide +kernel
theorem dX3_clear_40 : decode cX3_clear 40 = .ok (.iload_n 2, 1) := by decide +kernel
theorem dX3_clear_41 : decode cX3_clear 41 = .ok (.invokestatic 78, 3) := by decide +kernel
theorem dX3_clear_44 : decode cX3_clear 44 = .ok (.invokevirtual 88, 3) := by decide +kernel
theorem dX3_clear_47 : decode cX3_clear 47 = .ok (.ireturn, 1) := by decide +kernel
set_option maxRecDepth 20000 in
theorem ggX3_cellOf_X3_isCell : GoodIn wsX3_cellOf wsX3_isCell := goodIn_r _ [8, 9, 10, 7, 11] (by decide +kernel) (by decide +kernel)
set_option maxRecDepth 20000 in
theorem gX3_cellOf_X3_isCell : GoodIn wsX3_cellOf (va_wsS RX3 74 yX3_isCell wsX3_isCell) := goodIn_app (goodIn_of _ (by decide +kernel)) ggX3_cellOf_X3_isCell
set_option maxRecDepth 20000 in
theorem ggX3_cellOf_X3_cellIndex : GoodIn wsX3_cellOf wsX3_cellIndex := goodIn_r _ [14] (by decide +kernel) (by decide +kernel)
set_option maxRecDepth 20000 in
theorem gX3_cellOf_X3_cellIndex : GoodIn wsX3_cellOf (va_wsS RX3 78 yX3_cellIndex wsX3_cellIndex) := goodIn_app (goodIn_of _ (by decide +kernel)) ggX3_cellOf_X3_cellIndex
set_option maxRecDepth 20000 in
theorem ggX3_cellOf_X1_tagOf : GoodIn wsX3_cellOf wsX1_tagOf := goodIn_r _ [19, 20, 21, 22, 10, 7, 11, 23, 24, 18, 25, 26, 32, 33, 34, 35, 36, 37, 38, 39, 40, 41, 42, 43, 44, 45, 46] (by decide +kernel) (by decide +kernel)
set_option maxRecDepth 20000 in
theorem gX3_cellOf_X1_tagOf : GoodIn wsX3_cellOf (wsV RX3 50 RX1 yX1_tagOf wsX1_tagOf) := goodIn_app (goodIn_of _ (by decide +kernel)) ggX3_cellOf_X1_tagOf
theorem dX3_cellOf_0 : decode cX3_cellOf 0 = .ok (.iload_n 1, 1) := by decide +kernel
theorem dX3_cellOf_1 : decode cX3_cellOf 1 = .ok (.iload_n 2, 1) := by decide +kernel
theorem dX3_cellOf_2 : decode cX3_cellOf 2 = .ok (.invokestatic 74, 3) := by decide +kernel
theorem dX3_cellOf_5 : decode cX3_cellOf 5 = .ok (.ifCond .ne 6, 3) := by decide +kernel
theorem dX3_cellOf_8 : decode cX3_cellOf 8 = .ok (.ldc 38, 2) := by decide +kernel
theorem dX3_cellOf_10 : decode cX3_cellOf 10 = .ok (.ireturn, 1) := by decide +kernel
theorem dX3_cellOf_11 : decode cX3_cellOf 11 = .ok (.aload_n 0, 1) := by decide +kernel
theorem dX3_cellOf_12 : decode cX3_cellOf 12 = .ok (.getfield 10, 3) := by decide +kernel
theorem dX3_cellOf_15 : decode cX3_cellOf 15 = .ok (.getfield 85, 3) := by decide +kernel
theorem dX3_cellOf_18 : decode cX3_cellOf 18 = .ok (.iload_n 1, 1) := by decide +kernel
theorem dX3_cellOf_19 : decode cX3_cellOf 19 = .ok (.iload_n 2, 1) := by decide +kernel
theorem dX3_cellOf_20 : decode cX3_cellOf 20 = .ok (.invokestatic 78, 3) := by decide +kernel
theorem dX3_cellOf_23 : decode cX3_cellOf 23 = .ok (.iaload, 1) := by decide +kernel
theorem dX3_cellOf_24 : decode cX3_cellOf 24 = .ok (.istore_n 3, 1) := by decide +kernel
theorem dX3_cellOf_25 : decode cX3_cellOf 25 = .ok (.iload_n 3, 1) := by decide +kernel
theorem dX3_cellOf_26 : decode cX3_cellOf 26 = .ok (.iconst (-1), 1) := by decide +kernel
theorem dX3_cellOf_27 : decode cX3_cellOf 27 = .ok (.if_icmp .ne 8, 3) := by decide +kernel
theorem dX3_cellOf_30 : decode cX3_cellOf 30 = .ok (.ldc 91, 2) := by decide +kernel
theorem dX3_cellOf_32 : decode cX3_cellOf 32 = .ok (.goto 11, 3) := by decide +kernel
theorem dX3_cellOf_35 : decode cX3_cellOf 35 = .ok (.aload_n 0, 1) := by decide +kernel
theorem dX3_cellOf_36 : decode cX3_cellOf 36 = .ok (.getfield 10, 3) := by decide +kernel
theorem dX3_cellOf_39 : decode cX3_cellOf 39 = .ok (.iload_n 3, 1) := by decide +kernel
theorem dX3_cellOf_40 : decode cX3_cellOf 40 = .ok (.invokevirtual 50, 3) := by decide +kernel
theorem dX3_cellOf_43 : decode cX3_cellOf 43 = .ok (.ireturn, 1) := by decide +kernel
set_option maxRecDepth 20000 in
theorem ggX3_compact_X3_isBelow : GoodIn wsX3_compact wsX3_isBelow := goodIn_r _ [7] (by decide +kernel) (by decide +kernel)
set_option maxRecDepth 20000 in
theorem gX3_compact_X3_isBelow : GoodIn wsX3_compact (va_wsS RX3 92 yX3_isBelow wsX3_isBelow) := goodIn_app (goodIn_of _ (by decide +kernel)) ggX3_compact_X3_isBelow
set_option maxRecDepth 20000 in
theorem ggX3_compact_X1_hasNextEpoch : GoodIn wsX3_compact wsX1_hasNextEpoch := goodIn_r _ [12, 13, 78, 79, 80, 81, 82, 83, 84, 85, 86, 87, 88, 89, 90, 91, 92] (by decide +kernel) (by decide +kernel)
set_option maxRecDepth 20000 in
theorem gX3_compact_X1_hasNextEpoch : GoodIn wsX3_compact (wsV RX3 95 RX1 yX1_hasNextEpoch wsX1_hasNextEpoch) := goodIn_app (goodIn_of _ (by decide +kernel)) ggX3_compact_X1_hasNextEpoch
set_option maxRecDepth 20000 in
theorem ggX3_compact_X3_recordState : GoodIn wsX3_compact wsX3_recordState := goodIn_r _ [17, 18, 19, 2, 20, 21, 22, 11, 23, 24, 25, 26, 27, 28, 29, 30, 31, 13, 32, 33, 34, 35, 36, 37, 38, 39, 73, 74, 75, 76, 77, 78, 79, 80, 81, 82, 83, 84, 85, 86, 87, 88, 89, 90, 91, 92] (by decide +kernel) (by decide +kernel)
set_option maxRecDepth 20000 in
theorem gX3_compact_X3_recordState : GoodIn wsX3_compact (wsV RX3 43 RX3 yX3_recordState wsX3_recordState) := goodIn_app (goodIn_of _ (by decide +kernel)) ggX3_compact_X3_recordState
set_option maxRecDepth 20000 in
theorem ggX3_compact_X1_giveAnew : GoodIn wsX3_compact wsX1_giveAnew := goodIn_r _ [43, 13, 24, 38, 34, 35, 36, 30, 37, 25, 26, 27, 28, 39, 44, 45, 46, 11, 47, 48, 49, 50, 51, 29, 5, 6, 7, 52, 53, 54, 55, 56, 57, 58, 59, 60, 61, 62, 63, 64, 65, 66, 67, 68, 69, 70, 71, 72, 31, 78, 79, 80, 81, 82, 83, 84, 85, 86, 87, 88, 89, 90, 91, 92] (by decide +kernel) (by decide +kernel)
set_option maxRecDepth 20000 in
theorem gX3_compact_X1_giveAnew : GoodIn wsX3_compact (wsV RX3 99 RX1 yX1_giveAnew wsX1_giveAnew) := goodIn_app (goodIn_of _ (by decide +kernel)) ggX3_compact_X1_giveAnew
theorem dX3_compact_0 : decode cX3_compact 0 = .ok (.iload_n 1, 1) := by decide +kernel
theorem dX3_compact_1 : decode cX3_compact 1 = .ok (.iconst 3, 1) := by decide +kernel
theorem dX3_compact_2 : decode cX3_compact 2 = .ok (.invokestatic 92, 3) := by decide +kernel
theorem dX3_compact_5 : decode cX3_compact 5 = .ok (.ifCond .ne 6, 3) := by decide +kernel
theorem dX3_compact_8 : decode cX3_compact 8 = .ok (.ldc 38, 2) := by decide +kernel
theorem dX3_compact_10 : decode cX3_compact 10 = .ok (.ireturn, 1) := by decide +kernel
theorem dX3_compact_11 : decode cX3_compact 11 = .ok (.aload_n 0, 1) := by decide +kernel
theorem dX3_compact_12 : decode cX3_compact 12 = .ok (.getfield 10, 3) := by decide +kernel
theorem dX3_compact_15 : decode cX3_compact 15 = .ok (.invokevirtual 95, 3) := by decide +kernel
theorem dX3_compact_18 : decode cX3_compact 18 = .ok (.ifCond .ne 6, 3) := by decide +kernel
theorem dX3_compact_21 : decode cX3_compact 21 = .ok (.ldc 42, 2) := by decide +kernel
theorem dX3_compact_23 : decode cX3_compact 23 = .ok (.ireturn, 1) := by decide +kernel
theorem dX3_compact_24 : decode cX3_compact 24 = .ok (.aload_n 0, 1) := by decide +kernel
theorem dX3_compact_25 : decode cX3_compact 25 = .ok (.invokevirtual 43, 3) := by decide +kernel
theorem dX3_compact_28 : decode cX3_compact 28 = .ok (.aload_n 0, 1) := by decide +kernel
theorem dX3_compact_29 : decode cX3_compact 29 = .ok (.getfield 10, 3) := by decide +kernel
theorem dX3_compact_32 : decode cX3_compact 32 = .ok (.iload_n 1, 1) := by decide +kernel
theorem dX3_compact_33 : decode cX3_compact 33 = .ok (.invokevirtual 99, 3) := by decide +kernel
theorem dX3_compact_36 : decode cX3_compact 36 = .ok (.ireturn, 1) := by decide +kernel
set_option maxRecDepth 20000 in
theorem ggX3_numberOf_X3_isBelow : GoodIn wsX3_numberOf wsX3_isBelow := goodIn_r _ [10] (by decide +kernel) (by decide +kernel)
set_option maxRecDepth 20000 in
theorem gX3_numberOf_X3_isBelow : GoodIn wsX3_numberOf (va_wsS RX3 92 yX3_isBelow wsX3_isBelow) := goodIn_app (goodIn_of _ (by decide +kernel)) ggX3_numberOf_X3_isBelow
set_option maxRecDepth 20000 in
theorem ggX3_numberOf_X1_cellsWith : GoodIn wsX3_numberOf wsX1_cellsWith := goodIn_r _ [15, 16, 33, 34, 35, 36, 37, 38, 39, 40, 41, 42, 43, 44, 45, 46, 47] (by decide +kernel) (by decide +kernel)
set_option maxRecDepth 20000 in
theorem gX3_numberOf_X1_cellsWith : GoodIn wsX3_numberOf (wsV RX3 105 RX1 yX1_cellsWith wsX1_cellsWith) := goodIn_app (goodIn_of _ (by decide +kernel)) ggX3_numberOf_X1_cellsWith
set_option maxRecDepth 20000 in
theorem ggX3_numberOf_X1_tagOf : GoodIn wsX3_numberOf wsX1_tagOf := goodIn_r _ [20, 21, 22, 23, 8, 9, 10, 24, 25, 14, 26, 27, 33, 34, 35, 36, 37, 38, 39, 40, 41, 42, 43, 44, 45, 46, 47] (by decide +kernel) (by decide +kernel)
set_option maxRecDepth 20000 in
theorem gX3_numberOf_X1_tagOf : GoodIn wsX3_numberOf (wsV RX3 50 RX1 yX1_tagOf wsX1_tagOf) := goodIn_app (goodIn_of _ (by decide +kernel)) ggX3_numberOf_X1_tagOf
theorem dX3_numberOf_0 : decode cX3_numberOf 0 = .ok (.iload_n 1, 1) := by decide +kernel
theorem dX3_numberOf_1 : decode cX3_numberOf 1 = .ok (.bipush 40, 2) := by decide +kernel
theorem dX3_numberOf_3 : decode cX3_numberOf 3 = .ok (.invokestatic 92, 3) := by decide +kernel
theorem dX3_numberOf_6 : decode cX3_numberOf 6 = .ok (.ifCond .eq 11, 3) := by decide +kernel
theorem dX3_numberOf_9 : decode cX3_numberOf 9 = .ok (.iload_n 2, 1) := by decide +kernel
theorem dX3_numberOf_10 : decode cX3_numberOf 10 = .ok (.iconst 5, 1) := by decide +kernel
theorem dX3_numberOf_11 : decode cX3_numberOf 11 = .ok (.invokestatic 92, 3) := by decide +kernel
theorem dX3_numberOf_14 : decode cX3_numberOf 14 = .ok (.ifCond .ne 6, 3) := by decide +kernel
theorem dX3_numberOf_17 : decode cX3_numberOf 17 = .ok (.ldc 38, 2) := by decide +kernel
theorem dX3_numberOf_19 : decode cX3_numberOf 19 = .ok (.ireturn, 1) := by decide +kernel
theorem dX3_numberOf_20 : decode cX3_numberOf 20 = .ok (.aload_n 0, 1) := by decide +kernel
theorem dX3_numberOf_21 : decode cX3_numberOf 21 = .ok (.getfield 10, 3) := by decide +kernel
theorem dX3_numberOf_24 : decode cX3_numberOf 24 = .ok (.getfield 70, 3) := by decide +kernel
theorem dX3_numberOf_27 : decode cX3_numberOf 27 = .ok (.iload_n 1, 1) := by decide +kernel
theorem dX3_numberOf_28 : decode cX3_numberOf 28 = .ok (.iaload, 1) := by decide +kernel
theorem dX3_numberOf_29 : decode cX3_numberOf 29 = .ok (.ifCond .eq 7, 3) := by decide +kernel
theorem dX3_numberOf_32 : decode cX3_numberOf 32 = .ok (.iconst 1, 1) := by decide +kernel
theorem dX3_numberOf_33 : decode cX3_numberOf 33 = .ok (.goto 4, 3) := by decide +kernel
theorem dX3_numberOf_36 : decode cX3_numberOf 36 = .ok (.iconst 0, 1) := by decide +kernel
theorem dX3_numberOf_37 : decode cX3_numberOf 37 = .ok (.istore_n 3, 1) := by decide +kernel
theorem dX3_numberOf_38 : decode cX3_numberOf 38 = .ok (.iload_n 2, 1) := by decide +kernel
theorem dX3_numberOf_39 : decode cX3_numberOf 39 = .ok (.tableswitch 77 0 3 #[29, 48, 58, 67], 29) := by decide +kernel
theorem dX3_numberOf_68 : decode cX3_numberOf 68 = .ok (.iload_n 3, 1) := by decide +kernel
theorem dX3_numberOf_69 : decode cX3_numberOf 69 = .ok (.ifCond .eq 15, 3) := by decide +kernel
theorem dX3_numberOf_72 : decode cX3_numberOf 72 = .ok (.aload_n 0, 1) := by decide +kernel
theorem dX3_numberOf_73 : decode cX3_numberOf 73 = .ok (.getfield 10, 3) := by decide +kernel
theorem dX3_numberOf_76 : decode cX3_numberOf 76 = .ok (.getfield 70, 3) := by decide +kernel
theorem dX3_numberOf_79 : decode cX3_numberOf 79 = .ok (.iload_n 1, 1) := by decide +kernel
theorem dX3_numberOf_80 : decode cX3_numberOf 80 = .ok (.iaload, 1) := by decide +kernel
theorem dX3_numberOf_81 : decode cX3_numberOf 81 = .ok (.goto 5, 3) := by decide +kernel
theorem dX3_numberOf_84 : decode cX3_numberOf 84 = .ok (.ldc 91, 2) := by decide +kernel
theorem dX3_numberOf_86 : decode cX3_numberOf 86 = .ok (.ireturn, 1) := by decide +kernel
theorem dX3_numberOf_87 : decode cX3_numberOf 87 = .ok (.aload_n 0, 1) := by decide +kernel
theorem dX3_numberOf_88 : decode cX3_numberOf 88 = .ok (.getfield 10, 3) := by decide +kernel
theorem dX3_numberOf_91 : decode cX3_numberOf 91 = .ok (.getfield 102, 3) := by decide +kernel
theorem dX3_numberOf_94 : decode cX3_numberOf 94 = .ok (.iload_n 1, 1) := by decide +kernel
theorem dX3_numberOf_95 : decode cX3_numberOf 95 = .ok (.iaload, 1) := by decide +kernel
theorem dX3_numberOf_96 : decode cX3_numberOf 96 = .ok (.ireturn, 1) := by decide +kernel
theorem dX3_numberOf_97 : decode cX3_numberOf 97 = .ok (.aload_n 0, 1) := by decide +kernel
theorem dX3_numberOf_98 : decode cX3_numberOf 98 = .ok (.getfield 10, 3) := by decide +kernel
theorem dX3_numberOf_101 : decode cX3_numberOf 101 = .ok (.iload_n 1, 1) := by decide +kernel
theorem dX3_numberOf_102 : decode cX3_numberOf 102 = .ok (.invokevirtual 105, 3) := by decide +kernel
theorem dX3_numberOf_105 : decode cX3_numberOf 105 = .ok (.ireturn, 1) := by decide +kernel
theorem dX3_numberOf_106 : decode cX3_numberOf 106 = .ok (.aload_n 0, 1) := by decide +kernel
theorem dX3_numberOf_107 : decode cX3_numberOf 107 = .ok (.getfield 10, 3) := by decide +kernel
theorem dX3_numberOf_110 : decode cX3_numberOf 110 = .ok (.getfield 108, 3) := by decide +kernel
theorem dX3_numberOf_113 : decode cX3_numberOf 113 = .ok (.iload_n 1, 1) := by decide +kernel
theorem dX3_numberOf_114 : decode cX3_numberOf 114 = .ok (.iaload, 1) := by decide +kernel
theorem dX3_numberOf_115 : decode cX3_numberOf 115 = .ok (.ireturn, 1) := by decide +kernel
theorem dX3_numberOf_116 : decode cX3_numberOf 116 = .ok (.iload_n 3, 1) := by decide +kernel
theorem dX3_numberOf_117 : decode cX3_numberOf 117 = .ok (.ifCond .eq 14, 3) := by decide +kernel
theorem dX3_numberOf_120 : decode cX3_numberOf 120 = .ok (.aload_n 0, 1) := by decide +kernel
theorem dX3_numberOf_121 : decode cX3_numberOf 121 = .ok (.getfield 10, 3) := by decide +kernel
theorem dX3_numberOf_124 : decode cX3_numberOf 124 = .ok (.iload_n 1, 1) := by decide +kernel
theorem dX3_numberOf_125 : decode cX3_numberOf 125 = .ok (.invokevirtual 50, 3) := by decide +kernel
theorem dX3_numberOf_128 : decode cX3_numberOf 128 = .ok (.goto 5, 3) := by decide +kernel
theorem dX3_numberOf_131 : decode cX3_numberOf 131 = .ok (.ldc 91, 2) := by decide +kernel
theorem dX3_numberOf_133 : decode cX3_numberOf 133 = .ok (.ireturn, 1) := by decide +kernel
set_option maxRecDepth 20000 in
theorem ggX3_find_X3_isName : GoodIn wsX3_find wsX3_isName := goodIn_r _ [7, 8] (by decide +kernel) (by decide +kernel)
set_option maxRecDepth 20000 in
theorem gX3_find_X3_isName : GoodIn wsX3_find (va_wsS RX3 34 yX3_isName wsX3_isName) := goodIn_app (goodIn_of _ (by decide +kernel)) ggX3_find_X3_isName
set_option maxRecDepth 20000 in
theorem ggX3_find_X1_numberWith : GoodIn wsX3_find wsX1_numberWith := goodIn_r _ [13, 14, 20, 21, 22, 23, 24, 25, 26, 27, 28, 29, 30, 31, 32, 33, 34] (by decide +kernel) (by decide +kernel)
set_option maxRecDepth 20000 in
theorem gX3_find_X1_numberWith : GoodIn wsX3_find (wsV RX3 111 RX1 yX1_numberWith wsX1_numberWith) := goodIn_app (goodIn_of _ (by decide +kernel)) ggX3_find_X1_numberWith
theorem dX3_find_0 : decode cX3_find 0 = .ok (.iload_n 1, 1) := by decide +kernel
theorem dX3_find_1 : decode cX3_find 1 = .ok (.invokestatic 34, 3) := by decide +kernel
theorem dX3_find_4 : decode cX3_find 4 = .ok (.ifCond .ne 6, 3) := by decide +kernel
theorem dX3_find_7 : decode cX3_find 7 = .ok (.ldc 38, 2) := by decide +kernel
theorem dX3_find_9 : decode cX3_find 9 = .ok (.ireturn, 1) := by decide +kernel
theorem dX3_find_10 : decode cX3_find 10 = .ok (.aload_n 0, 1) := by decide +kernel
theorem dX3_find_11 : decode cX3_find 11 = .ok (.getfield 10, 3) := by decide +kernel
theorem dX3_find_14 : decode cX3_find 14 = .ok (.iload_n 1, 1) := by decide +kernel
theorem dX3_find_15 : decode cX3_find 15 = .ok (.invokevirtual 111, 3) := by decide +kernel
theorem dX3_find_18 : decode cX3_find 18 = .ok (.istore_n 2, 1) := by decide +kernel
theorem dX3_find_19 : decode cX3_find 19 = .ok (.iload_n 2, 1) := by decide +kernel
theorem dX3_find_20 : decode cX3_find 20 = .ok (.iconst (-1), 1) := by decide +kernel
theorem dX3_find_21 : decode cX3_find 21 = .ok (.if_icmp .ne 8, 3) := by decide +kernel
theorem dX3_find_24 : decode cX3_find 24 = .ok (.ldc 91, 2) := by decide +kernel
theorem dX3_find_26 : decode cX3_find 26 = .ok (.goto 4, 3) := by decide +kernel
theorem dX3_find_29 : decode cX3_find 29 = .ok (.iload_n 2, 1) := by decide +kernel
theorem dX3_find_30 : decode cX3_find 30 = .ok (.ireturn, 1) := by decide +kernel
set_option maxRecDepth 20000 in
theorem ggX3_nameAt_X3_isBelow : GoodIn wsX3_nameAt wsX3_isBelow := goodIn_r _ [8] (by decide +kernel) (by decide +kernel)
set_option maxRecDepth 20000 in
theorem gX3_nameAt_X3_isBelow : GoodIn wsX3_nameAt (va_wsS RX3 92 yX3_isBelow wsX3_isBelow) := goodIn_app (goodIn_of _ (by decide +kernel)) ggX3_nameAt_X3_isBelow
set_option maxRecDepth 20000 in
theorem ggX3_nameAt_X1_placeOf : GoodIn wsX3_nameAt wsX1_placeOf := goodIn_r _ [13, 14, 15, 16, 17, 12, 18, 19, 6, 7, 8, 20, 21, 22, 28, 29, 30, 31, 32, 33, 34, 35, 36, 37, 38, 39, 40, 41, 42] (by decide +kernel) (by decide +kernel)
set_option maxRecDepth 20000 in
theorem gX3_nameAt_X1_placeOf : GoodIn wsX3_nameAt (wsV RX3 114 RX1 yX1_placeOf wsX1_placeOf) := goodIn_app (goodIn_of _ (by decide +kernel)) ggX3_nameAt_X1_placeOf
theorem dX3_nameAt_0 : decode cX3_nameAt 0 = .ok (.iload_n 1, 1) := by decide +kernel
theorem dX3_nameAt_1 : decode cX3_nameAt 1 = .ok (.iconst 3, 1) := by decide +kernel
theorem dX3_nameAt_2 : decode cX3_nameAt 2 = .ok (.invokestatic 92, 3) := by decide +kernel
theorem dX3_nameAt_5 : decode cX3_nameAt 5 = .ok (.ifCond .eq 7, 3) := by decide +kernel
theorem dX3_nameAt_8 : decode cX3_nameAt 8 = .ok (.iload_n 2, 1) := by decide +kernel
theorem dX3_nameAt_9 : decode cX3_nameAt 9 = .ok (.ifCond .ge 6, 3) := by decide +kernel
theorem dX3_nameAt_12 : decode cX3_nameAt 12 = .ok (.ldc 38, 2) := by decide +kernel
theorem dX3_nameAt_14 : decode cX3_nameAt 14 = .ok (.ireturn, 1) := by decide +kernel
theorem dX3_nameAt_15 : decode cX3_nameAt 15 = .ok (.iconst 0, 1) := by decide +kernel
theorem dX3_nameAt_16 : decode cX3_nameAt 16 = .ok (.istore_n 3, 1) := by decide +kernel
theorem dX3_nameAt_17 : decode cX3_nameAt 17 = .ok (.iload_n 3, 1) := by decide +kernel
theorem dX3_nameAt_18 : decode cX3_nameAt 18 = .ok (.bipush 40, 2) := by decide +kernel
theorem dX3_nameAt_20 : decode cX3_nameAt 20 = .ok (.if_icmp .ge 44, 3) := by decide +kernel
theorem dX3_nameAt_23 : decode cX3_nameAt 23 = .ok (.aload_n 0, 1) := by decide +kernel
theorem dX3_nameAt_24 : decode cX3_nameAt 24 = .ok (.getfield 10, 3) := by decide +kernel
theorem dX3_nameAt_27 : decode cX3_nameAt 27 = .ok (.getfield 70, 3) := by decide +kernel
theorem dX3_nameAt_30 : decode cX3_nameAt 30 = .ok (.iload_n 3, 1) := by decide +kernel
theorem dX3_nameAt_31 : decode cX3_nameAt 31 = .ok (.iaload, 1) := by decide +kernel
theorem dX3_nameAt_32 : decode cX3_nameAt 32 = .ok (.ifCond .eq 26, 3) := by decide +kernel
theorem dX3_nameAt_35 : decode cX3_nameAt 35 = .ok (.aload_n 0, 1) := by decide +kernel
theorem dX3_nameAt_36 : decode cX3_nameAt 36 = .ok (.getfield 10, 3) := by decide +kernel
theorem dX3_nameAt_39 : decode cX3_nameAt 39 = .ok (.iload_n 3, 1) := by decide +kernel
theorem dX3_nameAt_40 : decode cX3_nameAt 40 = .ok (.iload_n 1, 1) := by decide +kernel
theorem dX3_nameAt_41 : decode cX3_nameAt 41 = .ok (.invokevirtual 114, 3) := by decide +kernel
theorem dX3_nameAt_44 : decode cX3_nameAt 44 = .ok (.iload_n 2, 1) := by decide +kernel
theorem dX3_nameAt_45 : decode cX3_nameAt 45 = .ok (.if_icmp .ne 13, 3) := by decide +kernel
theorem dX3_nameAt_48 : decode cX3_nameAt 48 = .ok (.aload_n 0, 1) := by decide +kernel
theorem dX3_nameAt_49 : decode cX3_nameAt 49 = .ok (.getfield 10, 3) := by decide +kernel
theorem dX3_nameAt_52 : decode cX3_nameAt 52 = .ok (.getfield 70, 3) := by decide +kernel
theorem dX3_nameAt_55 : decode cX3_nameAt 55 = .ok (.iload_n 3, 1) := by decide +kernel
theorem dX3_nameAt_56 : decode cX3_nameAt 56 = .ok (.iaload, 1) := by decide +kernel
theorem dX3_nameAt_57 : decode cX3_nameAt 57 = .ok (.ireturn, 1) := by decide +kernel
theorem dX3_nameAt_58 : decode cX3_nameAt 58 = .ok (.iinc 3 1, 3) := by decide +kernel
theorem dX3_nameAt_61 : decode cX3_nameAt 61 = .ok (.goto (-44), 3) := by decide +kernel
theorem dX3_nameAt_64 : decode cX3_nameAt 64 = .ok (.ldc 91, 2) := by decide +kernel
theorem dX3_nameAt_66 : decode cX3_nameAt 66 = .ok (.ireturn, 1) := by decide +kernel
set_option maxRecDepth 20000 in
theorem ggX3_beginning_X3_isName : GoodIn wsX3_beginning wsX3_isName := goodIn_r _ [7, 8] (by decide +kernel) (by decide +kernel)
set_option maxRecDepth 20000 in
theorem gX3_beginning_X3_isName : GoodIn wsX3_beginning (va_wsS RX3 34 yX3_isName wsX3_isName) := goodIn_app (goodIn_of _ (by decide +kernel)) ggX3_beginning_X3_isName
set_option maxRecDepth 20000 in
theorem ggX3_beginning_X3_beginsWith : GoodIn wsX3_beginning wsX3_beginsWith := goodIn_r _ [11] (by decide +kernel) (by decide +kernel)
set_option maxRecDepth 20000 in
theorem gX3_beginning_X3_beginsWith : GoodIn wsX3_beginning (va_wsS RX3 117 yX3_beginsWith wsX3_beginsWith) := goodIn_app (goodIn_of _ (by decide +kernel)) ggX3_beginning_X3_beginsWith
theorem dX3_beginning_0 : decode cX3_beginning 0 = .ok (.iload_n 1, 1) := by decide +kernel
theorem dX3_beginning_1 : decode cX3_beginning 1 = .ok (.invokestatic 34, 3) := by decide +kernel
theorem dX3_beginning_4 : decode cX3_beginning 4 = .ok (.ifCond .ne 6, 3) := by decide +kernel
theorem dX3_beginning_7 : decode cX3_beginning 7 = .ok (.ldc 38, 2) := by decide +kernel
theorem dX3_beginning_9 : decode cX3_beginning 9 = .ok (.ireturn, 1) := by decide +kernel
theorem dX3_beginning_10 : decode cX3_beginning 10 = .ok (.iconst 0, 1) := by decide +kernel
theorem dX3_beginning_11 : decode cX3_beginning 11 = .ok (.istore_n 2, 1) := by decide +kernel
theorem dX3_beginning_12 : decode cX3_beginning 12 = .ok (.iconst 0, 1) := by decide +kernel
theorem dX3_beginning_13 : decode cX3_beginning 13 = .ok (.istore_n 3, 1) := by decide +kernel
theorem dX3_beginning_14 : decode cX3_beginning 14 = .ok (.iload_n 3, 1) := by decide +kernel
theorem dX3_beginning_15 : decode cX3_beginning 15 = .ok (.bipush 40, 2) := by decide +kernel
theorem dX3_beginning_17 : decode cX3_beginning 17 = .ok (.if_icmp .ge 40, 3) := by decide +kernel
theorem dX3_beginning_20 : decode cX3_beginning 20 = .ok (.aload_n 0, 1) := by decide +kernel
theorem dX3_beginning_21 : decode cX3_beginning 21 = .ok (.getfield 10, 3) := by decide +kernel
theorem dX3_beginning_24 : decode cX3_beginning 24 = .ok (.getfield 70, 3) := by decide +kernel
theorem dX3_beginning_27 : decode cX3_beginning 27 = .ok (.iload_n 3, 1) := by decide +kernel
theorem dX3_beginning_28 : decode cX3_beginning 28 = .ok (.iaload, 1) := by decide +kernel
theorem dX3_beginning_29 : decode cX3_beginning 29 = .ok (.ifCond .eq 22, 3) := by decide +kernel
theorem dX3_beginning_32 : decode cX3_beginning 32 = .ok (.aload_n 0, 1) := by decide +kernel
theorem dX3_beginning_33 : decode cX3_beginning 33 = .ok (.getfield 10, 3) := by decide +kernel
theorem dX3_beginning_36 : decode cX3_beginning 36 = .ok (.getfield 70, 3) := by decide +kernel
theorem dX3_beginning_39 : decode cX3_beginning 39 = .ok (.iload_n 3, 1) := by decide +kernel
theorem dX3_beginning_40 : decode cX3_beginning 40 = .ok (.iaload, 1) := by decide +kernel
theorem dX3_beginning_41 : decode cX3_beginning 41 = .ok (.iload_n 1, 1) := by decide +kernel
theorem dX3_beginning_42 : decode cX3_beginning 42 = .ok (.invokestatic 117, 3) := by decide +kernel
theorem dX3_beginning_45 : decode cX3_beginning 45 = .ok (.ifCond .eq 6, 3) := by decide +kernel
theorem dX3_beginning_48 : decode cX3_beginning 48 = .ok (.iinc 2 1, 3) := by decide +kernel
theorem dX3_beginning_51 : decode cX3_beginning 51 = .ok (.iinc 3 1, 3) := by decide +kernel
theorem dX3_beginning_54 : decode cX3_beginning 54 = .ok (.goto (-40), 3) := by decide +kernel
theorem dX3_beginning_57 : decode cX3_beginning 57 = .ok (.iload_n 2, 1) := by decide +kernel
theorem dX3_beginning_58 : decode cX3_beginning 58 = .ok (.ireturn, 1) := by decide +kernel
set_option maxRecDepth 20000 in
theorem ggX3_behind_X3_isName : GoodIn wsX3_behind wsX3_isName := goodIn_r _ [8, 9] (by decide +kernel) (by decide +kernel)
set_option maxRecDepth 20000 in
theorem gX3_behind_X3_isName : GoodIn wsX3_behind (va_wsS RX3 34 yX3_isName wsX3_isName) := goodIn_app (goodIn_of _ (by decide +kernel)) ggX3_behind_X3_isName
set_option maxRecDepth 20000 in
theorem ggX3_behind_X3_orderKey : GoodIn wsX3_behind wsX3_orderKey := goodIn_r _ [12, 13] (by decide +kernel) (by decide +kernel)
set_option maxRecDepth 20000 in
theorem gX3_behind_X3_orderKey : GoodIn wsX3_behind (va_wsS RX3 120 yX3_orderKey wsX3_orderKey) := goodIn_app (goodIn_of _ (by decide +kernel)) ggX3_behind_X3_orderKey
theorem dX3_behind_0 : decode cX3_behind 0 = .ok (.iload_n 1, 1) := by decide +kernel
theorem dX3_behind_1 : decode cX3_behind 1 = .ok (.invokestatic 34, 3) := by decide +kernel
theorem dX3_behind_4 : decode cX3_behind 4 = .ok (.ifCond .ne 6, 3) := by decide +kernel
theorem dX3_behind_7 : decode cX3_behind 7 = .ok (.ldc 38, 2) := by decide +kernel
theorem dX3_behind_9 : decode cX3_behind 9 = .ok (.ireturn, 1) := by decide +kernel
theorem dX3_behind_10 : decode cX3_behind 10 = .ok (.iload_n 1, 1) := by decide +kernel
theorem dX3_behind_11 : decode cX3_behind 11 = .ok (.invokestatic 120, 3) := by decide +kernel
theorem dX3_behind_14 : decode cX3_behind 14 = .ok (.istore_n 2, 1) := by decide +kernel
theorem dX3_behind_15 : decode cX3_behind 15 = .ok (.iconst 0, 1) := by decide +kernel
theorem dX3_behind_16 : decode cX3_behind 16 = .ok (.istore_n 3, 1) := by decide +kernel
theorem dX3_behind_17 : decode cX3_behind 17 = .ok (.iconst 0, 1) := by decide +kernel
theorem dX3_behind_18 : decode cX3_behind 18 = .ok (.istore 4, 2) := by decide +kernel
theorem dX3_behind_20 : decode cX3_behind 20 = .ok (.iload 4, 2) := by decide +kernel
theorem dX3_behind_22 : decode cX3_behind 22 = .ok (.bipush 40, 2) := by decide +kernel
theorem dX3_behind_24 : decode cX3_behind 24 = .ok (.if_icmp .ge 66, 3) := by decide +kernel
theorem dX3_behind_27 : decode cX3_behind 27 = .ok (.aload_n 0, 1) := by decide +kernel
theorem dX3_behind_28 : decode cX3_behind 28 = .ok (.getfield 10, 3) := by decide +kernel
theorem dX3_behind_31 : decode cX3_behind 31 = .ok (.getfield 70, 3) := by decide +kernel
theorem dX3_behind_34 : decode cX3_behind 34 = .ok (.iload 4, 2) := by decide +kernel
theorem dX3_behind_36 : decode cX3_behind 36 = .ok (.iaload, 1) := by decide +kernel
theorem dX3_behind_37 : decode cX3_behind 37 = .ok (.istore 5, 2) := by decide +kernel
theorem dX3_behind_39 : decode cX3_behind 39 = .ok (.iload 5, 2) := by decide +kernel
theorem dX3_behind_41 : decode cX3_behind 41 = .ok (.ifCond .eq 16, 3) := by decide +kernel
theorem dX3_behind_44 : decode cX3_behind 44 = .ok (.iload 5, 2) := by decide +kernel
theorem dX3_behind_46 : decode cX3_behind 46 = .ok (.invokestatic 120, 3) := by decide +kernel
theorem dX3_behind_49 : decode cX3_behind 49 = .ok (.iload_n 2, 1) := by decide +kernel
theorem dX3_behind_50 : decode cX3_behind 50 = .ok (.if_icmp .le 7, 3) := by decide +kernel
theorem dX3_behind_53 : decode cX3_behind 53 = .ok (.iconst 1, 1) := by decide +kernel
theorem dX3_behind_54 : decode cX3_behind 54 = .ok (.goto 4, 3) := by decide +kernel
theorem dX3_behind_57 : decode cX3_behind 57 = .ok (.iconst 0, 1) := by decide +kernel
theorem dX3_behind_58 : decode cX3_behind 58 = .ok (.istore 6, 2) := by decide +kernel
theorem dX3_behind_60 : decode cX3_behind 60 = .ok (.iload 6, 2) := by decide +kernel
theorem dX3_behind_62 : decode cX3_behind 62 = .ok (.ifCond .eq 22, 3) := by decide +kernel
theorem dX3_behind_65 : decode cX3_behind 65 = .ok (.iload_n 3, 1) := by decide +kernel
theorem dX3_behind_66 : decode cX3_behind 66 = .ok (.ifCond .eq 15, 3) := by decide +kernel
theorem dX3_behind_69 : decode cX3_behind 69 = .ok (.iload 5, 2) := by decide +kernel
theorem dX3_behind_71 : decode cX3_behind 71 = .ok (.invokestatic 120, 3) := by decide +kernel
theorem dX3_behind_74 : decode cX3_behind 74 = .ok (.iload_n 3, 1) := by decide +kernel
theorem dX3_behind_75 : decode cX3_behind 75 = .ok (.invokestatic 120, 3) := by decide +kernel
theorem dX3_behind_78 : decode cX3_behind 78 = .ok (.if_icmp .ge 6, 3) := by decide +kernel
theorem dX3_behind_81 : decode cX3_behind 81 = .ok (.iload 5, 2) := by decide +kernel
theorem dX3_behind_83 : decode cX3_behind 83 = .ok (.istore_n 3, 1) := by decide +kernel
theorem dX3_behind_84 : decode cX3_behind 84 = .ok (.iinc 4 1, 3) := by decide +kernel
theorem dX3_behind_87 : decode cX3_behind 87 = .ok (.goto (-67), 3) := by decide +kernel
theorem dX3_behind_90 : decode cX3_behind 90 = .ok (.iload_n 3, 1) := by decide +kernel
theorem dX3_behind_91 : decode cX3_behind 91 = .ok (.ifCond .ne 8, 3) := by decide +kernel
theorem dX3_behind_94 : decode cX3_behind 94 = .ok (.ldc 91, 2) := by decide +kernel
theorem dX3_behind_96 : decode cX3_behind 96 = .ok (.goto 4, 3) := by decide +kernel
theorem dX3_behind_99 : decode cX3_behind 99 = .ok (.iload_n 3, 1) := by decide +kernel
theorem dX3_behind_100 : decode cX3_behind 100 = .ok (.ireturn, 1) := by decide +kernel
set_option maxRecDepth 20000 in
theorem ggX3_wouldBe_X3_isBelow : GoodIn wsX3_wouldBe wsX3_isBelow := goodIn_r _ [8] (by decide +kernel) (by decide +kernel)
set_option maxRecDepth 20000 in
theorem gX3_wouldBe_X3_isBelow : GoodIn wsX3_wouldBe (va_wsS RX3 92 yX3_isBelow wsX3_isBelow) := goodIn_app (goodIn_of _ (by decide +kernel)) ggX3_wouldBe_X3_isBelow
set_option maxRecDepth 20000 in
theorem ggX3_wouldBe_X1_placeOf : GoodIn wsX3_wouldBe wsX1_placeOf := goodIn_r _ [13, 14, 15, 16, 17, 12, 18, 19, 6, 7, 8, 20, 21, 22, 28, 29, 30, 31, 32, 33, 34, 35, 36, 37, 38, 39, 40, 41, 42] (by decide +kernel) (by decide +kernel)
set_option maxRecDepth 20000 in
theorem gX3_wouldBe_X1_placeOf : GoodIn wsX3_wouldBe (wsV RX3 114 RX1 yX1_placeOf wsX1_placeOf) := goodIn_app (goodIn_of _ (by decide +kernel)) ggX3_wouldBe_X1_placeOf
theorem dX3_wouldBe_0 : decode cX3_wouldBe 0 = .ok (.iload_n 1, 1) := by decide +kernel
theorem dX3_wouldBe_1 : decode cX3_wouldBe 1 = .ok (.bipush 40, 2) := by decide +kernel
theorem dX3_wouldBe_3 : decode cX3_wouldBe 3 = .ok (.invokestatic 92, 3) := by decide +kernel
theorem dX3_wouldBe_6 : decode cX3_wouldBe 6 = .ok (.ifCond .eq 11, 3) := by decide +kernel
theorem dX3_wouldBe_9 : decode cX3_wouldBe 9 = .ok (.iload_n 2, 1) := by decide +kernel
theorem dX3_wouldBe_10 : decode cX3_wouldBe 10 = .ok (.iconst 3, 1) := by decide +kernel
theorem dX3_wouldBe_11 : decode cX3_wouldBe 11 = .ok (.invokestatic 92, 3) := by decide +kernel
theorem dX3_wouldBe_14 : decode cX3_wouldBe 14 = .ok (.ifCond .ne 6, 3) := by decide +kernel
theorem dX3_wouldBe_17 : decode cX3_wouldBe 17 = .ok (.ldc 38, 2) := by decide +kernel
theorem dX3_wouldBe_19 : decode cX3_wouldBe 19 = .ok (.ireturn, 1) := by decide +kernel
theorem dX3_wouldBe_20 : decode cX3_wouldBe 20 = .ok (.aload_n 0, 1) := by decide +kernel
theorem dX3_wouldBe_21 : decode cX3_wouldBe 21 = .ok (.getfield 10, 3) := by decide +kernel
theorem dX3_wouldBe_24 : decode cX3_wouldBe 24 = .ok (.getfield 70, 3) := by decide +kernel
theorem dX3_wouldBe_27 : decode cX3_wouldBe 27 = .ok (.iload_n 1, 1) := by decide +kernel
theorem dX3_wouldBe_28 : decode cX3_wouldBe 28 = .ok (.iaload, 1) := by decide +kernel
theorem dX3_wouldBe_29 : decode cX3_wouldBe 29 = .ok (.ifCond .ne 8, 3) := by decide +kernel
theorem dX3_wouldBe_32 : decode cX3_wouldBe 32 = .ok (.ldc 91, 2) := by decide +kernel
theorem dX3_wouldBe_34 : decode cX3_wouldBe 34 = .ok (.goto 12, 3) := by decide +kernel
theorem dX3_wouldBe_37 : decode cX3_wouldBe 37 = .ok (.aload_n 0, 1) := by decide +kernel
theorem dX3_wouldBe_38 : decode cX3_wouldBe 38 = .ok (.getfield 10, 3) := by decide +kernel
theorem dX3_wouldBe_41 : decode cX3_wouldBe 41 = .ok (.iload_n 1, 1) := by decide +kernel
theorem dX3_wouldBe_42 : decode cX3_wouldBe 42 = .ok (.iload_n 2, 1) := by decide +kernel
theorem dX3_wouldBe_43 : decode cX3_wouldBe 43 = .ok (.invokevirtual 114, 3) := by decide +kernel
theorem dX3_wouldBe_46 : decode cX3_wouldBe 46 = .ok (.ireturn, 1) := by decide +kernel
set_option maxRecDepth 20000 in
theorem ggX3_compaction_X3_isBelow : GoodIn wsX3_compaction wsX3_isBelow := goodIn_r _ [11] (by decide +kernel) (by decide +kernel)
set_option maxRecDepth 20000 in
theorem gX3_compaction_X3_isBelow : GoodIn wsX3_compaction (va_wsS RX3 92 yX3_isBelow wsX3_isBelow) := goodIn_app (goodIn_of _ (by decide +kernel)) ggX3_compaction_X3_isBelow
set_option maxRecDepth 20000 in
theorem ggX3_compaction_X1_stillStanding : GoodIn wsX3_compaction wsX1_stillStanding := goodIn_r _ [16, 17, 18, 19, 20, 15, 21, 22, 23, 24, 25, 26, 27, 28, 29, 30, 9, 10, 11, 36, 37, 38, 39, 40, 41, 42, 43, 44, 45, 46, 47, 48, 49, 50] (by decide +kernel) (by decide +kernel)
set_option maxRecDepth 20000 in
theorem gX3_compaction_X1_stillStanding : GoodIn wsX3_compaction (wsV RX3 136 RX1 yX1_stillStanding wsX1_stillStanding) := goodIn_app (goodIn_of _ (by decide +kernel)) ggX3_compaction_X1_stillStanding
theorem dX3_compaction_0 : decode cX3_compaction 0 = .ok (.iload_n 1, 1) := by decide +kernel
theorem dX3_compaction_1 : decode cX3_compaction 1 = .ok (.iconst 3, 1) := by decide +kernel
theorem dX3_compaction_2 : decode cX3_compaction 2 = .ok (.invokestatic 92, 3) := by decide +kernel
theorem dX3_compaction_5 : decode cX3_compaction 5 = .ok (.ifCond .eq 11, 3) := by decide +kernel
theorem dX3_compaction_8 : decode cX3_compaction 8 = .ok (.iload_n 2, 1) := by decide +kernel
theorem dX3_compaction_9 : decode cX3_compaction 9 = .ok (.iconst 4, 1) := by decide +kernel
theorem dX3_compaction_10 : decode cX3_compaction 10 = .ok (.invokestatic 92, 3) := by decide +kernel
theorem dX3_compaction_13 : decode cX3_compaction 13 = .ok (.ifCond .ne 6, 3) := by decide +kernel
theorem dX3_compaction_16 : decode cX3_compaction 16 = .ok (.ldc 38, 2) := by decide +kernel
theorem dX3_compaction_18 : decode cX3_compaction 18 = .ok (.ireturn, 1) := by decide +kernel
theorem dX3_compaction_19 : decode cX3_compaction 19 = .ok (.iload_n 1, 1) := by decide +kernel
theorem dX3_compaction_20 : decode cX3_compaction 20 = .ok (.aload_n 0, 1) := by decide +kernel
theorem dX3_compaction_21 : decode cX3_compaction 21 = .ok (.getfield 10, 3) := by decide +kernel
theorem dX3_compaction_24 : decode cX3_compaction 24 = .ok (.getfield 123, 3) := by decide +kernel
theorem dX3_compaction_27 : decode cX3_compaction 27 = .ok (.if_icmp .lt 6, 3) := by decide +kernel
theorem dX3_compaction_30 : decode cX3_compaction 30 = .ok (.ldc 91, 2) := by decide +kernel
theorem dX3_compaction_32 : decode cX3_compaction 32 = .ok (.ireturn, 1) := by decide +kernel
theorem dX3_compaction_33 : decode cX3_compaction 33 = .ok (.aload_n 0, 1) := by decide +kernel
theorem dX3_compaction_34 : decode cX3_compaction 34 = .ok (.getfield 10, 3) := by decide +kernel
theorem dX3_compaction_37 : decode cX3_compaction 37 = .ok (.getfield 123, 3) := by decide +kernel
theorem dX3_compaction_40 : decode cX3_compaction 40 = .ok (.iconst 1, 1) := by decide +kernel
theorem dX3_compaction_41 : decode cX3_compaction 41 = .ok (.isub, 1) := by decide +kernel
theorem dX3_compaction_42 : decode cX3_compaction 42 = .ok (.iload_n 1, 1) := by decide +kernel
theorem dX3_compaction_43 : decode cX3_compaction 43 = .ok (.isub, 1) := by decide +kernel
theorem dX3_compaction_44 : decode cX3_compaction 44 = .ok (.istore_n 3, 1) := by decide +kernel
theorem dX3_compaction_45 : decode cX3_compaction 45 = .ok (.iload_n 2, 1) := by decide +kernel
theorem dX3_compaction_46 : decode cX3_compaction 46 = .ok (.tableswitch 62 0 2 #[26, 38, 50], 26) := by decide +kernel
theorem dX3_compaction_72 : decode cX3_compaction 72 = .ok (.aload_n 0, 1) := by decide +kernel
theorem dX3_compaction_73 : decode cX3_compaction 73 = .ok (.getfield 10, 3) := by decide +kernel
theorem dX3_compaction_76 : decode cX3_compaction 76 = .ok (.getfield 127, 3) := by decide +kernel
theorem dX3_compaction_79 : decode cX3_compaction 79 = .ok (.iload_n 3, 1) := by decide +kernel
theorem dX3_compaction_80 : decode cX3_compaction 80 = .ok (.iconst 3, 1) := by decide +kernel
theorem dX3_compaction_81 : decode cX3_compaction 81 = .ok (.irem, 1) := by decide +kernel
theorem dX3_compaction_82 : decode cX3_compaction 82 = .ok (.iaload, 1) := by decide +kernel
theorem dX3_compaction_83 : decode cX3_compaction 83 = .ok (.ireturn, 1) := by decide +kernel
theorem dX3_compaction_84 : decode cX3_compaction 84 = .ok (.aload_n 0, 1) := by decide +kernel
theorem dX3_compaction_85 : decode cX3_compaction 85 = .ok (.getfield 10, 3) := by decide +kernel
theorem dX3_compaction_88 : decode cX3_compaction 88 = .ok (.getfield 130, 3) := by decide +kernel
theorem dX3_compaction_91 : decode cX3_compaction 91 = .ok (.iload_n 3, 1) := by decide +kernel
theorem dX3_compaction_92 : decode cX3_compaction 92 = .ok (.iconst 3, 1) := by decide +kernel
theorem dX3_compaction_93 : decode cX3_compaction 93 = .ok (.irem, 1) := by decide +kernel
theorem dX3_compaction_94 : decode cX3_compaction 94 = .ok (.iaload, 1) := by decide +kernel
theorem dX3_compaction_95 : decode cX3_compaction 95 = .ok (.ireturn, 1) := by decide +kernel
theorem dX3_compaction_96 : decode cX3_compaction 96 = .ok (.aload_n 0, 1) := by decide +kernel
theorem dX3_compaction_97 : decode cX3_compaction 97 = .ok (.getfield 10, 3) := by decide +kernel
theorem dX3_compaction_100 : decode cX3_compaction 100 = .ok (.getfield 133, 3) := by decide +kernel
theorem dX3_compaction_103 : decode cX3_compaction 103 = .ok (.iload_n 3, 1) := by decide +kernel
theorem dX3_compaction_104 : decode cX3_compaction 104 = .ok (.iconst 3, 1) := by decide +kernel
theorem dX3_compaction_105 : decode cX3_compaction 105 = .ok (.irem, 1) := by decide +kernel
theorem dX3_compaction_106 : decode cX3_compaction 106 = .ok (.iaload, 1) := by decide +kernel
theorem dX3_compaction_107 : decode cX3_compaction 107 = .ok (.ireturn, 1) := by decide +kernel
theorem dX3_compaction_108 : decode cX3_compaction 108 = .ok (.aload_n 0, 1) := by decide +kernel
theorem dX3_compaction_109 : decode cX3_compaction 109 = .ok (.getfield 10, 3) := by decide +kernel
theorem dX3_compaction_112 : decode cX3_compaction 112 = .ok (.iload_n 3, 1) := by decide +kernel
theorem dX3_compaction_113 : decode cX3_compaction 113 = .ok (.invokevirtual 136, 3) := by decide +kernel
theorem dX3_compaction_116 : decode cX3_compaction 116 = .ok (.ireturn, 1) := by decide +kernel
set_option maxRecDepth 20000 in
theorem ggX3_count_X1_namesBelow : GoodIn wsX3_count wsX1_namesBelow := goodIn_r _ [18, 19, 39, 40, 41, 42, 43, 44, 45, 46, 47, 48, 49, 50, 51, 52, 53] (by decide +kernel) (by decide +kernel)
set_option maxRecDepth 20000 in
theorem gX3_count_X1_namesBelow : GoodIn wsX3_count (wsV RX3 139 RX1 yX1_namesBelow wsX1_namesBelow) := goodIn_app (goodIn_of _ (by decide +kernel)) ggX3_count_X1_namesBelow
set_option maxRecDepth 20000 in
theorem ggX3_count_X1_usersOfAll : GoodIn wsX3_count wsX1_usersOfAll := goodIn_r _ [23, 24, 39, 40, 41, 42, 43, 44, 45, 46, 47, 48, 49, 50, 51, 52, 53] (by decide +kernel) (by decide +kernel)
set_option maxRecDepth 20000 in
theorem gX3_count_X1_usersOfAll : GoodIn wsX3_count (wsV RX3 142 RX1 yX1_usersOfAll wsX1_usersOfAll) := goodIn_app (goodIn_of _ (by decide +kernel)) ggX3_count_X1_usersOfAll
set_option maxRecDepth 20000 in
theorem ggX3_count_X1_cellsWith : GoodIn wsX3_count wsX1_cellsWith := goodIn_r _ [28, 29, 39, 40, 41, 42, 43, 44, 45, 46, 47, 48, 49, 50, 51, 52, 53] (by decide +kernel) (by decide +kernel)
set_option maxRecDepth 20000 in
theorem gX3_count_X1_cellsWith : GoodIn wsX3_count (wsV RX3 105 RX1 yX1_cellsWith wsX1_cellsWith) := goodIn_app (goodIn_of _ (by decide +kernel)) ggX3_count_X1_cellsWith
set_option maxRecDepth 20000 in
theorem ggX3_count_X1_top : GoodIn wsX3_count wsX1_top := goodIn_r _ [33, 19, 39, 40, 41, 42, 43, 44, 45, 46, 47, 48, 49, 50, 51, 52, 53] (by decide +kernel) (by decide +kernel)
set_option maxRecDepth 20000 in
theorem gX3_count_X1_top : GoodIn wsX3_count (wsV RX3 146 RX1 yX1_top wsX1_top) := goodIn_app (goodIn_of _ (by decide +kernel)) ggX3_count_X1_top
theorem dX3_count_0 : decode cX3_count 0 = .ok (.iload_n 1, 1) := by decide +kernel
theorem dX3_count_1 : decode cX3_count 1 = .ok (.tableswitch 175 0 10 #[59, 69, 77, 95, 103, 111, 134, 142, 150, 162, 167], 59) := by decide +kernel
theorem dX3_count_60 : decode cX3_count 60 = .ok (.aload_n 0, 1) := by decide +kernel
theorem dX3_count_61 : decode cX3_count 61 = .ok (.getfield 10, 3) := by decide +kernel
theorem dX3_count_64 : decode cX3_count 64 = .ok (.bipush 40, 2) := by decide +kernel
theorem dX3_count_66 : decode cX3_count 66 = .ok (.invokevirtual 139, 3) := by decide +kernel
theorem dX3_count_69 : decode cX3_count 69 = .ok (.ireturn, 1) := by decide +kernel
theorem dX3_count_70 : decode cX3_count 70 = .ok (.aload_n 0, 1) := by decide +kernel
theorem dX3_count_71 : decode cX3_count 71 = .ok (.getfield 10, 3) := by decide +kernel
theorem dX3_count_74 : decode cX3_count 74 = .ok (.invokevirtual 142, 3) := by decide +kernel
theorem dX3_count_77 : decode cX3_count 77 = .ok (.ireturn, 1) := by decide +kernel
theorem dX3_count_78 : decode cX3_count 78 = .ok (.aload_n 0, 1) := by decide +kernel
theorem dX3_count_79 : decode cX3_count 79 = .ok (.getfield 10, 3) := by decide +kernel
theorem dX3_count_82 : decode cX3_count 82 = .ok (.getfield 85, 3) := by decide +kernel
theorem dX3_count_85 : decode cX3_count 85 = .ok (.arraylength, 1) := by decide +kernel
theorem dX3_count_86 : decode cX3_count 86 = .ok (.aload_n 0, 1) := by decide +kernel
theorem dX3_count_87 : decode cX3_count 87 = .ok (.getfield 10, 3) := by decide +kernel
theorem dX3_count_90 : decode cX3_count 90 = .ok (.iconst (-1), 1) := by decide +kernel
theorem dX3_count_91 : decode cX3_count 91 = .ok (.invokevirtual 105, 3) := by decide +kernel
theorem dX3_count_94 : decode cX3_count 94 = .ok (.isub, 1) := by decide +kernel
theorem dX3_count_95 : decode cX3_count 95 = .ok (.ireturn, 1) := by decide +kernel
theorem dX3_count_96 : decode cX3_count 96 = .ok (.aload_n 0, 1) := by decide +kernel
theorem dX3_count_97 : decode cX3_count 97 = .ok (.getfield 10, 3) := by decide +kernel
theorem dX3_count_100 : decode cX3_count 100 = .ok (.getfield 123, 3) := by decide +kernel
theorem dX3_count_103 : decode cX3_count 103 = .ok (.ireturn, 1) := by decide +kernel
theorem dX3_count_104 : decode cX3_count 104 = .ok (.aload_n 0, 1) := by decide +kernel
theorem dX3_count_105 : decode cX3_count 105 = .ok (.getfield 10, 3) := by decide +kernel
theorem dX3_count_108 : decode cX3_count 108 = .ok (.invokevirtual 146, 3) := by decide +kernel
theorem dX3_count_111 : decode cX3_count 111 = .ok (.ireturn, 1) := by decide +kernel
theorem dX3_count_112 : decode cX3_count 112 = .ok (.aload_n 0, 1) := by decide +kernel
theorem dX3_count_113 : decode cX3_count 113 = .ok (.getfield 10, 3) := by decide +kernel
theorem dX3_count_116 : decode cX3_count 116 = .ok (.invokevirtual 146, 3) := by decide +kernel
theorem dX3_count_119 : decode cX3_count 119 = .ok (.aload_n 0, 1) := by decide +kernel
theorem dX3_count_120 : decode cX3_count 120 = .ok (.getfield 10, 3) := by decide +kernel
theorem dX3_count_123 : decode cX3_count 123 = .ok (.aload_n 0, 1) := by decide +kernel
theorem dX3_count_124 : decode cX3_count 124 = .ok (.getfield 10, 3) := by decide +kernel
theorem dX3_count_127 : decode cX3_count 127 = .ok (.invokevirtual 146, 3) := by decide +kernel
theorem dX3_count_130 : decode cX3_count 130 = .ok (.invokevirtual 139, 3) := by decide +kernel
theorem dX3_count_133 : decode cX3_count 133 = .ok (.isub, 1) := by decide +kernel
theorem dX3_count_134 : decode cX3_count 134 = .ok (.ireturn, 1) := by decide +kernel
theorem dX3_count_135 : decode cX3_count 135 = .ok (.aload_n 0, 1) := by decide +kernel
theorem dX3_count_136 : decode cX3_count 136 = .ok (.getfield 10, 3) := by decide +kernel
theorem dX3_count_139 : decode cX3_count 139 = .ok (.getfield 149, 3) := by decide +kernel
theorem dX3_count_142 : decode cX3_count 142 = .ok (.ireturn, 1) := by decide +kernel
theorem dX3_count_143 : decode cX3_count 143 = .ok (.aload_n 0, 1) := by decide +kernel
theorem dX3_count_144 : decode cX3_count 144 = .ok (.getfield 10, 3) := by decide +kernel
theorem dX3_count_147 : decode cX3_count 147 = .ok (.getfield 152, 3) := by decide +kernel
theorem dX3_count_150 : decode cX3_count 150 = .ok (.ireturn, 1) := by decide +kernel
theorem dX3_count_151 : decode cX3_count 151 = .ok (.aload_n 0, 1) := by decide +kernel
theorem dX3_count_152 : decode cX3_count 152 = .ok (.getfield 10, 3) := by decide +kernel
theorem dX3_count_155 : decode cX3_count 155 = .ok (.getfield 123, 3) := by decide +kernel
theorem dX3_count_158 : decode cX3_count 158 = .ok (.iconst 3, 1) := by decide +kernel
theorem dX3_count_159 : decode cX3_count 159 = .ok (.invokestatic 155, 3) := by decide +kernel
theorem dX3_count_162 : decode cX3_count 162 = .ok (.ireturn, 1) := by decide +kernel
theorem dX3_count_163 : decode cX3_count 163 = .ok (.aload_n 0, 1) := by decide +kernel
theorem dX3_count_164 : decode cX3_count 164 = .ok (.getfield 160, 3) := by decide +kernel
theorem dX3_count_167 : decode cX3_count 167 = .ok (.ireturn, 1) := by decide +kernel
theorem dX3_count_168 : decode cX3_count 168 = .ok (.aload_n 0, 1) := by decide +kernel
theorem dX3_count_169 : decode cX3_count 169 = .ok (.getfield 23, 3) := by decide +kernel
theorem dX3_count_172 : decode cX3_count 172 = .ok (.getfield 163, 3) := by decide +kernel
theorem dX3_count_175 : decode cX3_count 175 = .ok (.ireturn, 1) := by decide +kernel
theorem dX3_count_176 : decode cX3_count 176 = .ok (.ldc 38, 2) := by decide +kernel
theorem dX3_count_178 : decode cX3_count 178 = .ok (.ireturn, 1) := by decide +kernel
set_option maxRecDepth 20000 in
theorem ggX3_undo_X1_copyFrom : GoodIn wsX3_undo wsX1_copyFrom := goodIn_r _ [9, 10, 11, 12, 13, 14, 15, 16, 17, 18, 19, 20, 21, 22, 23, 24, 25, 26, 32, 33, 34, 35, 36, 37, 38, 39, 40, 41, 42, 43, 44, 45, 46] (by decide +kernel) (by decide +kernel)
set_option maxRecDepth 20000 in
theorem gX3_undo_X1_copyFrom : GoodIn wsX3_undo (wsV RX3 166 RX1 yX1_copyFrom wsX1_copyFrom) := goodIn_app (goodIn_of _ (by decide +kernel)) ggX3_undo_X1_copyFrom
theorem dX3_undo_0 : decode cX3_undo 0 = .ok (.aload_n 0, 1) := by decide +kernel
theorem dX3_undo_1 : decode cX3_undo 1 = .ok (.getfield 160, 3) := by decide +kernel
theorem dX3_undo_4 : decode cX3_undo 4 = .ok (.ifCond .le 11, 3) := by decide +kernel
theorem dX3_undo_7 : decode cX3_undo 7 = .ok (.aload_n 0, 1) := by decide +kernel
theorem dX3_undo_8 : decode cX3_undo 8 = .ok (.getfield 160, 3) := by decide +kernel
theorem dX3_undo_11 : decode cX3_undo 11 = .ok (.iconst 4, 1) := by decide +kernel
theorem dX3_undo_12 : decode cX3_undo 12 = .ok (.if_icmp .le 6, 3) := by decide +kernel
theorem dX3_undo_15 : decode cX3_undo 15 = .ok (.ldc 66, 2) := by decide +kernel
theorem dX3_undo_17 : decode cX3_undo 17 = .ok (.ireturn, 1) := by decide +kernel
theorem dX3_undo_18 : decode cX3_undo 18 = .ok (.aload_n 0, 1) := by decide +kernel
theorem dX3_undo_19 : decode cX3_undo 19 = .ok (.dup, 1) := by decide +kernel
theorem dX3_undo_20 : decode cX3_undo 20 = .ok (.getfield 160, 3) := by decide +kernel
theorem dX3_undo_23 : decode cX3_undo 23 = .ok (.iconst 1, 1) := by decide +kernel
theorem dX3_undo_24 : decode cX3_undo 24 = .ok (.isub, 1) := by decide +kernel
theorem dX3_undo_25 : decode cX3_undo 25 = .ok (.putfield 160, 3) := by decide +kernel
theorem dX3_undo_28 : decode cX3_undo 28 = .ok (.aload_n 0, 1) := by decide +kernel
theorem dX3_undo_29 : decode cX3_undo 29 = .ok (.getfield 10, 3) := by decide +kernel
theorem dX3_undo_32 : decode cX3_undo 32 = .ok (.aload_n 0, 1) := by decide +kernel
theorem dX3_undo_33 : decode cX3_undo 33 = .ok (.getfield 16, 3) := by decide +kernel
theorem dX3_undo_36 : decode cX3_undo 36 = .ok (.aload_n 0, 1) := by decide +kernel
theorem dX3_undo_37 : decode cX3_undo 37 = .ok (.getfield 160, 3) := by decide +kernel
theorem dX3_undo_40 : decode cX3_undo 40 = .ok (.aaload, 1) := by decide +kernel
theorem dX3_undo_41 : decode cX3_undo 41 = .ok (.invokevirtual 166, 3) := by decide +kernel
theorem dX3_undo_44 : decode cX3_undo 44 = .ok (.aload_n 0, 1) := by decide +kernel
theorem dX3_undo_45 : decode cX3_undo 45 = .ok (.getfield 160, 3) := by decide +kernel
theorem dX3_undo_48 : decode cX3_undo 48 = .ok (.ireturn, 1) := by decide +kernel
set_option maxRecDepth 20000 in
theorem ggX3_type_X2_append : GoodIn wsX3_type wsX2_append := goodIn_r _ [9, 10, 11, 12, 13, 14, 20, 21] (by decide +kernel) (by decide +kernel)
set_option maxRecDepth 20000 in
theorem gX3_type_X2_append : GoodIn wsX3_type (wsV RX3 170 RX2 yX2_append wsX2_append) := goodIn_app (goodIn_of _ (by decide +kernel)) ggX3_type_X2_append
theorem dX3_type_0 : decode cX3_type 0 = .ok (.iload_n 1, 1) := by decide +kernel
theorem dX3_type_1 : decode cX3_type 1 = .ok (.bipush 32, 2) := by decide +kernel
theorem dX3_type_3 : decode cX3_type 3 = .ok (.if_icmp .lt 9, 3) := by decide +kernel
theorem dX3_type_6 : decode cX3_type 6 = .ok (.iload_n 1, 1) := by decide +kernel
theorem dX3_type_7 : decode cX3_type 7 = .ok (.bipush 126, 2) := by decide +kernel
theorem dX3_type_9 : decode cX3_type 9 = .ok (.if_icmp .le 6, 3) := by decide +kernel
theorem dX3_type_12 : decode cX3_type 12 = .ok (.ldc 38, 2) := by decide +kernel
theorem dX3_type_14 : decode cX3_type 14 = .ok (.ireturn, 1) := by decide +kernel
theorem dX3_type_15 : decode cX3_type 15 = .ok (.aload_n 0, 1) := by decide +kernel
theorem dX3_type_16 : decode cX3_type 16 = .ok (.getfield 23, 3) := by decide +kernel
theorem dX3_type_19 : decode cX3_type 19 = .ok (.getfield 163, 3) := by decide +kernel
theorem dX3_type_22 : decode cX3_type 22 = .ok (.bipush 60, 2) := by decide +kernel
theorem dX3_type_24 : decode cX3_type 24 = .ok (.if_icmp .lt 6, 3) := by decide +kernel
theorem dX3_type_27 : decode cX3_type 27 = .ok (.ldc 42, 2) := by decide +kernel
theorem dX3_type_29 : decode cX3_type 29 = .ok (.ireturn, 1) := by decide +kernel
theorem dX3_type_30 : decode cX3_type 30 = .ok (.aload_n 0, 1) := by decide +kernel
theorem dX3_type_31 : decode cX3_type 31 = .ok (.getfield 23, 3) := by decide +kernel
theorem dX3_type_34 : decode cX3_type 34 = .ok (.iload_n 1, 1) := by decide +kernel
theorem dX3_type_35 : decode cX3_type 35 = .ok (.i2c, 1) := by decide +kernel
theorem dX3_type_36 : decode cX3_type 36 = .ok (.invokevirtual 170, 3) := by decide +kernel
theorem dX3_type_39 : decode cX3_type 39 = .ok (.ireturn, 1) := by decide +kernel
theorem dX3_clearText_0 : decode cX3_clearText 0 = .ok (.aload_n 0, 1) := by decide +kernel
theorem dX3_clearText_1 : decode cX3_clearText 1 = .ok (.getfield 23, 3) := by decide +kernel
theorem dX3_clearText_4 : decode cX3_clearText 4 = .ok (.getfield 163, 3) := by decide +kernel
theorem dX3_clearText_7 : decode cX3_clearText 7 = .ok (.istore_n 1, 1) := by decide +kernel
theorem dX3_clearText_8 : decode cX3_clearText 8 = .ok (.aload_n 0, 1) := by decide +kernel
theorem dX3_clearText_9 : decode cX3_clearText 9 = .ok (.getfield 23, 3) := by decide +kernel
theorem dX3_clearText_12 : decode cX3_clearText 12 = .ok (.iconst 0, 1) := by decide +kernel
theorem dX3_clearText_13 : decode cX3_clearText 13 = .ok (.putfield 163, 3) := by decide +kernel
theorem dX3_clearText_16 : decode cX3_clearText 16 = .ok (.iload_n 1, 1) := by decide +kernel
theorem dX3_clearText_17 : decode cX3_clearText 17 = .ok (.ireturn, 1) := by decide +kernel
set_option maxRecDepth 20000 in
theorem ggX3_fault_X3_isBelow : GoodIn wsX3_fault wsX3_isBelow := goodIn_r _ [12] (by decide +kernel) (by decide +kernel)
set_option maxRecDepth 20000 in
theorem gX3_fault_X3_isBelow : GoodIn wsX3_fault (va_wsS RX3 92 yX3_isBelow wsX3_isBelow) := goodIn_app (goodIn_of _ (by decide +kernel)) ggX3_fault_X3_isBelow
set_option maxRecDepth 20000 in
theorem ggX3_fault_X0_tryOn : GoodIn wsX3_fault wsX0_tryOn := goodIn_r _ [17, 18, 19, 20, 21, 22, 23, 24, 25, 26, 27, 28, 29, 30, 31, 32, 33, 34, 35, 36, 37, 38, 39, 40, 41, 42, 43, 44, 45, 46, 47, 48, 16, 49, 50, 51, 52, 53, 54, 55, 56, 57, 58, 59, 60, 61, 62, 10, 11, 12, 63, 64, 65, 66, 67, 68, 69, 70, 71, 72, 73, 74, 75, 76, 77, 78, 79, 80, 81, 82, 83, 84, 85, 86, 87, 88, 89, 90, 91, 92, 93, 94, 95, 96, 97, 98, 99, 100, 101, 102, 103, 104, 105, 106, 107, 108, 109, 110, 111, 112, 113, 114, 115, 116, 117, 118, 119, 120, 121, 122, 123, 124, 125, 126, 127, 128, 129, 130, 131, 132, 133, 134, 135, 136, 137, 138, 139, 140, 141, 142, 143, 144, 145, 146, 147, 148, 149, 150, 151, 152, 153, 154, 155, 156, 157, 158, 159, 160, 161, 162, 163, 164, 165, 166, 167, 168, 169, 175, 176, 177, 178, 179, 180, 181, 182, 183, 184, 185, 186, 187, 188, 189, 190, 191, 192, 193, 194, 195, 196, 197, 198, 199, 200, 201, 202, 203] (by decide +kernel) (by decide +kernel)
set_option maxRecDepth 20000 in
theorem gX3_fault_X0_tryOn : GoodIn wsX3_fault (wsV RX3 174 RX0 yX0_tryOn wsX0_tryOn) := goodIn_app (goodIn_of _ (by decide +kernel)) ggX3_fault_X0_tryOn
theorem dX3_fault_0 : decode cX3_fault 0 = .ok (.iload_n 1, 1) := by decide +kernel
theorem dX3_fault_1 : decode cX3_fault 1 = .ok (.iconst 3, 1) := by decide +kernel
theorem dX3_fault_2 : decode cX3_fault 2 = .ok (.invokestatic 92, 3) := by decide +kernel
theorem dX3_fault_5 : decode cX3_fault 5 = .ok (.ifCond .ne 6, 3) := by decide +kernel
theorem dX3_fault_8 : decode cX3_fault 8 = .ok (.ldc 38, 2) := by decide +kernel
theorem dX3_fault_10 : decode cX3_fault 10 = .ok (.ireturn, 1) := by decide +kernel
theorem dX3_fault_11 : decode cX3_fault 11 = .ok (.aload_n 0, 1) := by decide +kernel
theorem dX3_fault_12 : decode cX3_fault 12 = .ok (.getfield 30, 3) := by decide +kernel
theorem dX3_fault_15 : decode cX3_fault 15 = .ok (.aload_n 0, 1) := by decide +kernel
theorem dX3_fault_16 : decode cX3_fault 16 = .ok (.getfield 10, 3) := by decide +kernel
theorem dX3_fault_19 : decode cX3_fault 19 = .ok (.aload_n 0, 1) := by decide +kernel
theorem dX3_fault_20 : decode cX3_fault 20 = .ok (.getfield 23, 3) := by decide +kernel
theorem dX3_fault_23 : decode cX3_fault 23 = .ok (.invokevirtual 174, 3) := by decide +kernel
theorem dX3_fault_26 : decode cX3_fault 26 = .ok (.aload_n 0, 1) := by decide +kernel
theorem dX3_fault_27 : decode cX3_fault 27 = .ok (.getfield 30, 3) := by decide +kernel
theorem dX3_fault_30 : decode cX3_fault 30 = .ok (.getfield 178, 3) := by decide +kernel
theorem dX3_fault_33 : decode cX3_fault 33 = .ok (.ifCond .ne 6, 3) := by decide +kernel
theorem dX3_fault_36 : decode cX3_fault 36 = .ok (.ldc 91, 2) := by decide +kernel
theorem dX3_fault_38 : decode cX3_fault 38 = .ok (.ireturn, 1) := by decide +kernel
theorem dX3_fault_39 : decode cX3_fault 39 = .ok (.iload_n 1, 1) := by decide +kernel
theorem dX3_fault_40 : decode cX3_fault 40 = .ok (.lookupswitch 44 #[(0, 28), (1, 36)], 28) := by decide +kernel
theorem dX3_fault_68 : decode cX3_fault 68 = .ok (.aload_n 0, 1) := by decide +kernel
theorem dX3_fault_69 : decode cX3_fault 69 = .ok (.getfield 30, 3) := by decide +kernel
theorem dX3_fault_72 : decode cX3_fault 72 = .ok (.getfield 181, 3) := by decide +kernel
theorem dX3_fault_75 : decode cX3_fault 75 = .ok (.ireturn, 1) := by decide +kernel
theorem dX3_fault_76 : decode cX3_fault 76 = .ok (.aload_n 0, 1) := by decide +kernel
theorem dX3_fault_77 : decode cX3_fault 77 = .ok (.getfield 30, 3) := by decide +kernel
theorem dX3_fault_80 : decode cX3_fault 80 = .ok (.getfield 178, 3) := by decide +kernel
theorem dX3_fault_83 : decode cX3_fault 83 = .ok (.ireturn, 1) := by decide +kernel
theorem dX3_fault_84 : decode cX3_fault 84 = .ok (.aload_n 0, 1) := by decide +kernel
theorem dX3_fault_85 : decode cX3_fault 85 = .ok (.getfield 30, 3) := by decide +kernel
theorem dX3_fault_88 : decode cX3_fault 88 = .ok (.getfield 178, 3) := by decide +kernel
theorem dX3_fault_91 : decode cX3_fault 91 = .ok (.iconst 3, 1) := by decide +kernel
theorem dX3_fault_92 : decode cX3_fault 92 = .ok (.if_icmp .ne 8, 3) := by decide +kernel
theorem dX3_fault_95 : decode cX3_fault 95 = .ok (.ldc 91, 2) := by decide +kernel
theorem dX3_fault_97 : decode cX3_fault 97 = .ok (.goto 10, 3) := by decide +kernel
theorem dX3_fault_100 : decode cX3_fault 100 = .ok (.aload_n 0, 1) := by decide +kernel
theorem dX3_fault_101 : decode cX3_fault 101 = .ok (.getfield 30, 3) := by decide +kernel
theorem dX3_fault_104 : decode cX3_fault 104 = .ok (.getfield 184, 3) := by decide +kernel
theorem dX3_fault_107 : decode cX3_fault 107 = .ok (.ireturn, 1) := by decide +kernel
set_option maxRecDepth 20000 in
theorem ggX3_play_X0_tryOn : GoodIn wsX3_play wsX0_tryOn := goodIn_r _ [12, 13, 14, 15, 16, 17, 18, 19, 20, 21, 22, 23, 24, 25, 26, 27, 28, 29, 30, 31, 32, 33, 34, 35, 36, 37, 38, 39, 40, 41, 42, 43, 11, 44, 45, 46, 47, 48, 49, 50, 51, 52, 53, 54, 55, 56, 57, 58, 59, 60, 61, 62, 63, 64, 65, 66, 67, 68, 69, 70, 71, 72, 73, 74, 75, 76, 77, 78, 79, 80, 81, 82, 83, 84, 85, 86, 87, 88, 89, 90, 91, 92, 93, 94, 95, 96, 97, 98, 99, 100, 101, 102, 103, 104, 105, 106, 107, 108, 109, 110, 111, 112, 113, 114, 115, 116, 117, 118, 119, 120, 121, 122, 123, 124, 125, 126, 127, 128, 129, 130, 131, 132, 133, 134, 135, 136, 137, 138, 139, 140, 141, 142, 143, 144, 145, 146, 147, 148, 149, 150, 151, 152, 153, 154, 155, 156, 157, 158, 159, 160, 161, 162, 163, 164, 165, 166, 167, 180, 181, 182, 183, 184, 185, 186, 187, 188, 189, 190, 191, 192, 193, 194, 195, 196, 197, 198, 199, 200, 201, 202, 203, 204, 205, 206, 207, 208] (by decide +kernel) (by decide +kernel)
set_option maxRecDepth 20000 in
theorem gX3_play_X0_tryOn : GoodIn wsX3_play (wsV RX3 174 RX0 yX0_tryOn wsX0_tryOn) := goodIn_app (goodIn_of _ (by decide +kernel)) ggX3_play_X0_tryOn
set_option maxRecDepth 20000 in
theorem ggX3_play_X3_recordState : GoodIn wsX3_play wsX3_recordState := goodIn_r _ [171, 172, 173, 2, 174, 20, 21, 22, 23, 24, 25, 26, 27, 28, 29, 30, 31, 32, 33, 34, 35, 36, 37, 38, 39, 40, 175, 176, 177, 178, 179, 194, 195, 196, 197, 198, 199, 200, 201, 202, 203, 204, 205, 206, 207, 208] (by decide +kernel) (by decide +kernel)
set_option maxRecDepth 20000 in
theorem gX3_play_X3_recordState : GoodIn wsX3_play (wsV RX3 43 RX3 yX3_recordState wsX3_recordState) := goodIn_app (goodIn_of _ (by decide +kernel)) ggX3_play_X3_recordState
set_option maxRecDepth 20000 in
theorem ggX3_play_X1_copyFrom : GoodIn wsX3_play wsX1_copyFrom := goodIn_r _ [23, 24, 25, 26, 27, 28, 29, 30, 31, 32, 33, 34, 35, 36, 37, 38, 39, 40, 194, 195, 196, 197, 198, 199, 200, 201, 202, 203, 204, 205, 206, 207, 208] (by decide +kernel) (by decide +kernel)
set_option maxRecDepth 20000 in
theorem gX3_play_X1_copyFrom : GoodIn wsX3_play (wsV RX3 166 RX1 yX1_copyFrom wsX1_copyFrom) := goodIn_app (goodIn_of _ (by decide +kernel)) ggX3_play_X1_copyFrom
theorem dX3_play_0 : decode cX3_play 0 = .ok (.aload_n 0, 1) := by decide +kernel
theorem dX3_play_1 : decode cX3_play 1 = .ok (.getfield 30, 3) := by decide +kernel
theorem dX3_play_4 : decode cX3_play 4 = .ok (.aload_n 0, 1) := by decide +kernel
theorem dX3_play_5 : decode cX3_play 5 = .ok (.getfield 10, 3) := by decide +kernel
theorem dX3_play_8 : decode cX3_play 8 = .ok (.aload_n 0, 1) := by decide +kernel
theorem dX3_play_9 : decode cX3_play 9 = .ok (.getfield 23, 3) := by decide +kernel
theorem dX3_play_12 : decode cX3_play 12 = .ok (.invokevirtual 174, 3) := by decide +kernel
theorem dX3_play_15 : decode cX3_play 15 = .ok (.aload_n 0, 1) := by decide +kernel
theorem dX3_play_16 : decode cX3_play 16 = .ok (.getfield 30, 3) := by decide +kernel
theorem dX3_play_19 : decode cX3_play 19 = .ok (.getfield 178, 3) := by decide +kernel
theorem dX3_play_22 : decode cX3_play 22 = .ok (.ifCond .eq 6, 3) := by decide +kernel
theorem dX3_play_25 : decode cX3_play 25 = .ok (.ldc 66, 2) := by decide +kernel
theorem dX3_play_27 : decode cX3_play 27 = .ok (.ireturn, 1) := by decide +kernel
theorem dX3_play_28 : decode cX3_play 28 = .ok (.aload_n 0, 1) := by decide +kernel
theorem dX3_play_29 : decode cX3_play 29 = .ok (.invokevirtual 43, 3) := by decide +kernel
theorem dX3_play_32 : decode cX3_play 32 = .ok (.aload_n 0, 1) := by decide +kernel
theorem dX3_play_33 : decode cX3_play 33 = .ok (.getfield 10, 3) := by decide +kernel
theorem dX3_play_36 : decode cX3_play 36 = .ok (.aload_n 0, 1) := by decide +kernel
theorem dX3_play_37 : decode cX3_play 37 = .ok (.getfield 30, 3) := by decide +kernel
theorem dX3_play_40 : decode cX3_play 40 = .ok (.getfield 187, 3) := by decide +kernel
theorem dX3_play_43 : decode cX3_play 43 = .ok (.invokevirtual 166, 3) := by decide +kernel
theorem dX3_play_46 : decode cX3_play 46 = .ok (.aload_n 0, 1) := by decide +kernel
theorem dX3_play_47 : decode cX3_play 47 = .ok (.getfield 30, 3) := by decide +kernel
theorem dX3_play_50 : decode cX3_play 50 = .ok (.getfield 190, 3) := by decide +kernel
theorem dX3_play_53 : decode cX3_play 53 = .ok (.ireturn, 1) := by decide +kernel
set_option maxRecDepth 20000 in
theorem ggX3_recordState_X1_copyFrom : GoodIn wsX3_recordState wsX1_copyFrom := goodIn_r _ [8, 9, 10, 11, 12, 13, 14, 15, 16, 17, 18, 19, 20, 21, 22, 23, 24, 25, 31, 32, 33, 34, 35, 36, 37, 38, 39, 40, 41, 42, 43, 44, 45] (by decide +kernel) (by decide +kernel)
set_option maxRecDepth 20000 in
theorem gX3_recordState_X1_copyFrom : GoodIn wsX3_recordState (wsV RX3 166 RX1 yX1_copyFrom wsX1_copyFrom) := goodIn_app (goodIn_of _ (by decide +kernel)) ggX3_recordState_X1_copyFrom
theorem dX3_recordState_0 : decode cX3_recordState 0 = .ok (.aload_n 0, 1) := by decide +kernel
theorem dX3_recordState_1 : decode cX3_recordState 1 = .ok (.getfield 160, 3) := by decide +kernel
theorem dX3_recordState_4 : decode cX3_recordState 4 = .ok (.iconst 4, 1) := by decide +kernel
theorem dX3_recordState_5 : decode cX3_recordState 5 = .ok (.if_icmp .lt 49, 3) := by decide +kernel
theorem dX3_recordState_8 : decode cX3_recordState 8 = .ok (.aload_n 0, 1) := by decide +kernel
theorem dX3_recordState_9 : decode cX3_recordState 9 = .ok (.getfield 16, 3) := by decide +kernel
theorem dX3_recordState_12 : decode cX3_recordState 12 = .ok (.iconst 0, 1) := by decide +kernel
theorem dX3_recordState_13 : decode cX3_recordState 13 = .ok (.aaload, 1) := by decide +kernel
theorem dX3_recordState_14 : decode cX3_recordState 14 = .ok (.astore_n 1, 1) := by decide +kernel
theorem dX3_recordState_15 : decode cX3_recordState 15 = .ok (.iconst 1, 1) := by decide +kernel
theorem dX3_recordState_16 : decode cX3_recordState 16 = .ok (.istore_n 2, 1) := by decide +kernel
theorem dX3_recordState_17 : decode cX3_recordState 17 = .ok (.iload_n 2, 1) := by decide +kernel
theorem dX3_recordState_18 : decode cX3_recordState 18 = .ok (.iconst 4, 1) := by decide +kernel
theorem dX3_recordState_19 : decode cX3_recordState 19 = .ok (.if_icmp .ge 23, 3) := by decide +kernel
theorem dX3_recordState_22 : decode cX3_recordState 22 = .ok (.aload_n 0, 1) := by decide +kernel
theorem dX3_recordState_23 : decode cX3_recordState 23 = .ok (.getfield 16, 3) := by decide +kernel
theorem dX3_recordState_26 : decode cX3_recordState 26 = .ok (.iload_n 2, 1) := by decide +kernel
theorem dX3_recordState_27 : decode cX3_recordState 27 = .ok (.iconst 1, 1) := by decide +kernel
theorem dX3_recordState_28 : decode cX3_recordState 28 = .ok (.isub, 1) := by decide +kernel
theorem dX3_recordState_29 : decode cX3_recordState 29 = .ok (.aload_n 0, 1) := by decide +kernel
theorem dX3_recordState_30 : decode cX3_recordState 30 = .ok (.getfield 16, 3) := by decide +kernel
theorem dX3_recordState_33 : decode cX3_recordState 33 = .ok (.iload_n 2, 1) := by decide +kernel
theorem dX3_recordState_34 : decode cX3_recordState 34 = .ok (.aaload, 1) := by decide +kernel
theorem dX3_recordState_35 : decode cX3_recordState 35 = .ok (.aastore, 1) := by decide +kernel
theorem dX3_recordState_36 : decode cX3_recordState 36 = .ok (.iinc 2 1, 3) := by decide +kernel
theorem dX3_recordState_39 : decode cX3_recordState 39 = .ok (.goto (-22), 3) := by decide +kernel
theorem dX3_recordState_42 : decode cX3_recordState 42 = .ok (.aload_n 0, 1) := by decide +kernel
theorem dX3_recordState_43 : decode cX3_recordState 43 = .ok (.getfield 16, 3) := by decide +kernel
theorem dX3_recordState_46 : decode cX3_recordState 46 = .ok (.iconst 3, 1) := by decide +kernel
theorem dX3_recordState_47 : decode cX3_recordState 47 = .ok (.aload_n 1, 1) := by decide +kernel
theorem dX3_recordState_48 : decode cX3_recordState 48 = .ok (.aastore, 1) := by decide +kernel
theorem dX3_recordState_49 : decode cX3_recordState 49 = .ok (.aload_n 0, 1) := by decide +kernel
theorem dX3_recordState_50 : decode cX3_recordState 50 = .ok (.iconst 3, 1) := by decide +kernel
theorem dX3_recordState_51 : decode cX3_recordState 51 = .ok (.putfield 160, 3) := by decide +kernel
theorem dX3_recordState_54 : decode cX3_recordState 54 = .ok (.aload_n 0, 1) := by decide +kernel
theorem dX3_recordState_55 : decode cX3_recordState 55 = .ok (.getfield 16, 3) := by decide +kernel
theorem dX3_recordState_58 : decode cX3_recordState 58 = .ok (.aload_n 0, 1) := by decide +kernel
theorem dX3_recordState_59 : decode cX3_recordState 59 = .ok (.getfield 160, 3) := by decide +kernel
theorem dX3_recordState_62 : decode cX3_recordState 62 = .ok (.aaload, 1) := by decide +kernel
theorem dX3_recordState_63 : decode cX3_recordState 63 = .ok (.aload_n 0, 1) := by decide +kernel
theorem dX3_recordState_64 : decode cX3_recordState 64 = .ok (.getfield 10, 3) := by decide +kernel
theorem dX3_recordState_67 : decode cX3_recordState 67 = .ok (.invokevirtual 166, 3) := by decide +kernel
theorem dX3_recordState_70 : decode cX3_recordState 70 = .ok (.aload_n 0, 1) := by decide +kernel
theorem dX3_recordState_71 : decode cX3_recordState 71 = .ok (.dup, 1) := by decide +kernel
theorem dX3_recordState_72 : decode cX3_recordState 72 = .ok (.getfield 160, 3) := by decide +kernel
theorem dX3_recordState_75 : decode cX3_recordState 75 = .ok (.iconst 1, 1) := by decide +kernel
theorem dX3_recordState_76 : decode cX3_recordState 76 = .ok (.iadd, 1) := by decide +kernel
theorem dX3_recordState_77 : decode cX3_recordState 77 = .ok (.putfield 160, 3) := by decide +kernel
theorem dX3_recordState_80 : decode cX3_recordState 80 = .ok (.return_, 1) := by decide +kernel
theorem dX3_isBelow_0 : decode cX3_isBelow 0 = .ok (.iload_n 0, 1) := by decide +kernel
theorem dX3_isBelow_1 : decode cX3_isBelow 1 = .ok (.ifCond .lt 12, 3) := by decide +kernel
theorem dX3_isBelow_4 : decode cX3_isBelow 4 = .ok (.iload_n 0, 1) := by decide +kernel
theorem dX3_isBelow_5 : decode cX3_isBelow 5 = .ok (.iload_n 1, 1) := by decide +kernel
theorem dX3_isBelow_6 : decode cX3_isBelow 6 = .ok (.if_icmp .ge 7, 3) := by decide +kernel
theorem dX3_isBelow_9 : decode cX3_isBelow 9 = .ok (.iconst 1, 1) := by decide +kernel
theorem dX3_isBelow_10 : decode cX3_isBelow 10 = .ok (.goto 4, 3) := by decide +kernel
theorem dX3_isBelow_13 : decode cX3_isBelow 13 = .ok (.iconst 0, 1) := by decide +kernel
theorem dX3_isBelow_14 : decode cX3_isBelow 14 = .ok (.ireturn, 1) := by decide +kernel
set_option maxRecDepth 20000 in
theorem ggX3_isCell_X3_isBelow : GoodIn wsX3_isCell wsX3_isBelow := goodIn_r _ [4] (by decide +kernel) (by decide +kernel)
set_option maxRecDepth 20000 in
theorem gX3_isCell_X3_isBelow : GoodIn wsX3_isCell (va_wsS RX3 92 yX3_isBelow wsX3_isBelow) := goodIn_app (goodIn_of _ (by decide +kernel)) ggX3_isCell_X3_isBelow
theorem dX3_isCell_0 : decode cX3_isCell 0 = .ok (.iload_n 0, 1) := by decide +kernel
theorem dX3_isCell_1 : decode cX3_isCell 1 = .ok (.iconst 3, 1) := by decide +kernel
theorem dX3_isCell_2 : decode cX3_isCell 2 = .ok (.invokestatic 92, 3) := by decide +kernel
theorem dX3_isCell_5 : decode cX3_isCell 5 = .ok (.ifCond .eq 16, 3) := by decide +kernel
theorem dX3_isCell_8 : decode cX3_isCell 8 = .ok (.iload_n 1, 1) := by decide +kernel
theorem dX3_isCell_9 : decode cX3_isCell 9 = .ok (.bipush 6, 2) := by decide +kernel
theorem dX3_isCell_11 : decode cX3_isCell 11 = .ok (.invokestatic 92, 3) := by decide +kernel
theorem dX3_isCell_14 : decode cX3_isCell 14 = .ok (.ifCond .eq 7, 3) := by decide +kernel
theorem dX3_isCell_17 : decode cX3_isCell 17 = .ok (.iconst 1, 1) := by decide +kernel
theorem dX3_isCell_18 : decode cX3_isCell 18 = .ok (.goto 4, 3) := by decide +kernel
theorem dX3_isCell_21 : decode cX3_isCell 21 = .ok (.iconst 0, 1) := by decide +kernel
theorem dX3_isCell_22 : decode cX3_isCell 22 = .ok (.ireturn, 1) := by decide +kernel
theorem dX3_cellIndex_0 : decode cX3_cellIndex 0 = .ok (.iload_n 0, 1) := by decide +kernel
theorem dX3_cellIndex_1 : decode cX3_cellIndex 1 = .ok (.bipush 6, 2) := by decide +kernel
theorem dX3_cellIndex_3 : decode cX3_cellIndex 3 = .ok (.imul, 1) := by decide +kernel
theorem dX3_cellIndex_4 : decode cX3_cellIndex 4 = .ok (.iload_n 1, 1) := by decide +kernel
theorem dX3_cellIndex_5 : decode cX3_cellIndex 5 = .ok (.iadd, 1) := by decide +kernel
theorem dX3_cellIndex_6 : decode cX3_cellIndex 6 = .ok (.ireturn, 1) := by decide +kernel
theorem dX3_isName_0 : decode cX3_isName 0 = .ok (.iload_n 0, 1) := by decide +kernel
theorem dX3_isName_1 : decode cX3_isName 1 = .ok (.iconst 1, 1) := by decide +kernel
theorem dX3_isName_2 : decode cX3_isName 2 = .ok (.if_icmp .lt 9, 3) := by decide +kernel
theorem dX3_isName_5 : decode cX3_isName 5 = .ok (.iload_n 0, 1) := by decide +kernel
theorem dX3_isName_6 : decode cX3_isName 6 = .ok (.ldc 193, 2) := by decide +kernel
theorem dX3_isName_8 : decode cX3_isName 8 = .ok (.if_icmp .le 5, 3) := by decide +kernel
theorem dX3_isName_11 : decode cX3_isName 11 = .ok (.iconst 0, 1) := by decide +kernel
theorem dX3_isName_12 : decode cX3_isName 12 = .ok (.ireturn, 1) := by decide +kernel
theorem dX3_isName_13 : decode cX3_isName 13 = .ok (.iload_n 0, 1) := by decide +kernel
theorem dX3_isName_14 : decode cX3_isName 14 = .ok (.istore_n 1, 1) := by decide +kernel
theorem dX3_isName_15 : decode cX3_isName 15 = .ok (.iconst 0, 1) := by decide +kernel
theorem dX3_isName_16 : decode cX3_isName 16 = .ok (.istore_n 2, 1) := by decide +kernel
theorem dX3_isName_17 : decode cX3_isName 17 = .ok (.iload_n 2, 1) := by decide +kernel
theorem dX3_isName_18 : decode cX3_isName 18 = .ok (.bipush 6, 2) := by decide +kernel
theorem dX3_isName_20 : decode cX3_isName 20 = .ok (.if_icmp .ge 27, 3) := by decide +kernel
theorem dX3_isName_23 : decode cX3_isName 23 = .ok (.iload_n 1, 1) := by decide +kernel
theorem dX3_isName_24 : decode cX3_isName 24 = .ok (.ifCond .le 23, 3) := by decide +kernel
theorem dX3_isName_27 : decode cX3_isName 27 = .ok (.iload_n 1, 1) := by decide +kernel
theorem dX3_isName_28 : decode cX3_isName 28 = .ok (.bipush 27, 2) := by decide +kernel
theorem dX3_isName_30 : decode cX3_isName 30 = .ok (.irem, 1) := by decide +kernel
theorem dX3_isName_31 : decode cX3_isName 31 = .ok (.ifCond .ne 5, 3) := by decide +kernel
theorem dX3_isName_34 : decode cX3_isName 34 = .ok (.iconst 0, 1) := by decide +kernel
theorem dX3_isName_35 : decode cX3_isName 35 = .ok (.ireturn, 1) := by decide +kernel
theorem dX3_isName_36 : decode cX3_isName 36 = .ok (.iload_n 1, 1) := by decide +kernel
theorem dX3_isName_37 : decode cX3_isName 37 = .ok (.bipush 27, 2) := by decide +kernel
theorem dX3_isName_39 : decode cX3_isName 39 = .ok (.idiv, 1) := by decide +kernel
theorem dX3_isName_40 : decode cX3_isName 40 = .ok (.istore_n 1, 1) := by decide +kernel
theorem dX3_isName_41 : decode cX3_isName 41 = .ok (.iinc 2 1, 3) := by decide +kernel
theorem dX3_isName_44 : decode cX3_isName 44 = .ok (.goto (-27), 3) := by decide +kernel
theorem dX3_isName_47 : decode cX3_isName 47 = .ok (.iconst 1, 1) := by decide +kernel
theorem dX3_isName_48 : decode cX3_isName 48 = .ok (.ireturn, 1) := by decide +kernel
theorem dX3_orderKey_0 : decode cX3_orderKey 0 = .ok (.iload_n 0, 1) := by decide +kernel
theorem dX3_orderKey_1 : decode cX3_orderKey 1 = .ok (.istore_n 1, 1) := by decide +kernel
theorem dX3_orderKey_2 : decode cX3_orderKey 2 = .ok (.iconst 1, 1) := by decide +kernel
theorem dX3_orderKey_3 : decode cX3_orderKey 3 = .ok (.istore_n 2, 1) := by decide +kernel
theorem dX3_orderKey_4 : decode cX3_orderKey 4 = .ok (.iload_n 2, 1) := by decide +kernel
theorem dX3_orderKey_5 : decode cX3_orderKey 5 = .ok (.bipush 6, 2) := by decide +kernel
theorem dX3_orderKey_7 : decode cX3_orderKey 7 = .ok (.if_icmp .ge 20, 3) := by decide +kernel
theorem dX3_orderKey_10 : decode cX3_orderKey 10 = .ok (.iload_n 1, 1) := by decide +kernel
theorem dX3_orderKey_11 : decode cX3_orderKey 11 = .ok (.ldc 194, 2) := by decide +kernel
theorem dX3_orderKey_13 : decode cX3_orderKey 13 = .ok (.if_icmp .ge 14, 3) := by decide +kernel
theorem dX3_orderKey_16 : decode cX3_orderKey 16 = .ok (.iload_n 1, 1) := by decide +kernel
theorem dX3_orderKey_17 : decode cX3_orderKey 17 = .ok (.bipush 27, 2) := by decide +kernel
theorem dX3_orderKey_19 : decode cX3_orderKey 19 = .ok (.imul, 1) := by decide +kernel
theorem dX3_orderKey_20 : decode cX3_orderKey 20 = .ok (.istore_n 1, 1) := by decide +kernel
theorem dX3_orderKey_21 : decode cX3_orderKey 21 = .ok (.iinc 2 1, 3) := by decide +kernel
theorem dX3_orderKey_24 : decode cX3_orderKey 24 = .ok (.goto (-20), 3) := by decide +kernel
theorem dX3_orderKey_27 : decode cX3_orderKey 27 = .ok (.iload_n 1, 1) := by decide +kernel
theorem dX3_orderKey_28 : decode cX3_orderKey 28 = .ok (.ireturn, 1) := by decide +kernel
theorem dX3_beginsWith_0 : decode cX3_beginsWith 0 = .ok (.iload_n 0, 1) := by decide +kernel
theorem dX3_beginsWith_1 : decode cX3_beginsWith 1 = .ok (.istore_n 2, 1) := by decide +kernel
theorem dX3_beginsWith_2 : decode cX3_beginsWith 2 = .ok (.iconst 1, 1) := by decide +kernel
theorem dX3_beginsWith_3 : decode cX3_beginsWith 3 = .ok (.istore_n 3, 1) := by decide +kernel
theorem dX3_beginsWith_4 : decode cX3_beginsWith 4 = .ok (.iload_n 3, 1) := by decide +kernel
theorem dX3_beginsWith_5 : decode cX3_beginsWith 5 = .ok (.bipush 6, 2) := by decide +kernel
theorem dX3_beginsWith_7 : decode cX3_beginsWith 7 = .ok (.if_icmp .ge 19, 3) := by decide +kernel
theorem dX3_beginsWith_10 : decode cX3_beginsWith 10 = .ok (.iload_n 2, 1) := by decide +kernel
theorem dX3_beginsWith_11 : decode cX3_beginsWith 11 = .ok (.iload_n 1, 1) := by decide +kernel
theorem dX3_beginsWith_12 : decode cX3_beginsWith 12 = .ok (.if_icmp .le 14, 3) := by decide +kernel
theorem dX3_beginsWith_15 : decode cX3_beginsWith 15 = .ok (.iload_n 2, 1) := by decide +kernel
theorem dX3_beginsWith_16 : decode cX3_beginsWith 16 = .ok (.bipush 27, 2) := by decide +kernel
theorem dX3_beginsWith_18 : decode cX3_beginsWith 18 = .ok (.idiv, 1) := by decide +kernel
theorem dX3_beginsWith_19 : decode cX3_beginsWith 19 = .ok (.istore_n 2, 1) := by decide +kernel
theorem dX3_beginsWith_20 : decode cX3_beginsWith 20 = .ok (.iinc 3 1, 3) := by decide +kernel
theorem dX3_beginsWith_23 : decode cX3_beginsWith 23 = .ok (.goto (-19), 3) := by decide +kernel
theorem dX3_beginsWith_26 : decode cX3_beginsWith 26 = .ok (.iload_n 2, 1) := by decide +kernel
theorem dX3_beginsWith_27 : decode cX3_beginsWith 27 = .ok (.iload_n 1, 1) := by decide +kernel
theorem dX3_beginsWith_28 : decode cX3_beginsWith 28 = .ok (.if_icmp .ne 7, 3) := by decide +kernel
theorem dX3_beginsWith_31 : decode cX3_beginsWith 31 = .ok (.iconst 1, 1) := by decide +kernel
theorem dX3_beginsWith_32 : decode cX3_beginsWith 32 = .ok (.goto 4, 3) := by decide +kernel
theorem dX3_beginsWith_35 : decode cX3_beginsWith 35 = .ok (.iconst 0, 1) := by decide +kernel
theorem dX3_beginsWith_36 : decode cX3_beginsWith 36 = .ok (.ireturn, 1) := by decide +kernel
theorem dJ9_min_7cf53_0 : decode cJ9_min_7cf53 0 = .ok (.iload_n 0, 1) := by decide +kernel
theorem dJ9_min_7cf53_1 : decode cJ9_min_7cf53 1 = .ok (.iload_n 1, 1) := by decide +kernel
theorem dJ9_min_7cf53_2 : decode cJ9_min_7cf53 2 = .ok (.if_icmp .gt 7, 3) := by decide +kernel
theorem dJ9_min_7cf53_5 : decode cJ9_min_7cf53 5 = .ok (.iload_n 0, 1) := by decide +kernel
theorem dJ9_min_7cf53_6 : decode cJ9_min_7cf53 6 = .ok (.goto 4, 3) := by decide +kernel
theorem dJ9_min_7cf53_9 : decode cJ9_min_7cf53 9 = .ok (.iload_n 1, 1) := by decide +kernel
theorem dJ9_min_7cf53_10 : decode cJ9_min_7cf53 10 = .ok (.ireturn, 1) := by decide +kernel
theorem dJ7_fill_53178_0 : decode cJ7_fill_53178 0 = .ok (.iconst 0, 1) := by decide +kernel
theorem dJ7_fill_53178_1 : decode cJ7_fill_53178 1 = .ok (.istore_n 2, 1) := by decide +kernel
theorem dJ7_fill_53178_2 : decode cJ7_fill_53178 2 = .ok (.aload_n 0, 1) := by decide +kernel
theorem dJ7_fill_53178_3 : decode cJ7_fill_53178 3 = .ok (.arraylength, 1) := by decide +kernel
theorem dJ7_fill_53178_4 : decode cJ7_fill_53178 4 = .ok (.istore_n 3, 1) := by decide +kernel
theorem dJ7_fill_53178_5 : decode cJ7_fill_53178 5 = .ok (.iload_n 2, 1) := by decide +kernel
theorem dJ7_fill_53178_6 : decode cJ7_fill_53178 6 = .ok (.iload_n 3, 1) := by decide +kernel
theorem dJ7_fill_53178_7 : decode cJ7_fill_53178 7 = .ok (.if_icmp .ge 13, 3) := by decide +kernel
theorem dJ7_fill_53178_10 : decode cJ7_fill_53178 10 = .ok (.aload_n 0, 1) := by decide +kernel
theorem dJ7_fill_53178_11 : decode cJ7_fill_53178 11 = .ok (.iload_n 2, 1) := by decide +kernel
theorem dJ7_fill_53178_12 : decode cJ7_fill_53178 12 = .ok (.iload_n 1, 1) := by decide +kernel
theorem dJ7_fill_53178_13 : decode cJ7_fill_53178 13 = .ok (.iastore, 1) := by decide +kernel
theorem dJ7_fill_53178_14 : decode cJ7_fill_53178 14 = .ok (.iinc 2 1, 3) := by decide +kernel
theorem dJ7_fill_53178_17 : decode cJ7_fill_53178 17 = .ok (.goto (-12), 3) := by decide +kernel
theorem dJ7_fill_53178_20 : decode cJ7_fill_53178 20 = .ok (.return_, 1) := by decide +kernel
theorem dL_cell_0 : decode cL_cell 0 = .ok (.iload_n 1, 1) := by decide +kernel
theorem dL_cell_1 : decode cL_cell 1 = .ok (.aload_n 0, 1) := by decide +kernel
theorem dL_cell_2 : decode cL_cell 2 = .ok (.arraylength, 1) := by decide +kernel
theorem dL_cell_3 : decode cL_cell 3 = .ok (.if_icmp .ge 9, 3) := by decide +kernel
theorem dL_cell_6 : decode cL_cell 6 = .ok (.aload_n 0, 1) := by decide +kernel
theorem dL_cell_7 : decode cL_cell 7 = .ok (.iload_n 1, 1) := by decide +kernel
theorem dL_cell_8 : decode cL_cell 8 = .ok (.iaload, 1) := by decide +kernel
theorem dL_cell_9 : decode cL_cell 9 = .ok (.goto 9, 3) := by decide +kernel
theorem dL_cell_12 : decode cL_cell 12 = .ok (.ldc 7, 2) := by decide +kernel
theorem dL_cell_14 : decode cL_cell 14 = .ok (.iload_n 1, 1) := by decide +kernel
theorem dL_cell_15 : decode cL_cell 15 = .ok (.iconst 1, 1) := by decide +kernel
theorem dL_cell_16 : decode cL_cell 16 = .ok (.iadd, 1) := by decide +kernel
theorem dL_cell_17 : decode cL_cell 17 = .ok (.imul, 1) := by decide +kernel
theorem dL_cell_18 : decode cL_cell 18 = .ok (.ireturn, 1) := by decide +kernel
theorem dL_low_0 : decode cL_low 0 = .ok (.iload_n 0, 1) := by decide +kernel
theorem dL_low_1 : decode cL_low 1 = .ok (.ldc 8, 2) := by decide +kernel
theorem dL_low_3 : decode cL_low 3 = .ok (.iand, 1) := by decide +kernel
theorem dL_low_4 : decode cL_low 4 = .ok (.iload_n 1, 1) := by decide +kernel
theorem dL_low_5 : decode cL_low 5 = .ok (.irem, 1) := by decide +kernel
theorem dL_low_6 : decode cL_low 6 = .ok (.ireturn, 1) := by decide +kernel
set_option maxRecDepth 20000 in
theorem ggL_near_L_low : GoodIn wsL_near wsL_low := goodIn_r _ [4, 5] (by decide +kernel) (by decide +kernel)
set_option maxRecDepth 20000 in
theorem gL_near_L_low : GoodIn wsL_near (va_wsS RL 9 yL_low wsL_low) := goodIn_app (goodIn_of _ (by decide +kernel)) ggL_near_L_low
theorem dL_near_0 : decode cL_near 0 = .ok (.iload_n 0, 1) := by decide +kernel
theorem dL_near_1 : decode cL_near 1 = .ok (.bipush 40, 2) := by decide +kernel
theorem dL_near_3 : decode cL_near 3 = .ok (.invokestatic 9, 3) := by decide +kernel
theorem dL_near_6 : decode cL_near 6 = .ok (.istore_n 2, 1) := by decide +kernel
theorem dL_near_7 : decode cL_near 7 = .ok (.iload_n 2, 1) := by decide +kernel
theorem dL_near_8 : decode cL_near 8 = .ok (.ifCond .ne 7, 3) := by decide +kernel
theorem dL_near_11 : decode cL_near 11 = .ok (.iconst (-1), 1) := by decide +kernel
theorem dL_near_12 : decode cL_near 12 = .ok (.goto 38, 3) := by decide +kernel
theorem dL_near_15 : decode cL_near 15 = .ok (.iload_n 2, 1) := by decide +kernel
theorem dL_near_16 : decode cL_near 16 = .ok (.iconst 1, 1) := by decide +kernel
theorem dL_near_17 : decode cL_near 17 = .ok (.if_icmp .ne 7, 3) := by decide +kernel
theorem dL_near_20 : decode cL_near 20 = .ok (.iload_n 1, 1) := by decide +kernel
theorem dL_near_21 : decode cL_near 21 = .ok (.goto 29, 3) := by decide +kernel
theorem dL_near_24 : decode cL_near 24 = .ok (.iload_n 2, 1) := by decide +kernel
theorem dL_near_25 : decode cL_near 25 = .ok (.iconst 2, 1) := by decide +kernel
theorem dL_near_26 : decode cL_near 26 = .ok (.if_icmp .ne 7, 3) := by decide +kernel
theorem dL_near_29 : decode cL_near 29 = .ok (.iload_n 0, 1) := by decide +kernel
theorem dL_near_30 : decode cL_near 30 = .ok (.goto 20, 3) := by decide +kernel
theorem dL_near_33 : decode cL_near 33 = .ok (.iload_n 1, 1) := by decide +kernel
theorem dL_near_34 : decode cL_near 34 = .ok (.iconst 1, 1) := by decide +kernel
theorem dL_near_35 : decode cL_near 35 = .ok (.if_icmp .ge 7, 3) := by decide +kernel
theorem dL_near_38 : decode cL_near 38 = .ok (.iconst 0, 1) := by decide +kernel
theorem dL_near_39 : decode cL_near 39 = .ok (.goto 11, 3) := by decide +kernel
theorem dL_near_42 : decode cL_near 42 = .ok (.iload_n 0, 1) := by decide +kernel
theorem dL_near_43 : decode cL_near 43 = .ok (.bipush 6, 2) := by decide +kernel
theorem dL_near_45 : decode cL_near 45 = .ok (.ishr, 1) := by decide +kernel
theorem dL_near_46 : decode cL_near 46 = .ok (.iload_n 1, 1) := by decide +kernel
theorem dL_near_47 : decode cL_near 47 = .ok (.invokestatic 9, 3) := by decide +kernel
theorem dL_near_50 : decode cL_near 50 = .ok (.ireturn, 1) := by decide +kernel
theorem dL_isError_0 : decode cL_isError 0 = .ok (.iload_n 0, 1) := by decide +kernel
theorem dL_isError_1 : decode cL_isError 1 = .ok (.ldc 15, 2) := by decide +kernel
theorem dL_isError_3 : decode cL_isError 3 = .ok (.if_icmp .gt 13, 3) := by decide +kernel
theorem dL_isError_6 : decode cL_isError 6 = .ok (.iload_n 0, 1) := by decide +kernel
theorem dL_isError_7 : decode cL_isError 7 = .ok (.ldc 16, 2) := by decide +kernel
theorem dL_isError_9 : decode cL_isError 9 = .ok (.if_icmp .lt 7, 3) := by decide +kernel
theorem dL_isError_12 : decode cL_isError 12 = .ok (.iconst 1, 1) := by decide +kernel
theorem dL_isError_13 : decode cL_isError 13 = .ok (.goto 4, 3) := by decide +kernel
theorem dL_isError_16 : decode cL_isError 16 = .ok (.iconst 0, 1) := by decide +kernel
theorem dL_isError_17 : decode cL_isError 17 = .ok (.ireturn, 1) := by decide +kernel
set_option maxRecDepth 20000 in
theorem ggL_trace_X3_count : GoodIn wsL_trace wsX3_count := goodIn_r _ [7, 8, 9, 10, 11, 12, 13, 14, 15, 16, 17, 18, 19, 20, 21, 22, 23, 24, 25, 26, 27, 28, 29, 30, 31, 32, 33, 34, 35, 36, 37, 38, 39, 40, 91, 92, 93, 94, 95, 96, 97, 98, 99, 100, 101, 102, 103, 104, 105, 106, 107, 108, 109, 110, 111, 112] (by decide +kernel) (by decide +kernel)
set_option maxRecDepth 20000 in
theorem gL_trace_X3_count : GoodIn wsL_trace (wsV RL 21 RX3 yX3_count wsX3_count) := goodIn_app (goodIn_of _ (by decide +kernel)) ggL_trace_X3_count
set_option maxRecDepth 20000 in
theorem ggL_trace_X3_numberOf : GoodIn wsL_trace wsX3_numberOf := goodIn_r _ [44, 20, 8, 45, 46, 47, 48, 49, 50, 6, 51, 32, 33, 34, 24, 35, 36, 52, 53, 54, 55, 56, 57, 58, 59, 60, 61, 62, 91, 92, 93, 94, 95, 96, 97, 98, 99, 100, 101, 102, 103, 104, 105, 106, 107, 108, 109, 110] (by decide +kernel) (by decide +kernel)
set_option maxRecDepth 20000 in
theorem gL_trace_X3_numberOf : GoodIn wsL_trace (wsV RL 27 RX3 yX3_numberOf wsX3_numberOf) := goodIn_app (goodIn_of _ (by decide +kernel)) ggL_trace_X3_numberOf
set_option maxRecDepth 20000 in
theorem ggL_trace_X3_cellOf : GoodIn wsL_trace wsX3_cellOf := goodIn_r _ [66, 20, 8, 9, 46, 67, 68, 6, 69, 49, 50, 51, 70, 71, 72, 52, 53, 54, 24, 55, 56, 57, 58, 59, 60, 61, 62, 91, 92, 93, 94, 95, 96, 97, 98, 99, 100, 101, 102, 103, 104, 105, 106, 107, 108, 109, 110] (by decide +kernel) (by decide +kernel)
set_option maxRecDepth 20000 in
theorem gL_trace_X3_cellOf : GoodIn wsL_trace (wsV RL 30 RX3 yX3_cellOf wsX3_cellOf) := goodIn_app (goodIn_of _ (by decide +kernel)) ggL_trace_X3_cellOf
set_option maxRecDepth 20000 in
theorem ggL_trace_X3_compaction : GoodIn wsL_trace wsX3_compaction := goodIn_r _ [76, 20, 8, 10, 46, 77, 78, 79, 49, 50, 6, 51, 80, 81, 82, 24, 83, 84, 85, 59, 60, 61, 62, 86, 87, 88, 89, 56, 90, 26, 57, 91, 92, 93, 94, 95, 96, 97, 98, 99, 100, 101, 102, 103, 104, 105, 106, 107, 108, 109, 110] (by decide +kernel) (by decide +kernel)
set_option maxRecDepth 20000 in
theorem gL_trace_X3_compaction : GoodIn wsL_trace (wsV RL 33 RX3 yX3_compaction wsX3_compaction) := goodIn_app (goodIn_of _ (by decide +kernel)) ggL_trace_X3_compaction
theorem dL_trace_0 : decode cL_trace 0 = .ok (.ldc2_w 17, 3) := by decide +kernel
theorem dL_trace_3 : decode cL_trace 3 = .ok (.lstore_n 1, 1) := by decide +kernel
theorem dL_trace_4 : decode cL_trace 4 = .ok (.iconst 0, 1) := by decide +kernel
theorem dL_trace_5 : decode cL_trace 5 = .ok (.istore_n 3, 1) := by decide +kernel
theorem dL_trace_6 : decode cL_trace 6 = .ok (.iload_n 3, 1) := by decide +kernel
theorem dL_trace_7 : decode cL_trace 7 = .ok (.bipush 9, 2) := by decide +kernel
theorem dL_trace_9 : decode cL_trace 9 = .ok (.if_icmp .ge 22, 3) := by decide +kernel
theorem dL_trace_12 : decode cL_trace 12 = .ok (.ldc2_w 19, 3) := by decide +kernel
theorem dL_trace_15 : decode cL_trace 15 = .ok (.lload_n 1, 1) := by decide +kernel
theorem dL_trace_16 : decode cL_trace 16 = .ok (.lmul, 1) := by decide +kernel
theorem dL_trace_17 : decode cL_trace 17 = .ok (.aload_n 0, 1) := by decide +kernel
theorem dL_trace_18 : decode cL_trace 18 = .ok (.iload_n 3, 1) := by decide +kernel
theorem dL_trace_19 : decode cL_trace 19 = .ok (.invokevirtual 21, 3) := by decide +kernel
theorem dL_trace_22 : decode cL_trace 22 = .ok (.i2l, 1) := by decide +kernel
theorem dL_trace_23 : decode cL_trace 23 = .ok (.ladd, 1) := by decide +kernel
theorem dL_trace_24 : decode cL_trace 24 = .ok (.lstore_n 1, 1) := by decide +kernel
theorem dL_trace_25 : decode cL_trace 25 = .ok (.iinc 3 1, 3) := by decide +kernel
theorem dL_trace_28 : decode cL_trace 28 = .ok (.goto (-22), 3) := by decide +kernel
theorem dL_trace_31 : decode cL_trace 31 = .ok (.iconst 0, 1) := by decide +kernel
theorem dL_trace_32 : decode cL_trace 32 = .ok (.istore_n 3, 1) := by decide +kernel
theorem dL_trace_33 : decode cL_trace 33 = .ok (.iload_n 3, 1) := by decide +kernel
theorem dL_trace_34 : decode cL_trace 34 = .ok (.bipush 40, 2) := by decide +kernel
theorem dL_trace_36 : decode cL_trace 36 = .ok (.if_icmp .ge 39, 3) := by decide +kernel
theorem dL_trace_39 : decode cL_trace 39 = .ok (.iconst 0, 1) := by decide +kernel
theorem dL_trace_40 : decode cL_trace 40 = .ok (.istore 4, 2) := by decide +kernel
theorem dL_trace_42 : decode cL_trace 42 = .ok (.iload 4, 2) := by decide +kernel
theorem dL_trace_44 : decode cL_trace 44 = .ok (.iconst 5, 1) := by decide +kernel
theorem dL_trace_45 : decode cL_trace 45 = .ok (.if_icmp .ge 24, 3) := by decide +kernel
theorem dL_trace_48 : decode cL_trace 48 = .ok (.ldc2_w 19, 3) := by decide +kernel
theorem dL_trace_51 : decode cL_trace 51 = .ok (.lload_n 1, 1) := by decide +kernel
theorem dL_trace_52 : decode cL_trace 52 = .ok (.lmul, 1) := by decide +kernel
theorem dL_trace_53 : decode cL_trace 53 = .ok (.aload_n 0, 1) := by decide +kernel
theorem dL_trace_54 : decode cL_trace 54 = .ok (.iload_n 3, 1) := by decide +kernel
theorem dL_trace_55 : decode cL_trace 55 = .ok (.iload 4, 2) := by decide +kernel
theorem dL_trace_57 : decode cL_trace 57 = .ok (.invokevirtual 27, 3) := by decide +kernel
theorem dL_trace_60 : decode cL_trace 60 = .ok (.i2l, 1) := by decide +kernel
theorem dL_trace_61 : decode cL_trace 61 = .ok (.ladd, 1) := by decide +kernel
theorem dL_trace_62 : decode cL_trace 62 = .ok (.lstore_n 1, 1) := by decide +kernel
theorem dL_trace_63 : decode cL_trace 63 = .ok (.iinc 4 1, 3) := by decide +kernel
theorem dL_trace_66 : decode cL_trace 66 = .ok (.goto (-24), 3) := by decide +kernel
theorem dL_trace_69 : decode cL_trace 69 = .ok (.iinc 3 1, 3) := by decide +kernel
theorem dL_trace_72 : decode cL_trace 72 = .ok (.goto (-39), 3) := by decide +kernel
theorem dL_trace_75 : decode cL_trace 75 = .ok (.iconst 0, 1) := by decide +kernel
theorem dL_trace_76 : decode cL_trace 76 = .ok (.istore_n 3, 1) := by decide +kernel
theorem dL_trace_77 : decode cL_trace 77 = .ok (.iload_n 3, 1) := by decide +kernel
theorem dL_trace_78 : decode cL_trace 78 = .ok (.bipush 18, 2) := by decide +kernel
theorem dL_trace_80 : decode cL_trace 80 = .ok (.if_icmp .ge 29, 3) := by decide +kernel
theorem dL_trace_83 : decode cL_trace 83 = .ok (.ldc2_w 19, 3) := by decide +kernel
theorem dL_trace_86 : decode cL_trace 86 = .ok (.lload_n 1, 1) := by decide +kernel
theorem dL_trace_87 : decode cL_trace 87 = .ok (.lmul, 1) := by decide +kernel
theorem dL_trace_88 : decode cL_trace 88 = .ok (.aload_n 0, 1) := by decide +kernel
theorem dL_trace_89 : decode cL_trace 89 = .ok (.iload_n 3, 1) := by decide +kernel
theorem dL_trace_90 : decode cL_trace 90 = .ok (.bipush 6, 2) := by decide +kernel
theorem dL_trace_92 : decode cL_trace 92 = .ok (.idiv, 1) := by decide +kernel
theorem dL_trace_93 : decode cL_trace 93 = .ok (.iload_n 3, 1) := by decide +kernel
theorem dL_trace_94 : decode cL_trace 94 = .ok (.bipush 6, 2) := by decide +kernel
theorem dL_trace_96 : decode cL_trace 96 = .ok (.irem, 1) := by decide +kernel
theorem dL_trace_97 : decode cL_trace 97 = .ok (.invokevirtual 30, 3) := by decide +kernel
theorem dL_trace_100 : decode cL_trace 100 = .ok (.i2l, 1) := by decide +kernel
theorem dL_trace_101 : decode cL_trace 101 = .ok (.ladd, 1) := by decide +kernel
theorem dL_trace_102 : decode cL_trace 102 = .ok (.lstore_n 1, 1) := by decide +kernel
theorem dL_trace_103 : decode cL_trace 103 = .ok (.iinc 3 1, 3) := by decide +kernel
theorem dL_trace_106 : decode cL_trace 106 = .ok (.goto (-29), 3) := by decide +kernel
theorem dL_trace_109 : decode cL_trace 109 = .ok (.iconst 0, 1) := by decide +kernel
theorem dL_trace_110 : decode cL_trace 110 = .ok (.istore_n 3, 1) := by decide +kernel
theorem dL_trace_111 : decode cL_trace 111 = .ok (.iload_n 3, 1) := by decide +kernel
theorem dL_trace_112 : decode cL_trace 112 = .ok (.bipush 12, 2) := by decide +kernel
theorem dL_trace_114 : decode cL_trace 114 = .ok (.if_icmp .ge 27, 3) := by decide +kernel
theorem dL_trace_117 : decode cL_trace 117 = .ok (.ldc2_w 19, 3) := by decide +kernel
theorem dL_trace_120 : decode cL_trace 120 = .ok (.lload_n 1, 1) := by decide +kernel
theorem dL_trace_121 : decode cL_trace 121 = .ok (.lmul, 1) := by decide +kernel
theorem dL_trace_122 : decode cL_trace 122 = .ok (.aload_n 0, 1) := by decide +kernel
theorem dL_trace_123 : decode cL_trace 123 = .ok (.iload_n 3, 1) := by decide +kernel
theorem dL_trace_124 : decode cL_trace 124 = .ok (.iconst 4, 1) := by decide +kernel
theorem dL_trace_125 : decode cL_trace 125 = .ok (.idiv, 1) := by decide +kernel
theorem dL_trace_126 : decode cL_trace 126 = .ok (.iload_n 3, 1) := by decide +kernel
theorem dL_trace_127 : decode cL_trace 127 = .ok (.iconst 4, 1) := by decide +kernel
theorem dL_trace_128 : decode cL_trace 128 = .ok (.irem, 1) := by decide +kernel
theorem dL_trace_129 : decode cL_trace 129 = .ok (.invokevirtual 33, 3) := by decide +kernel
theorem dL_trace_132 : decode cL_trace 132 = .ok (.i2l, 1) := by decide +kernel
theorem dL_trace_133 : decode cL_trace 133 = .ok (.ladd, 1) := by decide +kernel
theorem dL_trace_134 : decode cL_trace 134 = .ok (.lstore_n 1, 1) := by decide +kernel
theorem dL_trace_135 : decode cL_trace 135 = .ok (.iinc 3 1, 3) := by decide +kernel
theorem dL_trace_138 : decode cL_trace 138 = .ok (.goto (-27), 3) := by decide +kernel
theorem dL_trace_141 : decode cL_trace 141 = .ok (.lload_n 1, 1) := by decide +kernel
theorem dL_trace_142 : decode cL_trace 142 = .ok (.lreturn, 1) := by decide +kernel
theorem dL_padded_0 : decode cL_padded 0 = .ok (.iload_n 0, 1) := by decide +kernel
theorem dL_padded_1 : decode cL_padded 1 = .ok (.istore_n 1, 1) := by decide +kernel
theorem dL_padded_2 : decode cL_padded 2 = .ok (.iload_n 1, 1) := by decide +kernel
theorem dL_padded_3 : decode cL_padded 3 = .ok (.ldc 36, 2) := by decide +kernel
theorem dL_padded_5 : decode cL_padded 5 = .ok (.if_icmp .ge 11, 3) := by decide +kernel
theorem dL_padded_8 : decode cL_padded 8 = .ok (.iload_n 1, 1) := by decide +kernel
theorem dL_padded_9 : decode cL_padded 9 = .ok (.bipush 27, 2) := by decide +kernel
theorem dL_padded_11 : decode cL_padded 11 = .ok (.imul, 1) := by decide +kernel
theorem dL_padded_12 : decode cL_padded 12 = .ok (.istore_n 1, 1) := by decide +kernel
theorem dL_padded_13 : decode cL_padded 13 = .ok (.goto (-11), 3) := by decide +kernel
theorem dL_padded_16 : decode cL_padded 16 = .ok (.iload_n 1, 1) := by decide +kernel
theorem dL_padded_17 : decode cL_padded 17 = .ok (.ireturn, 1) := by decide +kernel
set_option maxRecDepth 20000 in
theorem ggL_numbersFit_X3_numberOf : GoodIn wsL_numbersFit wsX3_numberOf := goodIn_r _ [7, 8, 9, 10, 11, 12, 13, 14, 15, 6, 16, 17, 18, 19, 20, 21, 22, 23, 24, 25, 26, 27, 28, 29, 30, 31, 32, 33, 127, 128, 129, 130, 131, 132, 133, 134, 135, 136, 137, 138, 139, 140, 141, 142, 143, 144, 145, 146] (by decide +kernel) (by decide +kernel)
set_option maxRecDepth 20000 in
theorem gL_numbersFit_X3_numberOf : GoodIn wsL_numbersFit (wsV RL 27 RX3 yX3_numberOf wsX3_numberOf) := goodIn_app (goodIn_of _ (by decide +kernel)) ggL_numbersFit_X3_numberOf
set_option maxRecDepth 20000 in
theorem ggL_numbersFit_X3_cellOf : GoodIn wsL_numbersFit wsX3_cellOf := goodIn_r _ [37, 8, 9, 38, 11, 39, 40, 6, 41, 14, 15, 16, 42, 43, 44, 23, 24, 25, 20, 26, 27, 28, 29, 30, 31, 32, 33, 127, 128, 129, 130, 131, 132, 133, 134, 135, 136, 137, 138, 139, 140, 141, 142, 143, 144, 145, 146] (by decide +kernel) (by decide +kernel)
set_option maxRecDepth 20000 in
theorem gL_numbersFit_X3_cellOf : GoodIn wsL_numbersFit (wsV RL 30 RX3 yX3_cellOf wsX3_cellOf) := goodIn_app (goodIn_of _ (by decide +kernel)) ggL_numbersFit_X3_cellOf
set_option maxRecDepth 20000 in
theorem ggL_numbersFit_X3_count : GoodIn wsL_numbersFit wsX3_count := goodIn_r _ [48, 9, 38, 49, 50, 51, 52, 53, 54, 55, 56, 57, 58, 8, 59, 60, 61, 20, 62, 63, 64, 65, 66, 67, 68, 17, 18, 19, 21, 22, 69, 70, 71, 72, 127, 128, 129, 130, 131, 132, 133, 134, 135, 136, 137, 138, 139, 140, 141, 142, 143, 144, 145, 146, 147, 148] (by decide +kernel) (by decide +kernel)
set_option maxRecDepth 20000 in
theorem gL_numbersFit_X3_count : GoodIn wsL_numbersFit (wsV RL 21 RX3 yX3_count wsX3_count) := goodIn_app (goodIn_of _ (by decide +kernel)) ggL_numbersFit_X3_count
set_option maxRecDepth 20000 in
theorem ggL_numbersFit_X3_find : GoodIn wsL_numbersFit wsX3_find := goodIn_r _ [76, 8, 9, 11, 77, 78, 6, 79, 80, 81, 82, 83, 20, 84, 63, 127, 128, 129, 130, 131, 132, 133, 134, 135, 136, 137, 138, 139, 140, 141, 142, 143, 144, 145, 146] (by decide +kernel) (by decide +kernel)
set_option maxRecDepth 20000 in
theorem gL_numbersFit_X3_find : GoodIn wsL_numbersFit (wsV RL 39 RX3 yX3_find wsX3_find) := goodIn_app (goodIn_of _ (by decide +kernel)) ggL_numbersFit_X3_find
set_option maxRecDepth 20000 in
theorem ggL_numbersFit_X3_why : GoodIn wsL_numbersFit wsX3_why := goodIn_r _ [88, 9, 89, 90, 91, 20, 92, 33, 27, 93, 94, 95, 63, 28, 15, 6, 16, 127, 128, 129, 130, 131, 132, 133, 134, 135, 136, 137, 138, 139, 140, 141, 142, 143, 144, 145, 146] (by decide +kernel) (by decide +kernel)
set_option maxRecDepth 20000 in
theorem gL_numbersFit_X3_why : GoodIn wsL_numbersFit (wsV RL 42 RX3 yX3_why wsX3_why) := goodIn_app (goodIn_of _ (by decide +kernel)) ggL_numbersFit_X3_why
set_option maxRecDepth 20000 in
theorem ggL_numbersFit_X3_follow : GoodIn wsL_numbersFit wsX3_follow := goodIn_r _ [99, 9, 100, 89, 90, 91, 20, 92, 33, 27, 93, 94, 95, 63, 28, 15, 6, 16, 23, 24, 25, 26, 29, 30, 31, 32, 127, 128, 129, 130, 131, 132, 133, 134, 135, 136, 137, 138, 139, 140, 141, 142, 143, 144, 145, 146] (by decide +kernel) (by decide +kernel)
set_option maxRecDepth 20000 in
theorem gL_numbersFit_X3_follow : GoodIn wsL_numbersFit (wsV RL 45 RX3 yX3_follow wsX3_follow) := goodIn_app (goodIn_of _ (by decide +kernel)) ggL_numbersFit_X3_follow
set_option maxRecDepth 20000 in
theorem ggL_numbersFit_X3_nameOf : GoodIn wsL_numbersFit wsX3_nameOf := goodIn_r _ [104, 9, 100, 10, 89, 90, 91, 20, 92, 33, 27, 93, 94, 95, 63, 28, 15, 6, 16, 127, 128, 129, 130, 131, 132, 133, 134, 135, 136, 137, 138, 139, 140, 141, 142, 143, 144, 145, 146] (by decide +kernel) (by decide +kernel)
set_option maxRecDepth 20000 in
theorem gL_numbersFit_X3_nameOf : GoodIn wsL_numbersFit (wsV RL 48 RX3 yX3_nameOf wsX3_nameOf) := goodIn_app (goodIn_of _ (by decide +kernel)) ggL_numbersFit_X3_nameOf
set_option maxRecDepth 20000 in
theorem ggL_numbersFit_X3_beginning : GoodIn wsL_numbersFit wsX3_beginning := goodIn_r _ [108, 8, 9, 10, 77, 78, 6, 79, 80, 109, 110, 111, 127, 128, 129, 130, 131, 132, 133, 134, 135, 136, 137, 138, 139, 140, 141, 142, 143, 144, 145, 146] (by decide +kernel) (by decide +kernel)
set_option maxRecDepth 20000 in
theorem gL_numbersFit_X3_beginning : GoodIn wsL_numbersFit (wsV RL 51 RX3 yX3_beginning wsX3_beginning) := goodIn_app (goodIn_of _ (by decide +kernel)) ggL_numbersFit_X3_beginning
set_option maxRecDepth 20000 in
theorem ggL_numbersFit_X3_wouldBe : GoodIn wsL_numbersFit wsX3_wouldBe := goodIn_r _ [115, 8, 9, 10, 11, 14, 15, 6, 16, 116, 117, 118, 20, 119, 63, 120, 121, 122, 123, 68, 124, 125, 126, 127, 128, 129, 130, 131, 132, 133, 134, 135, 136, 137, 138, 139, 140, 141, 142, 143, 144, 145, 146] (by decide +kernel) (by decide +kernel)
set_option maxRecDepth 20000 in
theorem gL_numbersFit_X3_wouldBe : GoodIn wsL_numbersFit (wsV RL 54 RX3 yX3_wouldBe wsX3_wouldBe) := goodIn_app (goodIn_of _ (by decide +kernel)) ggL_numbersFit_X3_wouldBe
theorem dL_numbersFit_0 : decode cL_numbersFit 0 = .ok (.iconst 0, 1) := by decide +kernel
theorem dL_numbersFit_1 : decode cL_numbersFit 1 = .ok (.istore_n 1, 1) := by decide +kernel
theorem dL_numbersFit_2 : decode cL_numbersFit 2 = .ok (.iconst 0, 1) := by decide +kernel
theorem dL_numbersFit_3 : decode cL_numbersFit 3 = .ok (.istore_n 2, 1) := by decide +kernel
theorem dL_numbersFit_4 : decode cL_numbersFit 4 = .ok (.iconst 0, 1) := by decide +kernel
theorem dL_numbersFit_5 : decode cL_numbersFit 5 = .ok (.istore_n 3, 1) := by decide +kernel
theorem dL_numbersFit_6 : decode cL_numbersFit 6 = .ok (.iconst 0, 1) := by decide +kernel
theorem dL_numbersFit_7 : decode cL_numbersFit 7 = .ok (.istore 4, 2) := by decide +kernel
theorem dL_numbersFit_9 : decode cL_numbersFit 9 = .ok (.iconst 1, 1) := by decide +kernel
theorem dL_numbersFit_10 : decode cL_numbersFit 10 = .ok (.istore 5, 2) := by decide +kernel
theorem dL_numbersFit_12 : decode cL_numbersFit 12 = .ok (.iconst 0, 1) := by decide +kernel
theorem dL_numbersFit_13 : decode cL_numbersFit 13 = .ok (.istore 6, 2) := by decide +kernel
theorem dL_numbersFit_15 : decode cL_numbersFit 15 = .ok (.iload 6, 2) := by decide +kernel
theorem dL_numbersFit_17 : decode cL_numbersFit 17 = .ok (.bipush 40, 2) := by decide +kernel
theorem dL_numbersFit_19 : decode cL_numbersFit 19 = .ok (.if_icmp .ge 351, 3) := by decide +kernel
theorem dL_numbersFit_22 : decode cL_numbersFit 22 = .ok (.iload 5, 2) := by decide +kernel
theorem dL_numbersFit_24 : decode cL_numbersFit 24 = .ok (.ifCond .eq 346, 3) := by decide +kernel
theorem dL_numbersFit_27 : decode cL_numbersFit 27 = .ok (.aload_n 0, 1) := by decide +kernel
theorem dL_numbersFit_28 : decode cL_numbersFit 28 = .ok (.iload 6, 2) := by decide +kernel
theorem dL_numbersFit_30 : decode cL_numbersFit 30 = .ok (.iconst 0, 1) := by decide +kernel
theorem dL_numbersFit_31 : decode cL_numbersFit 31 = .ok (.invokevirtual 27, 3) := by decide +kernel
theorem dL_numbersFit_34 : decode cL_numbersFit 34 = .ok (.istore 7, 2) := by decide +kernel
theorem dL_numbersFit_36 : decode cL_numbersFit 36 = .ok (.aload_n 0, 1) := by decide +kernel
theorem dL_numbersFit_37 : decode cL_numbersFit 37 = .ok (.iload 6, 2) := by decide +kernel
theorem dL_numbersFit_39 : decode cL_numbersFit 39 = .ok (.iconst 1, 1) := by decide +kernel
theorem dL_numbersFit_40 : decode cL_numbersFit 40 = .ok (.invokevirtual 27, 3) := by decide +kernel
theorem dL_numbersFit_43 : decode cL_numbersFit 43 = .ok (.istore 8, 2) := by decide +kernel
theorem dL_numbersFit_45 : decode cL_numbersFit 45 = .ok (.aload_n 0, 1) := by decide +kernel
theorem dL_numbersFit_46 : decode cL_numbersFit 46 = .ok (.iload 6, 2) := by decide +kernel
theorem dL_numbersFit_48 : decode cL_numbersFit 48 = .ok (.iconst 4, 1) := by decide +kernel
theorem dL_numbersFit_49 : decode cL_numbersFit 49 = .ok (.invokevirtual 27, 3) := by decide +kernel
theorem dL_numbersFit_52 : decode cL_numbersFit 52 = .ok (.istore 9, 2) := by decide +kernel
theorem dL_numbersFit_54 : decode cL_numbersFit 54 = .ok (.iconst 0, 1) := by decide +kernel
theorem dL_numbersFit_55 : decode cL_numbersFit 55 = .ok (.istore 10, 2) := by decide +kernel
theorem dL_numbersFit_57 : decode cL_numbersFit 57 = .ok (.iconst 0, 1) := by decide +kernel
theorem dL_numbersFit_58 : decode cL_numbersFit 58 = .ok (.istore 11, 2) := by decide +kernel
theorem dL_numbersFit_60 : decode cL_numbersFit 60 = .ok (.iload 11, 2) := by decide +kernel
theorem dL_numbersFit_62 : decode cL_numbersFit 62 = .ok (.bipush 18, 2) := by decide +kernel
theorem dL_numbersFit_64 : decode cL_numbersFit 64 = .ok (.if_icmp .ge 43, 3) := by decide +kernel
theorem dL_numbersFit_67 : decode cL_numbersFit 67 = .ok (.iload 10, 2) := by decide +kernel
theorem dL_numbersFit_69 : decode cL_numbersFit 69 = .ok (.iload 9, 2) := by decide +kernel
theorem dL_numbersFit_71 : decode cL_numbersFit 71 = .ok (.ifCond .lt 26, 3) := by decide +kernel
theorem dL_numbersFit_74 : decode cL_numbersFit 74 = .ok (.aload_n 0, 1) := by decide +kernel
theorem dL_numbersFit_75 : decode cL_numbersFit 75 = .ok (.iload 11, 2) := by decide +kernel
theorem dL_numbersFit_77 : decode cL_numbersFit 77 = .ok (.bipush 6, 2) := by decide +kernel
theorem dL_numbersFit_79 : decode cL_numbersFit 79 = .ok (.idiv, 1) := by decide +kernel
theorem dL_numbersFit_80 : decode cL_numbersFit 80 = .ok (.iload 11, 2) := by decide +kernel
theorem dL_numbersFit_82 : decode cL_numbersFit 82 = .ok (.bipush 6, 2) := by decide +kernel
theorem dL_numbersFit_84 : decode cL_numbersFit 84 = .ok (.irem, 1) := by decide +kernel
theorem dL_numbersFit_85 : decode cL_numbersFit 85 = .ok (.invokevirtual 30, 3) := by decide +kernel
theorem dL_numbersFit_88 : decode cL_numbersFit 88 = .ok (.iload 9, 2) := by decide +kernel
theorem dL_numbersFit_90 : decode cL_numbersFit 90 = .ok (.if_icmp .ne 7, 3) := by decide +kernel
theorem dL_numbersFit_93 : decode cL_numbersFit 93 = .ok (.iconst 1, 1) := by decide +kernel
theorem dL_numbersFit_94 : decode cL_numbersFit 94 = .ok (.goto 4, 3) := by decide +kernel
theorem dL_numbersFit_97 : decode cL_numbersFit 97 = .ok (.iconst 0, 1) := by decide +kernel
theorem dL_numbersFit_98 : decode cL_numbersFit 98 = .ok (.iadd, 1) := by decide +kernel
theorem dL_numbersFit_99 : decode cL_numbersFit 99 = .ok (.istore 10, 2) := by decide +kernel
theorem dL_numbersFit_101 : decode cL_numbersFit 101 = .ok (.iinc 11 1, 3) := by decide +kernel
theorem dL_numbersFit_104 : decode cL_numbersFit 104 = .ok (.goto (-44), 3) := by decide +kernel
theorem dL_numbersFit_107 : decode cL_numbersFit 107 = .ok (.iload 7, 2) := by decide +kernel
theorem dL_numbersFit_109 : decode cL_numbersFit 109 = .ok (.ldc 37, 2) := by decide +kernel
theorem dL_numbersFit_111 : decode cL_numbersFit 111 = .ok (.if_icmp .eq 7, 3) := by decide +kernel
theorem dL_numbersFit_114 : decode cL_numbersFit 114 = .ok (.iconst 1, 1) := by decide +kernel
theorem dL_numbersFit_115 : decode cL_numbersFit 115 = .ok (.goto 4, 3) := by decide +kernel
theorem dL_numbersFit_118 : decode cL_numbersFit 118 = .ok (.iconst 0, 1) := by decide +kernel
theorem dL_numbersFit_119 : decode cL_numbersFit 119 = .ok (.istore 11, 2) := by decide +kernel
theorem dL_numbersFit_121 : decode cL_numbersFit 121 = .ok (.iload_n 1, 1) := by decide +kernel
theorem dL_numbersFit_122 : decode cL_numbersFit 122 = .ok (.iload 11, 2) := by decide +kernel
theorem dL_numbersFit_124 : decode cL_numbersFit 124 = .ok (.ifCond .eq 7, 3) := by decide +kernel
theorem dL_numbersFit_127 : decode cL_numbersFit 127 = .ok (.iconst 1, 1) := by decide +kernel
theorem dL_numbersFit_128 : decode cL_numbersFit 128 = .ok (.goto 4, 3) := by decide +kernel
