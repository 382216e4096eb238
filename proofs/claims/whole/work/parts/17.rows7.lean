theorem dX6_noCell_21 : decode cX6_noCell 21 = .ok (.iaload, 1) := by decide +kernel
theorem dX6_noCell_22 : decode cX6_noCell 22 = .ok (.i2l, 1) := by decide +kernel
theorem dX6_noCell_23 : decode cX6_noCell 23 = .ok (.lconst 1, 1) := by decide +kernel
theorem dX6_noCell_24 : decode cX6_noCell 24 = .ok (.lsub, 1) := by decide +kernel
theorem dX6_noCell_25 : decode cX6_noCell 25 = .ok (.invokestatic 78, 3) := by decide +kernel
theorem dX6_noCell_28 : decode cX6_noCell 28 = .ok (.ifCond .eq 7, 3) := by decide +kernel
theorem dX6_noCell_31 : decode cX6_noCell 31 = .ok (.iconst 0, 1) := by decide +kernel
theorem dX6_noCell_32 : decode cX6_noCell 32 = .ok (.goto 4, 3) := by decide +kernel
theorem dX6_noCell_35 : decode cX6_noCell 35 = .ok (.iconst 3, 1) := by decide +kernel
theorem dX6_noCell_36 : decode cX6_noCell 36 = .ok (.ireturn, 1) := by decide +kernel
set_option maxRecDepth 20000 in
theorem ggX6_put_X6_noSheet : GoodIn wsX6_put wsX6_noSheet := goodIn_r _ [6, 7, 8, 9, 5, 10] (by decide +kernel) (by decide +kernel)
set_option maxRecDepth 20000 in
theorem gX6_put_X6_noSheet : GoodIn wsX6_put (va_wsS RX6 110 yX6_noSheet wsX6_noSheet) := goodIn_app (goodIn_of _ (by decide +kernel)) ggX6_put_X6_noSheet
set_option maxRecDepth 20000 in
theorem ggX6_put_X6_refused : GoodIn wsX6_put wsX6_refused := goodIn_r _ [14, 15, 25, 26, 27, 28, 29, 30, 31, 32, 33, 34, 35, 36, 37, 38, 39, 40, 41, 42, 43, 44, 45, 46, 47, 48, 49, 50, 51, 52, 53, 54] (by decide +kernel) (by decide +kernel)
set_option maxRecDepth 20000 in
theorem gX6_put_X6_refused : GoodIn wsX6_put (wsV RX6 114 RX6 yX6_refused wsX6_refused) := goodIn_app (goodIn_of _ (by decide +kernel)) ggX6_put_X6_refused
set_option maxRecDepth 20000 in
theorem ggX6_put_X6_noCell : GoodIn wsX6_put wsX6_noCell := goodIn_r _ [19, 20, 8, 9, 5, 10, 25, 26, 27, 28, 29, 30, 31, 32, 33, 34, 35, 36, 37, 38, 39, 40, 41, 42, 43, 44, 45, 46, 47, 48, 49, 50, 51, 52, 53, 54] (by decide +kernel) (by decide +kernel)
set_option maxRecDepth 20000 in
theorem gX6_put_X6_noCell : GoodIn wsX6_put (wsV RX6 268 RX6 yX6_noCell wsX6_noCell) := goodIn_app (goodIn_of _ (by decide +kernel)) ggX6_put_X6_noCell
set_option maxRecDepth 20000 in
theorem ggX6_put_X6_failed : GoodIn wsX6_put wsX6_failed := goodIn_r _ [24, 15, 25, 26, 27, 28, 29, 30, 31, 32, 33, 34, 35, 36, 37, 38, 39, 40, 41, 42, 43, 44, 45, 46, 47, 48, 49, 50, 51, 52, 53, 54] (by decide +kernel) (by decide +kernel)
set_option maxRecDepth 20000 in
theorem gX6_put_X6_failed : GoodIn wsX6_put (wsV RX6 102 RX6 yX6_failed wsX6_failed) := goodIn_app (goodIn_of _ (by decide +kernel)) ggX6_put_X6_failed
theorem dX6_put_0 : decode cX6_put 0 = .ok (.iload_n 1, 1) := by decide +kernel
theorem dX6_put_1 : decode cX6_put 1 = .ok (.invokestatic 110, 3) := by decide +kernel
theorem dX6_put_4 : decode cX6_put 4 = .ok (.ifCond .eq 9, 3) := by decide +kernel
theorem dX6_put_7 : decode cX6_put 7 = .ok (.aload_n 0, 1) := by decide +kernel
theorem dX6_put_8 : decode cX6_put 8 = .ok (.iconst (-1), 1) := by decide +kernel
theorem dX6_put_9 : decode cX6_put 9 = .ok (.invokevirtual 114, 3) := by decide +kernel
theorem dX6_put_12 : decode cX6_put 12 = .ok (.ireturn, 1) := by decide +kernel
theorem dX6_put_13 : decode cX6_put 13 = .ok (.aload_n 0, 1) := by decide +kernel
theorem dX6_put_14 : decode cX6_put 14 = .ok (.iload_n 1, 1) := by decide +kernel
theorem dX6_put_15 : decode cX6_put 15 = .ok (.iload_n 2, 1) := by decide +kernel
theorem dX6_put_16 : decode cX6_put 16 = .ok (.invokevirtual 268, 3) := by decide +kernel
theorem dX6_put_19 : decode cX6_put 19 = .ok (.ifCond .le 14, 3) := by decide +kernel
theorem dX6_put_22 : decode cX6_put 22 = .ok (.aload_n 0, 1) := by decide +kernel
theorem dX6_put_23 : decode cX6_put 23 = .ok (.aload_n 0, 1) := by decide +kernel
theorem dX6_put_24 : decode cX6_put 24 = .ok (.iload_n 1, 1) := by decide +kernel
theorem dX6_put_25 : decode cX6_put 25 = .ok (.iload_n 2, 1) := by decide +kernel
theorem dX6_put_26 : decode cX6_put 26 = .ok (.invokevirtual 268, 3) := by decide +kernel
theorem dX6_put_29 : decode cX6_put 29 = .ok (.invokevirtual 102, 3) := by decide +kernel
theorem dX6_put_32 : decode cX6_put 32 = .ok (.ireturn, 1) := by decide +kernel
theorem dX6_put_33 : decode cX6_put 33 = .ok (.aload_n 0, 1) := by decide +kernel
theorem dX6_put_34 : decode cX6_put 34 = .ok (.getfield 59, 3) := by decide +kernel
theorem dX6_put_37 : decode cX6_put 37 = .ok (.bipush 60, 2) := by decide +kernel
theorem dX6_put_39 : decode cX6_put 39 = .ok (.iload_n 1, 1) := by decide +kernel
theorem dX6_put_40 : decode cX6_put 40 = .ok (.imul, 1) := by decide +kernel
theorem dX6_put_41 : decode cX6_put 41 = .ok (.iload_n 2, 1) := by decide +kernel
theorem dX6_put_42 : decode cX6_put 42 = .ok (.iadd, 1) := by decide +kernel
theorem dX6_put_43 : decode cX6_put 43 = .ok (.aload_n 0, 1) := by decide +kernel
theorem dX6_put_44 : decode cX6_put 44 = .ok (.getfield 56, 3) := by decide +kernel
theorem dX6_put_47 : decode cX6_put 47 = .ok (.iload_n 1, 1) := by decide +kernel
theorem dX6_put_48 : decode cX6_put 48 = .ok (.iaload, 1) := by decide +kernel
theorem dX6_put_49 : decode cX6_put 49 = .ok (.ifCond .ne 8, 3) := by decide +kernel
theorem dX6_put_52 : decode cX6_put 52 = .ok (.iload_n 3, 1) := by decide +kernel
theorem dX6_put_53 : decode cX6_put 53 = .ok (.i2b, 1) := by decide +kernel
theorem dX6_put_54 : decode cX6_put 54 = .ok (.goto 19, 3) := by decide +kernel
theorem dX6_put_57 : decode cX6_put 57 = .ok (.aload_n 0, 1) := by decide +kernel
theorem dX6_put_58 : decode cX6_put 58 = .ok (.getfield 56, 3) := by decide +kernel
theorem dX6_put_61 : decode cX6_put 61 = .ok (.iload_n 1, 1) := by decide +kernel
theorem dX6_put_62 : decode cX6_put 62 = .ok (.iaload, 1) := by decide +kernel
theorem dX6_put_63 : decode cX6_put 63 = .ok (.iconst 1, 1) := by decide +kernel
theorem dX6_put_64 : decode cX6_put 64 = .ok (.if_icmp .ne 8, 3) := by decide +kernel
theorem dX6_put_67 : decode cX6_put 67 = .ok (.iload_n 3, 1) := by decide +kernel
theorem dX6_put_68 : decode cX6_put 68 = .ok (.i2s, 1) := by decide +kernel
theorem dX6_put_69 : decode cX6_put 69 = .ok (.goto 4, 3) := by decide +kernel
theorem dX6_put_72 : decode cX6_put 72 = .ok (.iload_n 3, 1) := by decide +kernel
theorem dX6_put_73 : decode cX6_put 73 = .ok (.iastore, 1) := by decide +kernel
theorem dX6_put_74 : decode cX6_put 74 = .ok (.aload_n 0, 1) := by decide +kernel
theorem dX6_put_75 : decode cX6_put 75 = .ok (.iconst 1, 1) := by decide +kernel
theorem dX6_put_76 : decode cX6_put 76 = .ok (.invokevirtual 114, 3) := by decide +kernel
theorem dX6_put_79 : decode cX6_put 79 = .ok (.ireturn, 1) := by decide +kernel
set_option maxRecDepth 20000 in
theorem ggX6_cell_X6_noSheet : GoodIn wsX6_cell wsX6_noSheet := goodIn_r _ [9, 10, 11, 12, 8, 13] (by decide +kernel) (by decide +kernel)
set_option maxRecDepth 20000 in
theorem gX6_cell_X6_noSheet : GoodIn wsX6_cell (va_wsS RX6 110 yX6_noSheet wsX6_noSheet) := goodIn_app (goodIn_of _ (by decide +kernel)) ggX6_cell_X6_noSheet
set_option maxRecDepth 20000 in
theorem ggX6_cell_X6_in : GoodIn wsX6_cell wsX6_in := goodIn_r _ [13] (by decide +kernel) (by decide +kernel)
set_option maxRecDepth 20000 in
theorem gX6_cell_X6_in : GoodIn wsX6_cell (va_wsS RX6 78 yX6_in wsX6_in) := goodIn_app (goodIn_of _ (by decide +kernel)) ggX6_cell_X6_in
set_option maxRecDepth 20000 in
theorem ggX6_cell_X6_lost : GoodIn wsX6_cell wsX6_lost := goodIn_r _ [16, 17] (by decide +kernel) (by decide +kernel)
set_option maxRecDepth 20000 in
theorem gX6_cell_X6_lost : GoodIn wsX6_cell (va_wsS RX6 71 yX6_lost wsX6_lost) := goodIn_app (goodIn_of _ (by decide +kernel)) ggX6_cell_X6_lost
set_option maxRecDepth 20000 in
theorem ggX6_cell_X6_failedLong : GoodIn wsX6_cell wsX6_failedLong := goodIn_r _ [21, 1, 14, 15, 8, 16, 17, 26, 27, 28, 29, 30, 31, 32, 33, 34, 35, 36, 37, 38, 39, 40, 41, 42, 43, 44, 45, 46, 47, 48, 49, 50, 51, 52, 53, 54, 55] (by decide +kernel) (by decide +kernel)
set_option maxRecDepth 20000 in
theorem gX6_cell_X6_failedLong : GoodIn wsX6_cell (wsV RX6 271 RX6 yX6_failedLong wsX6_failedLong) := goodIn_app (goodIn_of _ (by decide +kernel)) ggX6_cell_X6_failedLong
set_option maxRecDepth 20000 in
theorem ggX6_cell_X6_noCell : GoodIn wsX6_cell wsX6_noCell := goodIn_r _ [25, 3, 11, 12, 8, 13, 26, 27, 28, 29, 30, 31, 32, 33, 34, 35, 36, 37, 38, 39, 40, 41, 42, 43, 44, 45, 46, 47, 48, 49, 50, 51, 52, 53, 54, 55] (by decide +kernel) (by decide +kernel)
set_option maxRecDepth 20000 in
theorem gX6_cell_X6_noCell : GoodIn wsX6_cell (wsV RX6 268 RX6 yX6_noCell wsX6_noCell) := goodIn_app (goodIn_of _ (by decide +kernel)) ggX6_cell_X6_noCell
theorem dX6_cell_0 : decode cX6_cell 0 = .ok (.aload_n 0, 1) := by decide +kernel
theorem dX6_cell_1 : decode cX6_cell 1 = .ok (.iconst 0, 1) := by decide +kernel
theorem dX6_cell_2 : decode cX6_cell 2 = .ok (.putfield 67, 3) := by decide +kernel
theorem dX6_cell_5 : decode cX6_cell 5 = .ok (.iload_n 1, 1) := by decide +kernel
theorem dX6_cell_6 : decode cX6_cell 6 = .ok (.invokestatic 110, 3) := by decide +kernel
theorem dX6_cell_9 : decode cX6_cell 9 = .ok (.ifCond .ne 15, 3) := by decide +kernel
theorem dX6_cell_12 : decode cX6_cell 12 = .ok (.iload_n 3, 1) := by decide +kernel
theorem dX6_cell_13 : decode cX6_cell 13 = .ok (.i2l, 1) := by decide +kernel
theorem dX6_cell_14 : decode cX6_cell 14 = .ok (.lconst 0, 1) := by decide +kernel
theorem dX6_cell_15 : decode cX6_cell 15 = .ok (.ldc2_w 117, 3) := by decide +kernel
theorem dX6_cell_18 : decode cX6_cell 18 = .ok (.invokestatic 78, 3) := by decide +kernel
theorem dX6_cell_21 : decode cX6_cell 21 = .ok (.ifCond .ne 7, 3) := by decide +kernel
theorem dX6_cell_24 : decode cX6_cell 24 = .ok (.invokestatic 71, 3) := by decide +kernel
theorem dX6_cell_27 : decode cX6_cell 27 = .ok (.lreturn, 1) := by decide +kernel
theorem dX6_cell_28 : decode cX6_cell 28 = .ok (.aload_n 0, 1) := by decide +kernel
theorem dX6_cell_29 : decode cX6_cell 29 = .ok (.getfield 53, 3) := by decide +kernel
theorem dX6_cell_32 : decode cX6_cell 32 = .ok (.iload_n 1, 1) := by decide +kernel
theorem dX6_cell_33 : decode cX6_cell 33 = .ok (.iaload, 1) := by decide +kernel
theorem dX6_cell_34 : decode cX6_cell 34 = .ok (.ifCond .lt 19, 3) := by decide +kernel
theorem dX6_cell_37 : decode cX6_cell 37 = .ok (.aload_n 0, 1) := by decide +kernel
theorem dX6_cell_38 : decode cX6_cell 38 = .ok (.getfield 56, 3) := by decide +kernel
theorem dX6_cell_41 : decode cX6_cell 41 = .ok (.iload_n 1, 1) := by decide +kernel
theorem dX6_cell_42 : decode cX6_cell 42 = .ok (.iaload, 1) := by decide +kernel
theorem dX6_cell_43 : decode cX6_cell 43 = .ok (.iload_n 3, 1) := by decide +kernel
theorem dX6_cell_44 : decode cX6_cell 44 = .ok (.if_icmp .eq 9, 3) := by decide +kernel
theorem dX6_cell_47 : decode cX6_cell 47 = .ok (.aload_n 0, 1) := by decide +kernel
theorem dX6_cell_48 : decode cX6_cell 48 = .ok (.iconst 2, 1) := by decide +kernel
theorem dX6_cell_49 : decode cX6_cell 49 = .ok (.invokevirtual 271, 3) := by decide +kernel
theorem dX6_cell_52 : decode cX6_cell 52 = .ok (.lreturn, 1) := by decide +kernel
theorem dX6_cell_53 : decode cX6_cell 53 = .ok (.aload_n 0, 1) := by decide +kernel
theorem dX6_cell_54 : decode cX6_cell 54 = .ok (.iload_n 1, 1) := by decide +kernel
theorem dX6_cell_55 : decode cX6_cell 55 = .ok (.iload_n 2, 1) := by decide +kernel
theorem dX6_cell_56 : decode cX6_cell 56 = .ok (.invokevirtual 268, 3) := by decide +kernel
theorem dX6_cell_59 : decode cX6_cell 59 = .ok (.ifCond .le 16, 3) := by decide +kernel
theorem dX6_cell_62 : decode cX6_cell 62 = .ok (.aload_n 0, 1) := by decide +kernel
theorem dX6_cell_63 : decode cX6_cell 63 = .ok (.aload_n 0, 1) := by decide +kernel
theorem dX6_cell_64 : decode cX6_cell 64 = .ok (.iload_n 1, 1) := by decide +kernel
theorem dX6_cell_65 : decode cX6_cell 65 = .ok (.iload_n 2, 1) := by decide +kernel
theorem dX6_cell_66 : decode cX6_cell 66 = .ok (.invokevirtual 268, 3) := by decide +kernel
theorem dX6_cell_69 : decode cX6_cell 69 = .ok (.invokevirtual 271, 3) := by decide +kernel
theorem dX6_cell_72 : decode cX6_cell 72 = .ok (.goto 15, 3) := by decide +kernel
theorem dX6_cell_75 : decode cX6_cell 75 = .ok (.aload_n 0, 1) := by decide +kernel
theorem dX6_cell_76 : decode cX6_cell 76 = .ok (.getfield 59, 3) := by decide +kernel
theorem dX6_cell_79 : decode cX6_cell 79 = .ok (.bipush 60, 2) := by decide +kernel
theorem dX6_cell_81 : decode cX6_cell 81 = .ok (.iload_n 1, 1) := by decide +kernel
theorem dX6_cell_82 : decode cX6_cell 82 = .ok (.imul, 1) := by decide +kernel
theorem dX6_cell_83 : decode cX6_cell 83 = .ok (.iload_n 2, 1) := by decide +kernel
theorem dX6_cell_84 : decode cX6_cell 84 = .ok (.iadd, 1) := by decide +kernel
theorem dX6_cell_85 : decode cX6_cell 85 = .ok (.iaload, 1) := by decide +kernel
theorem dX6_cell_86 : decode cX6_cell 86 = .ok (.i2l, 1) := by decide +kernel
theorem dX6_cell_87 : decode cX6_cell 87 = .ok (.lreturn, 1) := by decide +kernel
theorem dX6_isBeyond_0 : decode cX6_isBeyond 0 = .ok (.iload_n 0, 1) := by decide +kernel
theorem dX6_isBeyond_1 : decode cX6_isBeyond 1 = .ok (.ifCond .lt 19, 3) := by decide +kernel
theorem dX6_isBeyond_4 : decode cX6_isBeyond 4 = .ok (.lload_n 1, 1) := by decide +kernel
theorem dX6_isBeyond_5 : decode cX6_isBeyond 5 = .ok (.lconst 0, 1) := by decide +kernel
theorem dX6_isBeyond_6 : decode cX6_isBeyond 6 = .ok (.lcmp, 1) := by decide +kernel
theorem dX6_isBeyond_7 : decode cX6_isBeyond 7 = .ok (.ifCond .lt 13, 3) := by decide +kernel
theorem dX6_isBeyond_10 : decode cX6_isBeyond 10 = .ok (.iload_n 0, 1) := by decide +kernel
theorem dX6_isBeyond_11 : decode cX6_isBeyond 11 = .ok (.i2l, 1) := by decide +kernel
theorem dX6_isBeyond_12 : decode cX6_isBeyond 12 = .ok (.lload_n 1, 1) := by decide +kernel
theorem dX6_isBeyond_13 : decode cX6_isBeyond 13 = .ok (.ladd, 1) := by decide +kernel
theorem dX6_isBeyond_14 : decode cX6_isBeyond 14 = .ok (.iload_n 3, 1) := by decide +kernel
theorem dX6_isBeyond_15 : decode cX6_isBeyond 15 = .ok (.i2l, 1) := by decide +kernel
theorem dX6_isBeyond_16 : decode cX6_isBeyond 16 = .ok (.lcmp, 1) := by decide +kernel
theorem dX6_isBeyond_17 : decode cX6_isBeyond 17 = .ok (.ifCond .le 7, 3) := by decide +kernel
theorem dX6_isBeyond_20 : decode cX6_isBeyond 20 = .ok (.iconst 1, 1) := by decide +kernel
theorem dX6_isBeyond_21 : decode cX6_isBeyond 21 = .ok (.goto 4, 3) := by decide +kernel
theorem dX6_isBeyond_24 : decode cX6_isBeyond 24 = .ok (.iconst 0, 1) := by decide +kernel
theorem dX6_isBeyond_25 : decode cX6_isBeyond 25 = .ok (.ireturn, 1) := by decide +kernel
set_option maxRecDepth 20000 in
theorem ggX6_copy_X6_noSheet : GoodIn wsX6_copy wsX6_noSheet := goodIn_r _ [8, 9, 10, 11, 7, 12] (by decide +kernel) (by decide +kernel)
set_option maxRecDepth 20000 in
theorem gX6_copy_X6_noSheet : GoodIn wsX6_copy (va_wsS RX6 110 yX6_noSheet wsX6_noSheet) := goodIn_app (goodIn_of _ (by decide +kernel)) ggX6_copy_X6_noSheet
set_option maxRecDepth 20000 in
theorem ggX6_copy_X6_refused : GoodIn wsX6_copy wsX6_refused := goodIn_r _ [16, 17, 25, 26, 27, 28, 29, 30, 31, 32, 33, 34, 35, 36, 37, 38, 39, 40, 41, 42, 43, 44, 45, 46, 47, 48, 49, 50, 51, 52, 53, 54] (by decide +kernel) (by decide +kernel)
set_option maxRecDepth 20000 in
theorem gX6_copy_X6_refused : GoodIn wsX6_copy (wsV RX6 114 RX6 yX6_refused wsX6_refused) := goodIn_app (goodIn_of _ (by decide +kernel)) ggX6_copy_X6_refused
set_option maxRecDepth 20000 in
theorem ggX6_copy_X6_failed : GoodIn wsX6_copy wsX6_failed := goodIn_r _ [21, 17, 25, 26, 27, 28, 29, 30, 31, 32, 33, 34, 35, 36, 37, 38, 39, 40, 41, 42, 43, 44, 45, 46, 47, 48, 49, 50, 51, 52, 53, 54] (by decide +kernel) (by decide +kernel)
set_option maxRecDepth 20000 in
theorem gX6_copy_X6_failed : GoodIn wsX6_copy (wsV RX6 102 RX6 yX6_failed wsX6_failed) := goodIn_app (goodIn_of _ (by decide +kernel)) ggX6_copy_X6_failed
set_option maxRecDepth 20000 in
theorem ggX6_copy_X6_isBeyond : GoodIn wsX6_copy wsX6_isBeyond := goodIn_r _ [24] (by decide +kernel) (by decide +kernel)
set_option maxRecDepth 20000 in
theorem gX6_copy_X6_isBeyond : GoodIn wsX6_copy (va_wsS RX6 106 yX6_isBeyond wsX6_isBeyond) := goodIn_app (goodIn_of _ (by decide +kernel)) ggX6_copy_X6_isBeyond
theorem dX6_copy_0 : decode cX6_copy 0 = .ok (.iload_n 1, 1) := by decide +kernel
theorem dX6_copy_1 : decode cX6_copy 1 = .ok (.invokestatic 110, 3) := by decide +kernel
theorem dX6_copy_4 : decode cX6_copy 4 = .ok (.ifCond .ne 10, 3) := by decide +kernel
theorem dX6_copy_7 : decode cX6_copy 7 = .ok (.iload_n 3, 1) := by decide +kernel
theorem dX6_copy_8 : decode cX6_copy 8 = .ok (.invokestatic 110, 3) := by decide +kernel
theorem dX6_copy_11 : decode cX6_copy 11 = .ok (.ifCond .eq 9, 3) := by decide +kernel
theorem dX6_copy_14 : decode cX6_copy 14 = .ok (.aload_n 0, 1) := by decide +kernel
theorem dX6_copy_15 : decode cX6_copy 15 = .ok (.iconst (-1), 1) := by decide +kernel
theorem dX6_copy_16 : decode cX6_copy 16 = .ok (.invokevirtual 114, 3) := by decide +kernel
theorem dX6_copy_19 : decode cX6_copy 19 = .ok (.ireturn, 1) := by decide +kernel
theorem dX6_copy_20 : decode cX6_copy 20 = .ok (.aload_n 0, 1) := by decide +kernel
theorem dX6_copy_21 : decode cX6_copy 21 = .ok (.getfield 53, 3) := by decide +kernel
theorem dX6_copy_24 : decode cX6_copy 24 = .ok (.iload_n 1, 1) := by decide +kernel
theorem dX6_copy_25 : decode cX6_copy 25 = .ok (.iaload, 1) := by decide +kernel
theorem dX6_copy_26 : decode cX6_copy 26 = .ok (.ifCond .lt 12, 3) := by decide +kernel
theorem dX6_copy_29 : decode cX6_copy 29 = .ok (.aload_n 0, 1) := by decide +kernel
theorem dX6_copy_30 : decode cX6_copy 30 = .ok (.getfield 53, 3) := by decide +kernel
theorem dX6_copy_33 : decode cX6_copy 33 = .ok (.iload_n 3, 1) := by decide +kernel
theorem dX6_copy_34 : decode cX6_copy 34 = .ok (.iaload, 1) := by decide +kernel
theorem dX6_copy_35 : decode cX6_copy 35 = .ok (.ifCond .ge 9, 3) := by decide +kernel
theorem dX6_copy_38 : decode cX6_copy 38 = .ok (.aload_n 0, 1) := by decide +kernel
theorem dX6_copy_39 : decode cX6_copy 39 = .ok (.iconst 1, 1) := by decide +kernel
theorem dX6_copy_40 : decode cX6_copy 40 = .ok (.invokevirtual 102, 3) := by decide +kernel
theorem dX6_copy_43 : decode cX6_copy 43 = .ok (.ireturn, 1) := by decide +kernel
theorem dX6_copy_44 : decode cX6_copy 44 = .ok (.aload_n 0, 1) := by decide +kernel
theorem dX6_copy_45 : decode cX6_copy 45 = .ok (.getfield 56, 3) := by decide +kernel
theorem dX6_copy_48 : decode cX6_copy 48 = .ok (.iload_n 1, 1) := by decide +kernel
theorem dX6_copy_49 : decode cX6_copy 49 = .ok (.iaload, 1) := by decide +kernel
theorem dX6_copy_50 : decode cX6_copy 50 = .ok (.aload_n 0, 1) := by decide +kernel
theorem dX6_copy_51 : decode cX6_copy 51 = .ok (.getfield 56, 3) := by decide +kernel
theorem dX6_copy_54 : decode cX6_copy 54 = .ok (.iload_n 3, 1) := by decide +kernel
theorem dX6_copy_55 : decode cX6_copy 55 = .ok (.iaload, 1) := by decide +kernel
theorem dX6_copy_56 : decode cX6_copy 56 = .ok (.if_icmp .eq 9, 3) := by decide +kernel
theorem dX6_copy_59 : decode cX6_copy 59 = .ok (.aload_n 0, 1) := by decide +kernel
theorem dX6_copy_60 : decode cX6_copy 60 = .ok (.iconst 2, 1) := by decide +kernel
theorem dX6_copy_61 : decode cX6_copy 61 = .ok (.invokevirtual 102, 3) := by decide +kernel
theorem dX6_copy_64 : decode cX6_copy 64 = .ok (.ireturn, 1) := by decide +kernel
theorem dX6_copy_65 : decode cX6_copy 65 = .ok (.iload_n 2, 1) := by decide +kernel
theorem dX6_copy_66 : decode cX6_copy 66 = .ok (.iload 5, 2) := by decide +kernel
theorem dX6_copy_68 : decode cX6_copy 68 = .ok (.i2l, 1) := by decide +kernel
theorem dX6_copy_69 : decode cX6_copy 69 = .ok (.aload_n 0, 1) := by decide +kernel
theorem dX6_copy_70 : decode cX6_copy 70 = .ok (.getfield 53, 3) := by decide +kernel
theorem dX6_copy_73 : decode cX6_copy 73 = .ok (.iload_n 1, 1) := by decide +kernel
theorem dX6_copy_74 : decode cX6_copy 74 = .ok (.iaload, 1) := by decide +kernel
theorem dX6_copy_75 : decode cX6_copy 75 = .ok (.invokestatic 106, 3) := by decide +kernel
theorem dX6_copy_78 : decode cX6_copy 78 = .ok (.ifCond .ne 20, 3) := by decide +kernel
theorem dX6_copy_81 : decode cX6_copy 81 = .ok (.iload 4, 2) := by decide +kernel
theorem dX6_copy_83 : decode cX6_copy 83 = .ok (.iload 5, 2) := by decide +kernel
theorem dX6_copy_85 : decode cX6_copy 85 = .ok (.i2l, 1) := by decide +kernel
theorem dX6_copy_86 : decode cX6_copy 86 = .ok (.aload_n 0, 1) := by decide +kernel
theorem dX6_copy_87 : decode cX6_copy 87 = .ok (.getfield 53, 3) := by decide +kernel
theorem dX6_copy_90 : decode cX6_copy 90 = .ok (.iload_n 3, 1) := by decide +kernel
theorem dX6_copy_91 : decode cX6_copy 91 = .ok (.iaload, 1) := by decide +kernel
theorem dX6_copy_92 : decode cX6_copy 92 = .ok (.invokestatic 106, 3) := by decide +kernel
theorem dX6_copy_95 : decode cX6_copy 95 = .ok (.ifCond .eq 9, 3) := by decide +kernel
theorem dX6_copy_98 : decode cX6_copy 98 = .ok (.aload_n 0, 1) := by decide +kernel
theorem dX6_copy_99 : decode cX6_copy 99 = .ok (.iconst 3, 1) := by decide +kernel
theorem dX6_copy_100 : decode cX6_copy 100 = .ok (.invokevirtual 102, 3) := by decide +kernel
theorem dX6_copy_103 : decode cX6_copy 103 = .ok (.ireturn, 1) := by decide +kernel
theorem dX6_copy_104 : decode cX6_copy 104 = .ok (.iconst 0, 1) := by decide +kernel
theorem dX6_copy_105 : decode cX6_copy 105 = .ok (.istore 6, 2) := by decide +kernel
theorem dX6_copy_107 : decode cX6_copy 107 = .ok (.iload 6, 2) := by decide +kernel
theorem dX6_copy_109 : decode cX6_copy 109 = .ok (.iload 5, 2) := by decide +kernel
theorem dX6_copy_111 : decode cX6_copy 111 = .ok (.if_icmp .ge 30, 3) := by decide +kernel
theorem dX6_copy_114 : decode cX6_copy 114 = .ok (.aload_n 0, 1) := by decide +kernel
theorem dX6_copy_115 : decode cX6_copy 115 = .ok (.getfield 62, 3) := by decide +kernel
theorem dX6_copy_118 : decode cX6_copy 118 = .ok (.iload 6, 2) := by decide +kernel
theorem dX6_copy_120 : decode cX6_copy 120 = .ok (.aload_n 0, 1) := by decide +kernel
theorem dX6_copy_121 : decode cX6_copy 121 = .ok (.getfield 59, 3) := by decide +kernel
theorem dX6_copy_124 : decode cX6_copy 124 = .ok (.bipush 60, 2) := by decide +kernel
theorem dX6_copy_126 : decode cX6_copy 126 = .ok (.iload_n 1, 1) := by decide +kernel
theorem dX6_copy_127 : decode cX6_copy 127 = .ok (.imul, 1) := by decide +kernel
theorem dX6_copy_128 : decode cX6_copy 128 = .ok (.iload_n 2, 1) := by decide +kernel
theorem dX6_copy_129 : decode cX6_copy 129 = .ok (.iadd, 1) := by decide +kernel
theorem dX6_copy_130 : decode cX6_copy 130 = .ok (.iload 6, 2) := by decide +kernel
theorem dX6_copy_132 : decode cX6_copy 132 = .ok (.iadd, 1) := by decide +kernel
theorem dX6_copy_133 : decode cX6_copy 133 = .ok (.iaload, 1) := by decide +kernel
theorem dX6_copy_134 : decode cX6_copy 134 = .ok (.iastore, 1) := by decide +kernel
theorem dX6_copy_135 : decode cX6_copy 135 = .ok (.iinc 6 1, 3) := by decide +kernel
theorem dX6_copy_138 : decode cX6_copy 138 = .ok (.goto (-31), 3) := by decide +kernel
theorem dX6_copy_141 : decode cX6_copy 141 = .ok (.iconst 0, 1) := by decide +kernel
theorem dX6_copy_142 : decode cX6_copy 142 = .ok (.istore 6, 2) := by decide +kernel
theorem dX6_copy_144 : decode cX6_copy 144 = .ok (.iload 6, 2) := by decide +kernel
theorem dX6_copy_146 : decode cX6_copy 146 = .ok (.iload 5, 2) := by decide +kernel
theorem dX6_copy_148 : decode cX6_copy 148 = .ok (.if_icmp .ge 31, 3) := by decide +kernel
theorem dX6_copy_151 : decode cX6_copy 151 = .ok (.aload_n 0, 1) := by decide +kernel
theorem dX6_copy_152 : decode cX6_copy 152 = .ok (.getfield 59, 3) := by decide +kernel
theorem dX6_copy_155 : decode cX6_copy 155 = .ok (.bipush 60, 2) := by decide +kernel
theorem dX6_copy_157 : decode cX6_copy 157 = .ok (.iload_n 3, 1) := by decide +kernel
theorem dX6_copy_158 : decode cX6_copy 158 = .ok (.imul, 1) := by decide +kernel
theorem dX6_copy_159 : decode cX6_copy 159 = .ok (.iload 4, 2) := by decide +kernel
theorem dX6_copy_161 : decode cX6_copy 161 = .ok (.iadd, 1) := by decide +kernel
theorem dX6_copy_162 : decode cX6_copy 162 = .ok (.iload 6, 2) := by decide +kernel
theorem dX6_copy_164 : decode cX6_copy 164 = .ok (.iadd, 1) := by decide +kernel
theorem dX6_copy_165 : decode cX6_copy 165 = .ok (.aload_n 0, 1) := by decide +kernel
theorem dX6_copy_166 : decode cX6_copy 166 = .ok (.getfield 62, 3) := by decide +kernel
theorem dX6_copy_169 : decode cX6_copy 169 = .ok (.iload 6, 2) := by decide +kernel
theorem dX6_copy_171 : decode cX6_copy 171 = .ok (.iaload, 1) := by decide +kernel
theorem dX6_copy_172 : decode cX6_copy 172 = .ok (.iastore, 1) := by decide +kernel
theorem dX6_copy_173 : decode cX6_copy 173 = .ok (.iinc 6 1, 3) := by decide +kernel
theorem dX6_copy_176 : decode cX6_copy 176 = .ok (.goto (-32), 3) := by decide +kernel
theorem dX6_copy_179 : decode cX6_copy 179 = .ok (.aload_n 0, 1) := by decide +kernel
theorem dX6_copy_180 : decode cX6_copy 180 = .ok (.iload 5, 2) := by decide +kernel
theorem dX6_copy_182 : decode cX6_copy 182 = .ok (.invokevirtual 114, 3) := by decide +kernel
theorem dX6_copy_185 : decode cX6_copy 185 = .ok (.ireturn, 1) := by decide +kernel
theorem dX6_traced_0 : decode cX6_traced 0 = .ok (.aload_n 0, 1) := by decide +kernel
theorem dX6_traced_1 : decode cX6_traced 1 = .ok (.bipush 31, 2) := by decide +kernel
theorem dX6_traced_3 : decode cX6_traced 3 = .ok (.aload_n 0, 1) := by decide +kernel
theorem dX6_traced_4 : decode cX6_traced 4 = .ok (.getfield 274, 3) := by decide +kernel
theorem dX6_traced_7 : decode cX6_traced 7 = .ok (.imul, 1) := by decide +kernel
theorem dX6_traced_8 : decode cX6_traced 8 = .ok (.iload_n 1, 1) := by decide +kernel
theorem dX6_traced_9 : decode cX6_traced 9 = .ok (.iadd, 1) := by decide +kernel
theorem dX6_traced_10 : decode cX6_traced 10 = .ok (.putfield 274, 3) := by decide +kernel
theorem dX6_traced_13 : decode cX6_traced 13 = .ok (.return_, 1) := by decide +kernel
set_option maxRecDepth 20000 in
theorem ggX6_tell_X6_noPolynomial : GoodIn wsX6_tell wsX6_noPolynomial := goodIn_r _ [6, 7, 8, 9, 5, 10, 31, 32, 33, 34, 35, 36, 37, 38, 39, 40, 41, 42, 43, 44, 45, 46, 47, 48, 49, 50, 51, 52, 53, 54, 55, 56, 57, 58, 59, 60] (by decide +kernel) (by decide +kernel)
set_option maxRecDepth 20000 in
theorem gX6_tell_X6_noPolynomial : GoodIn wsX6_tell (wsV RX6 193 RX6 yX6_noPolynomial wsX6_noPolynomial) := goodIn_app (goodIn_of _ (by decide +kernel)) ggX6_tell_X6_noPolynomial
set_option maxRecDepth 20000 in
theorem ggX6_tell_X6_traced : GoodIn wsX6_tell wsX6_traced := goodIn_r _ [14, 15, 31, 32, 33, 34, 35, 36, 37, 38, 39, 40, 41, 42, 43, 44, 45, 46, 47, 48, 49, 50, 51, 52, 53, 54, 55, 56, 57, 58, 59, 60] (by decide +kernel) (by decide +kernel)
set_option maxRecDepth 20000 in
theorem gX6_tell_X6_traced : GoodIn wsX6_tell (wsV RX6 277 RX6 yX6_traced wsX6_traced) := goodIn_app (goodIn_of _ (by decide +kernel)) ggX6_tell_X6_traced
set_option maxRecDepth 20000 in
theorem ggX6_tell_X6_rootsOf : GoodIn wsX6_tell wsX6_rootsOf := goodIn_r _ [19, 20, 21, 22, 5, 23, 24, 1, 25, 26, 27, 28, 29, 30, 31, 32, 33, 34, 35, 36, 37, 38, 39, 40, 41, 42, 43, 44, 45, 46, 47, 48, 49, 50, 51, 52, 53, 54, 55, 56, 57, 58, 59, 60] (by decide +kernel) (by decide +kernel)
set_option maxRecDepth 20000 in
theorem gX6_tell_X6_rootsOf : GoodIn wsX6_tell (wsV RX6 170 RX6 yX6_rootsOf wsX6_rootsOf) := goodIn_app (goodIn_of _ (by decide +kernel)) ggX6_tell_X6_rootsOf
theorem dX6_tell_0 : decode cX6_tell 0 = .ok (.aload_n 0, 1) := by decide +kernel
theorem dX6_tell_1 : decode cX6_tell 1 = .ok (.iload_n 1, 1) := by decide +kernel
theorem dX6_tell_2 : decode cX6_tell 2 = .ok (.invokevirtual 193, 3) := by decide +kernel
theorem dX6_tell_5 : decode cX6_tell 5 = .ok (.ifCond .eq 5, 3) := by decide +kernel
theorem dX6_tell_8 : decode cX6_tell 8 = .ok (.iconst (-1), 1) := by decide +kernel
theorem dX6_tell_9 : decode cX6_tell 9 = .ok (.ireturn, 1) := by decide +kernel
theorem dX6_tell_10 : decode cX6_tell 10 = .ok (.aload_n 0, 1) := by decide +kernel
theorem dX6_tell_11 : decode cX6_tell 11 = .ok (.getfield 7, 3) := by decide +kernel
theorem dX6_tell_14 : decode cX6_tell 14 = .ok (.iload_n 1, 1) := by decide +kernel
theorem dX6_tell_15 : decode cX6_tell 15 = .ok (.iaload, 1) := by decide +kernel
theorem dX6_tell_16 : decode cX6_tell 16 = .ok (.istore_n 2, 1) := by decide +kernel
theorem dX6_tell_17 : decode cX6_tell 17 = .ok (.iload_n 2, 1) := by decide +kernel
theorem dX6_tell_18 : decode cX6_tell 18 = .ok (.iconst 2, 1) := by decide +kernel
theorem dX6_tell_19 : decode cX6_tell 19 = .ok (.if_icmp .ne 8, 3) := by decide +kernel
theorem dX6_tell_22 : decode cX6_tell 22 = .ok (.aload_n 0, 1) := by decide +kernel
theorem dX6_tell_23 : decode cX6_tell 23 = .ok (.iconst 3, 1) := by decide +kernel
theorem dX6_tell_24 : decode cX6_tell 24 = .ok (.invokevirtual 277, 3) := by decide +kernel
theorem dX6_tell_27 : decode cX6_tell 27 = .ok (.iload_n 2, 1) := by decide +kernel
theorem dX6_tell_28 : decode cX6_tell 28 = .ok (.ifCond .le 8, 3) := by decide +kernel
theorem dX6_tell_31 : decode cX6_tell 31 = .ok (.aload_n 0, 1) := by decide +kernel
theorem dX6_tell_32 : decode cX6_tell 32 = .ok (.iconst 2, 1) := by decide +kernel
theorem dX6_tell_33 : decode cX6_tell 33 = .ok (.invokevirtual 277, 3) := by decide +kernel
theorem dX6_tell_36 : decode cX6_tell 36 = .ok (.aload_n 0, 1) := by decide +kernel
theorem dX6_tell_37 : decode cX6_tell 37 = .ok (.iconst 1, 1) := by decide +kernel
theorem dX6_tell_38 : decode cX6_tell 38 = .ok (.invokevirtual 277, 3) := by decide +kernel
theorem dX6_tell_41 : decode cX6_tell 41 = .ok (.iload_n 2, 1) := by decide +kernel
theorem dX6_tell_42 : decode cX6_tell 42 = .ok (.iconst 2, 1) := by decide +kernel
theorem dX6_tell_43 : decode cX6_tell 43 = .ok (.if_icmp .ne 8, 3) := by decide +kernel
theorem dX6_tell_46 : decode cX6_tell 46 = .ok (.aload_n 0, 1) := by decide +kernel
theorem dX6_tell_47 : decode cX6_tell 47 = .ok (.iconst 1, 1) := by decide +kernel
theorem dX6_tell_48 : decode cX6_tell 48 = .ok (.invokevirtual 277, 3) := by decide +kernel
theorem dX6_tell_51 : decode cX6_tell 51 = .ok (.aload_n 0, 1) := by decide +kernel
theorem dX6_tell_52 : decode cX6_tell 52 = .ok (.iload_n 1, 1) := by decide +kernel
theorem dX6_tell_53 : decode cX6_tell 53 = .ok (.invokevirtual 170, 3) := by decide +kernel
theorem dX6_tell_56 : decode cX6_tell 56 = .ok (.istore_n 3, 1) := by decide +kernel
theorem dX6_tell_57 : decode cX6_tell 57 = .ok (.iload_n 2, 1) := by decide +kernel
theorem dX6_tell_58 : decode cX6_tell 58 = .ok (.ifCond .ne 7, 3) := by decide +kernel
theorem dX6_tell_61 : decode cX6_tell 61 = .ok (.iload_n 3, 1) := by decide +kernel
theorem dX6_tell_62 : decode cX6_tell 62 = .ok (.goto 21, 3) := by decide +kernel
theorem dX6_tell_65 : decode cX6_tell 65 = .ok (.iload_n 2, 1) := by decide +kernel
theorem dX6_tell_66 : decode cX6_tell 66 = .ok (.iconst 1, 1) := by decide +kernel
theorem dX6_tell_67 : decode cX6_tell 67 = .ok (.if_icmp .ne 10, 3) := by decide +kernel
theorem dX6_tell_70 : decode cX6_tell 70 = .ok (.iload_n 3, 1) := by decide +kernel
theorem dX6_tell_71 : decode cX6_tell 71 = .ok (.bipush 100, 2) := by decide +kernel
theorem dX6_tell_73 : decode cX6_tell 73 = .ok (.iadd, 1) := by decide +kernel
theorem dX6_tell_74 : decode cX6_tell 74 = .ok (.goto 9, 3) := by decide +kernel
theorem dX6_tell_77 : decode cX6_tell 77 = .ok (.iconst 2, 1) := by decide +kernel
theorem dX6_tell_78 : decode cX6_tell 78 = .ok (.iload_n 3, 1) := by decide +kernel
theorem dX6_tell_79 : decode cX6_tell 79 = .ok (.imul, 1) := by decide +kernel
theorem dX6_tell_80 : decode cX6_tell 80 = .ok (.bipush 100, 2) := by decide +kernel
theorem dX6_tell_82 : decode cX6_tell 82 = .ok (.iadd, 1) := by decide +kernel
theorem dX6_tell_83 : decode cX6_tell 83 = .ok (.ireturn, 1) := by decide +kernel
set_option maxRecDepth 20000 in
theorem ggX6_call_X6_noPolynomial : GoodIn wsX6_call wsX6_noPolynomial := goodIn_r _ [6, 7, 8, 9, 5, 10, 16, 17, 18, 19, 20, 21, 22, 23, 24, 25, 26, 27, 28, 29, 30, 31, 32, 33, 34, 35, 36, 37, 38, 39, 40, 41, 42, 43, 44, 45] (by decide +kernel) (by decide +kernel)
set_option maxRecDepth 20000 in
theorem gX6_call_X6_noPolynomial : GoodIn wsX6_call (wsV RX6 193 RX6 yX6_noPolynomial wsX6_noPolynomial) := goodIn_app (goodIn_of _ (by decide +kernel)) ggX6_call_X6_noPolynomial
set_option maxRecDepth 20000 in
theorem ggX6_call_X6_traced : GoodIn wsX6_call wsX6_traced := goodIn_r _ [14, 15, 16, 17, 18, 19, 20, 21, 22, 23, 24, 25, 26, 27, 28, 29, 30, 31, 32, 33, 34, 35, 36, 37, 38, 39, 40, 41, 42, 43, 44, 45] (by decide +kernel) (by decide +kernel)
set_option maxRecDepth 20000 in
theorem gX6_call_X6_traced : GoodIn wsX6_call (wsV RX6 277 RX6 yX6_traced wsX6_traced) := goodIn_app (goodIn_of _ (by decide +kernel)) ggX6_call_X6_traced
theorem dX6_call_0 : decode cX6_call 0 = .ok (.aload_n 0, 1) := by decide +kernel
theorem dX6_call_1 : decode cX6_call 1 = .ok (.iload_n 1, 1) := by decide +kernel
theorem dX6_call_2 : decode cX6_call 2 = .ok (.invokevirtual 193, 3) := by decide +kernel
theorem dX6_call_5 : decode cX6_call 5 = .ok (.ifCond .eq 5, 3) := by decide +kernel
theorem dX6_call_8 : decode cX6_call 8 = .ok (.iconst (-1), 1) := by decide +kernel
theorem dX6_call_9 : decode cX6_call 9 = .ok (.ireturn, 1) := by decide +kernel
theorem dX6_call_10 : decode cX6_call 10 = .ok (.aload_n 0, 1) := by decide +kernel
theorem dX6_call_11 : decode cX6_call 11 = .ok (.aload_n 0, 1) := by decide +kernel
theorem dX6_call_12 : decode cX6_call 12 = .ok (.getfield 7, 3) := by decide +kernel
theorem dX6_call_15 : decode cX6_call 15 = .ok (.iload_n 1, 1) := by decide +kernel
theorem dX6_call_16 : decode cX6_call 16 = .ok (.iaload, 1) := by decide +kernel
theorem dX6_call_17 : decode cX6_call 17 = .ok (.iconst 2, 1) := by decide +kernel
theorem dX6_call_18 : decode cX6_call 18 = .ok (.if_icmp .ne 7, 3) := by decide +kernel
theorem dX6_call_21 : decode cX6_call 21 = .ok (.iconst 5, 1) := by decide +kernel
theorem dX6_call_22 : decode cX6_call 22 = .ok (.goto 4, 3) := by decide +kernel
theorem dX6_call_25 : decode cX6_call 25 = .ok (.iconst 4, 1) := by decide +kernel
theorem dX6_call_26 : decode cX6_call 26 = .ok (.invokevirtual 277, 3) := by decide +kernel
theorem dX6_call_29 : decode cX6_call 29 = .ok (.aload_n 0, 1) := by decide +kernel
theorem dX6_call_30 : decode cX6_call 30 = .ok (.getfield 7, 3) := by decide +kernel
theorem dX6_call_33 : decode cX6_call 33 = .ok (.iload_n 1, 1) := by decide +kernel
theorem dX6_call_34 : decode cX6_call 34 = .ok (.iaload, 1) := by decide +kernel
theorem dX6_call_35 : decode cX6_call 35 = .ok (.iconst 2, 1) := by decide +kernel
theorem dX6_call_36 : decode cX6_call 36 = .ok (.if_icmp .ne 8, 3) := by decide +kernel
theorem dX6_call_39 : decode cX6_call 39 = .ok (.bipush 60, 2) := by decide +kernel
theorem dX6_call_41 : decode cX6_call 41 = .ok (.goto 4, 3) := by decide +kernel
theorem dX6_call_44 : decode cX6_call 44 = .ok (.iload_n 1, 1) := by decide +kernel
theorem dX6_call_45 : decode cX6_call 45 = .ok (.ireturn, 1) := by decide +kernel
set_option maxRecDepth 20000 in
theorem ggX6_as_X6_noPolynomial : GoodIn wsX6_as wsX6_noPolynomial := goodIn_r _ [7, 8, 9, 10, 6, 11, 21, 22, 23, 24, 25, 26, 27, 28, 29, 30, 31, 32, 33, 34, 35, 36, 37, 38, 39, 40, 41, 42, 43, 44, 45, 46, 47, 48, 49, 50] (by decide +kernel) (by decide +kernel)
set_option maxRecDepth 20000 in
theorem gX6_as_X6_noPolynomial : GoodIn wsX6_as (wsV RX6 193 RX6 yX6_noPolynomial wsX6_noPolynomial) := goodIn_app (goodIn_of _ (by decide +kernel)) ggX6_as_X6_noPolynomial
set_option maxRecDepth 20000 in
theorem ggX6_as_X6_refused : GoodIn wsX6_as wsX6_refused := goodIn_r _ [15, 16, 21, 22, 23, 24, 25, 26, 27, 28, 29, 30, 31, 32, 33, 34, 35, 36, 37, 38, 39, 40, 41, 42, 43, 44, 45, 46, 47, 48, 49, 50] (by decide +kernel) (by decide +kernel)
set_option maxRecDepth 20000 in
theorem gX6_as_X6_refused : GoodIn wsX6_as (wsV RX6 114 RX6 yX6_refused wsX6_refused) := goodIn_app (goodIn_of _ (by decide +kernel)) ggX6_as_X6_refused
set_option maxRecDepth 20000 in
theorem ggX6_as_X6_in : GoodIn wsX6_as wsX6_in := goodIn_r _ [11] (by decide +kernel) (by decide +kernel)
set_option maxRecDepth 20000 in
theorem gX6_as_X6_in : GoodIn wsX6_as (va_wsS RX6 78 yX6_in wsX6_in) := goodIn_app (goodIn_of _ (by decide +kernel)) ggX6_as_X6_in
set_option maxRecDepth 20000 in
theorem ggX6_as_X6_failed : GoodIn wsX6_as wsX6_failed := goodIn_r _ [20, 16, 21, 22, 23, 24, 25, 26, 27, 28, 29, 30, 31, 32, 33, 34, 35, 36, 37, 38, 39, 40, 41, 42, 43, 44, 45, 46, 47, 48, 49, 50] (by decide +kernel) (by decide +kernel)
set_option maxRecDepth 20000 in
theorem gX6_as_X6_failed : GoodIn wsX6_as (wsV RX6 102 RX6 yX6_failed wsX6_failed) := goodIn_app (goodIn_of _ (by decide +kernel)) ggX6_as_X6_failed
theorem dX6_as_0 : decode cX6_as 0 = .ok (.aload_n 0, 1) := by decide +kernel
theorem dX6_as_1 : decode cX6_as 1 = .ok (.iload_n 1, 1) := by decide +kernel
theorem dX6_as_2 : decode cX6_as 2 = .ok (.invokevirtual 193, 3) := by decide +kernel
theorem dX6_as_5 : decode cX6_as 5 = .ok (.ifCond .eq 9, 3) := by decide +kernel
theorem dX6_as_8 : decode cX6_as 8 = .ok (.aload_n 0, 1) := by decide +kernel
theorem dX6_as_9 : decode cX6_as 9 = .ok (.iconst (-1), 1) := by decide +kernel
theorem dX6_as_10 : decode cX6_as 10 = .ok (.invokevirtual 114, 3) := by decide +kernel
theorem dX6_as_13 : decode cX6_as 13 = .ok (.ireturn, 1) := by decide +kernel
theorem dX6_as_14 : decode cX6_as 14 = .ok (.iload_n 2, 1) := by decide +kernel
theorem dX6_as_15 : decode cX6_as 15 = .ok (.i2l, 1) := by decide +kernel
theorem dX6_as_16 : decode cX6_as 16 = .ok (.lconst 0, 1) := by decide +kernel
theorem dX6_as_17 : decode cX6_as 17 = .ok (.ldc2_w 117, 3) := by decide +kernel
theorem dX6_as_20 : decode cX6_as 20 = .ok (.invokestatic 78, 3) := by decide +kernel
theorem dX6_as_23 : decode cX6_as 23 = .ok (.ifCond .ne 10, 3) := by decide +kernel
theorem dX6_as_26 : decode cX6_as 26 = .ok (.aload_n 0, 1) := by decide +kernel
theorem dX6_as_27 : decode cX6_as 27 = .ok (.bipush (-2), 2) := by decide +kernel
theorem dX6_as_29 : decode cX6_as 29 = .ok (.invokevirtual 114, 3) := by decide +kernel
theorem dX6_as_32 : decode cX6_as 32 = .ok (.ireturn, 1) := by decide +kernel
theorem dX6_as_33 : decode cX6_as 33 = .ok (.aload_n 0, 1) := by decide +kernel
theorem dX6_as_34 : decode cX6_as 34 = .ok (.getfield 7, 3) := by decide +kernel
theorem dX6_as_37 : decode cX6_as 37 = .ok (.iload_n 1, 1) := by decide +kernel
theorem dX6_as_38 : decode cX6_as 38 = .ok (.iaload, 1) := by decide +kernel
theorem dX6_as_39 : decode cX6_as 39 = .ok (.iload_n 2, 1) := by decide +kernel
theorem dX6_as_40 : decode cX6_as 40 = .ok (.if_icmp .lt 11, 3) := by decide +kernel
theorem dX6_as_43 : decode cX6_as 43 = .ok (.aload_n 0, 1) := by decide +kernel
theorem dX6_as_44 : decode cX6_as 44 = .ok (.iconst 1, 1) := by decide +kernel
theorem dX6_as_45 : decode cX6_as 45 = .ok (.invokevirtual 114, 3) := by decide +kernel
theorem dX6_as_48 : decode cX6_as 48 = .ok (.goto 8, 3) := by decide +kernel
theorem dX6_as_51 : decode cX6_as 51 = .ok (.aload_n 0, 1) := by decide +kernel
theorem dX6_as_52 : decode cX6_as 52 = .ok (.iconst 2, 1) := by decide +kernel
theorem dX6_as_53 : decode cX6_as 53 = .ok (.invokevirtual 102, 3) := by decide +kernel
theorem dX6_as_56 : decode cX6_as 56 = .ok (.ireturn, 1) := by decide +kernel
theorem dX6_trace_0 : decode cX6_trace 0 = .ok (.aload_n 0, 1) := by decide +kernel
theorem dX6_trace_1 : decode cX6_trace 1 = .ok (.getfield 274, 3) := by decide +kernel
theorem dX6_trace_4 : decode cX6_trace 4 = .ok (.ireturn, 1) := by decide +kernel
theorem dX6_fault_0 : decode cX6_fault 0 = .ok (.aload_n 0, 1) := by decide +kernel
theorem dX6_fault_1 : decode cX6_fault 1 = .ok (.getfield 67, 3) := by decide +kernel
theorem dX6_fault_4 : decode cX6_fault 4 = .ok (.ireturn, 1) := by decide +kernel
set_option maxRecDepth 20000 in
theorem ggX6_many_X6_rootsOf : GoodIn wsX6_many wsX6_rootsOf := goodIn_r _ [7, 8, 9, 10, 6, 11, 12, 13, 14, 15, 16, 17, 18, 19, 24, 25, 26, 27, 28, 29, 30, 31, 32, 33, 34, 35, 36, 37, 38, 39, 40, 41, 42, 43, 44, 45, 46, 47, 48, 49, 50, 51, 52, 53] (by decide +kernel) (by decide +kernel)
set_option maxRecDepth 20000 in
theorem gX6_many_X6_rootsOf : GoodIn wsX6_many (wsV RX6 170 RX6 yX6_rootsOf wsX6_rootsOf) := goodIn_app (goodIn_of _ (by decide +kernel)) ggX6_many_X6_rootsOf
set_option maxRecDepth 20000 in
theorem ggX6_many_X6_isNothing : GoodIn wsX6_many wsX6_isNothing := goodIn_r _ [23, 8, 9, 10, 6, 11, 12, 13, 14, 24, 25, 26, 27, 28, 29, 30, 31, 32, 33, 34, 35, 36, 37, 38, 39, 40, 41, 42, 43, 44, 45, 46, 47, 48, 49, 50, 51, 52, 53] (by decide +kernel) (by decide +kernel)
set_option maxRecDepth 20000 in
theorem gX6_many_X6_isNothing : GoodIn wsX6_many (wsV RX6 254 RX6 yX6_isNothing wsX6_isNothing) := goodIn_app (goodIn_of _ (by decide +kernel)) ggX6_many_X6_isNothing
theorem dX6_many_0 : decode cX6_many 0 = .ok (.iconst 0, 1) := by decide +kernel
theorem dX6_many_1 : decode cX6_many 1 = .ok (.istore_n 2, 1) := by decide +kernel
theorem dX6_many_2 : decode cX6_many 2 = .ok (.iconst 0, 1) := by decide +kernel
theorem dX6_many_3 : decode cX6_many 3 = .ok (.istore_n 3, 1) := by decide +kernel
theorem dX6_many_4 : decode cX6_many 4 = .ok (.iconst 0, 1) := by decide +kernel
theorem dX6_many_5 : decode cX6_many 5 = .ok (.istore 4, 2) := by decide +kernel
theorem dX6_many_7 : decode cX6_many 7 = .ok (.iload 4, 2) := by decide +kernel
theorem dX6_many_9 : decode cX6_many 9 = .ok (.aload_n 0, 1) := by decide +kernel
theorem dX6_many_10 : decode cX6_many 10 = .ok (.getfield 75, 3) := by decide +kernel
theorem dX6_many_13 : decode cX6_many 13 = .ok (.if_icmp .ge 35, 3) := by decide +kernel
theorem dX6_many_16 : decode cX6_many 16 = .ok (.iload_n 2, 1) := by decide +kernel
theorem dX6_many_17 : decode cX6_many 17 = .ok (.aload_n 0, 1) := by decide +kernel
theorem dX6_many_18 : decode cX6_many 18 = .ok (.iload 4, 2) := by decide +kernel
theorem dX6_many_20 : decode cX6_many 20 = .ok (.invokevirtual 170, 3) := by decide +kernel
theorem dX6_many_23 : decode cX6_many 23 = .ok (.iadd, 1) := by decide +kernel
theorem dX6_many_24 : decode cX6_many 24 = .ok (.istore_n 2, 1) := by decide +kernel
theorem dX6_many_25 : decode cX6_many 25 = .ok (.iload_n 3, 1) := by decide +kernel
theorem dX6_many_26 : decode cX6_many 26 = .ok (.aload_n 0, 1) := by decide +kernel
theorem dX6_many_27 : decode cX6_many 27 = .ok (.iload 4, 2) := by decide +kernel
theorem dX6_many_29 : decode cX6_many 29 = .ok (.invokevirtual 254, 3) := by decide +kernel
theorem dX6_many_32 : decode cX6_many 32 = .ok (.ifCond .eq 7, 3) := by decide +kernel
theorem dX6_many_35 : decode cX6_many 35 = .ok (.iconst 1, 1) := by decide +kernel
theorem dX6_many_36 : decode cX6_many 36 = .ok (.goto 4, 3) := by decide +kernel
theorem dX6_many_39 : decode cX6_many 39 = .ok (.iconst 0, 1) := by decide +kernel
theorem dX6_many_40 : decode cX6_many 40 = .ok (.iadd, 1) := by decide +kernel
theorem dX6_many_41 : decode cX6_many 41 = .ok (.istore_n 3, 1) := by decide +kernel
theorem dX6_many_42 : decode cX6_many 42 = .ok (.iinc 4 1, 3) := by decide +kernel
theorem dX6_many_45 : decode cX6_many 45 = .ok (.goto (-38), 3) := by decide +kernel
theorem dX6_many_48 : decode cX6_many 48 = .ok (.iload_n 1, 1) := by decide +kernel
theorem dX6_many_49 : decode cX6_many 49 = .ok (.tableswitch 45 0 3 #[31, 36, 38, 40], 31) := by decide +kernel
theorem dX6_many_80 : decode cX6_many 80 = .ok (.aload_n 0, 1) := by decide +kernel
theorem dX6_many_81 : decode cX6_many 81 = .ok (.getfield 75, 3) := by decide +kernel
theorem dX6_many_84 : decode cX6_many 84 = .ok (.ireturn, 1) := by decide +kernel
theorem dX6_many_85 : decode cX6_many 85 = .ok (.iload_n 2, 1) := by decide +kernel
theorem dX6_many_86 : decode cX6_many 86 = .ok (.ireturn, 1) := by decide +kernel
theorem dX6_many_87 : decode cX6_many 87 = .ok (.iload_n 3, 1) := by decide +kernel
theorem dX6_many_88 : decode cX6_many 88 = .ok (.ireturn, 1) := by decide +kernel
theorem dX6_many_89 : decode cX6_many 89 = .ok (.aload_n 0, 1) := by decide +kernel
theorem dX6_many_90 : decode cX6_many 90 = .ok (.getfield 126, 3) := by decide +kernel
theorem dX6_many_93 : decode cX6_many 93 = .ok (.ireturn, 1) := by decide +kernel
theorem dX6_many_94 : decode cX6_many 94 = .ok (.bipush (-2), 2) := by decide +kernel
theorem dX6_many_96 : decode cX6_many 96 = .ok (.ireturn, 1) := by decide +kernel
theorem dJ6_signum_0f7a4_0 : decode cJ6_signum_0f7a4 0 = .ok (.iload_n 0, 1) := by decide +kernel
theorem dJ6_signum_0f7a4_1 : decode cJ6_signum_0f7a4 1 = .ok (.bipush 31, 2) := by decide +kernel
theorem dJ6_signum_0f7a4_3 : decode cJ6_signum_0f7a4 3 = .ok (.ishr, 1) := by decide +kernel
theorem dJ6_signum_0f7a4_4 : decode cJ6_signum_0f7a4 4 = .ok (.iload_n 0, 1) := by decide +kernel
theorem dJ6_signum_0f7a4_5 : decode cJ6_signum_0f7a4 5 = .ok (.ineg, 1) := by decide +kernel
theorem dJ6_signum_0f7a4_6 : decode cJ6_signum_0f7a4 6 = .ok (.bipush 31, 2) := by decide +kernel
theorem dJ6_signum_0f7a4_8 : decode cJ6_signum_0f7a4 8 = .ok (.iushr, 1) := by decide +kernel
theorem dJ6_signum_0f7a4_9 : decode cJ6_signum_0f7a4 9 = .ok (.ior, 1) := by decide +kernel
theorem dJ6_signum_0f7a4_10 : decode cJ6_signum_0f7a4 10 = .ok (.ireturn, 1) := by decide +kernel
theorem dJ13_signum_95d88_0 : decode cJ13_signum_95d88 0 = .ok (.lload_n 0, 1) := by decide +kernel
theorem dJ13_signum_95d88_1 : decode cJ13_signum_95d88 1 = .ok (.bipush 63, 2) := by decide +kernel
theorem dJ13_signum_95d88_3 : decode cJ13_signum_95d88 3 = .ok (.lshr, 1) := by decide +kernel
theorem dJ13_signum_95d88_4 : decode cJ13_signum_95d88 4 = .ok (.lload_n 0, 1) := by decide +kernel
theorem dJ13_signum_95d88_5 : decode cJ13_signum_95d88 5 = .ok (.lneg, 1) := by decide +kernel
theorem dJ13_signum_95d88_6 : decode cJ13_signum_95d88 6 = .ok (.bipush 63, 2) := by decide +kernel
theorem dJ13_signum_95d88_8 : decode cJ13_signum_95d88 8 = .ok (.lushr, 1) := by decide +kernel
theorem dJ13_signum_95d88_9 : decode cJ13_signum_95d88 9 = .ok (.lor, 1) := by decide +kernel
theorem dJ13_signum_95d88_10 : decode cJ13_signum_95d88 10 = .ok (.l2i, 1) := by decide +kernel
theorem dJ13_signum_95d88_11 : decode cJ13_signum_95d88 11 = .ok (.ireturn, 1) := by decide +kernel
