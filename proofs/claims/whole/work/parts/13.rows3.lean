theorem dX5_signAt_25 : decode cX5_signAt 25 = .ok (.iload_n 1, 1) := by decide +kernel
theorem dX5_signAt_26 : decode cX5_signAt 26 = .ok (.iconst 2, 1) := by decide +kernel
theorem dX5_signAt_27 : decode cX5_signAt 27 = .ok (.imul, 1) := by decide +kernel
theorem dX5_signAt_28 : decode cX5_signAt 28 = .ok (.iload_n 2, 1) := by decide +kernel
theorem dX5_signAt_29 : decode cX5_signAt 29 = .ok (.iadd, 1) := by decide +kernel
theorem dX5_signAt_30 : decode cX5_signAt 30 = .ok (.invokevirtual 155, 3) := by decide +kernel
theorem dX5_signAt_33 : decode cX5_signAt 33 = .ok (.iconst 1, 1) := by decide +kernel
theorem dX5_signAt_34 : decode cX5_signAt 34 = .ok (.iadd, 1) := by decide +kernel
theorem dX5_signAt_35 : decode cX5_signAt 35 = .ok (.ireturn, 1) := by decide +kernel
set_option maxRecDepth 20000 in
theorem ggX5_more_X5_isPolynomial : GoodIn wsX5_more wsX5_isPolynomial := goodIn_r _ [7, 8, 9, 10, 11, 6, 12, 35, 36, 37, 38, 39, 40, 41, 42, 43, 58, 59, 60] (by decide +kernel) (by decide +kernel)
set_option maxRecDepth 20000 in
theorem gX5_more_X5_isPolynomial : GoodIn wsX5_more (wsV RX5 93 RX5 yX5_isPolynomial wsX5_isPolynomial) := goodIn_app (goodIn_of _ (by decide +kernel)) ggX5_more_X5_isPolynomial
set_option maxRecDepth 20000 in
theorem ggX5_more_X0_signAtRoot : GoodIn wsX5_more wsX0_signAtRoot := goodIn_r _ [17, 18, 19, 20, 21, 22, 23, 24, 25, 26, 27, 28, 29, 16, 30, 31, 32, 33, 34, 44, 45, 46, 47, 48, 49, 50, 51, 52, 53, 54, 55, 56, 57] (by decide +kernel) (by decide +kernel)
set_option maxRecDepth 20000 in
theorem gX5_more_X0_signAtRoot : GoodIn wsX5_more (wsV RX5 155 RX0 yX0_signAtRoot wsX0_signAtRoot) := goodIn_app (goodIn_of _ (by decide +kernel)) ggX5_more_X0_signAtRoot
theorem dX5_more_0 : decode cX5_more 0 = .ok (.aload_n 0, 1) := by decide +kernel
theorem dX5_more_1 : decode cX5_more 1 = .ok (.iload_n 1, 1) := by decide +kernel
theorem dX5_more_2 : decode cX5_more 2 = .ok (.invokevirtual 93, 3) := by decide +kernel
theorem dX5_more_5 : decode cX5_more 5 = .ok (.ifCond .eq 11, 3) := by decide +kernel
theorem dX5_more_8 : decode cX5_more 8 = .ok (.aload_n 0, 1) := by decide +kernel
theorem dX5_more_9 : decode cX5_more 9 = .ok (.iload_n 2, 1) := by decide +kernel
theorem dX5_more_10 : decode cX5_more 10 = .ok (.invokevirtual 93, 3) := by decide +kernel
theorem dX5_more_13 : decode cX5_more 13 = .ok (.ifCond .ne 5, 3) := by decide +kernel
theorem dX5_more_16 : decode cX5_more 16 = .ok (.iconst (-1), 1) := by decide +kernel
theorem dX5_more_17 : decode cX5_more 17 = .ok (.ireturn, 1) := by decide +kernel
theorem dX5_more_18 : decode cX5_more 18 = .ok (.iconst 0, 1) := by decide +kernel
theorem dX5_more_19 : decode cX5_more 19 = .ok (.istore_n 3, 1) := by decide +kernel
theorem dX5_more_20 : decode cX5_more 20 = .ok (.iconst 0, 1) := by decide +kernel
theorem dX5_more_21 : decode cX5_more 21 = .ok (.istore 4, 2) := by decide +kernel
theorem dX5_more_23 : decode cX5_more 23 = .ok (.iload 4, 2) := by decide +kernel
theorem dX5_more_25 : decode cX5_more 25 = .ok (.aload_n 0, 1) := by decide +kernel
theorem dX5_more_26 : decode cX5_more 26 = .ok (.getfield 27, 3) := by decide +kernel
theorem dX5_more_29 : decode cX5_more 29 = .ok (.getfield 99, 3) := by decide +kernel
theorem dX5_more_32 : decode cX5_more 32 = .ok (.iload_n 1, 1) := by decide +kernel
theorem dX5_more_33 : decode cX5_more 33 = .ok (.iaload, 1) := by decide +kernel
theorem dX5_more_34 : decode cX5_more 34 = .ok (.if_icmp .ge 27, 3) := by decide +kernel
theorem dX5_more_37 : decode cX5_more 37 = .ok (.iload_n 3, 1) := by decide +kernel
theorem dX5_more_38 : decode cX5_more 38 = .ok (.aload_n 0, 1) := by decide +kernel
theorem dX5_more_39 : decode cX5_more 39 = .ok (.getfield 27, 3) := by decide +kernel
theorem dX5_more_42 : decode cX5_more 42 = .ok (.iload_n 2, 1) := by decide +kernel
theorem dX5_more_43 : decode cX5_more 43 = .ok (.iconst 0, 1) := by decide +kernel
theorem dX5_more_44 : decode cX5_more 44 = .ok (.iload_n 1, 1) := by decide +kernel
theorem dX5_more_45 : decode cX5_more 45 = .ok (.iconst 2, 1) := by decide +kernel
theorem dX5_more_46 : decode cX5_more 46 = .ok (.imul, 1) := by decide +kernel
theorem dX5_more_47 : decode cX5_more 47 = .ok (.iload 4, 2) := by decide +kernel
theorem dX5_more_49 : decode cX5_more 49 = .ok (.iadd, 1) := by decide +kernel
theorem dX5_more_50 : decode cX5_more 50 = .ok (.invokevirtual 155, 3) := by decide +kernel
theorem dX5_more_53 : decode cX5_more 53 = .ok (.iadd, 1) := by decide +kernel
theorem dX5_more_54 : decode cX5_more 54 = .ok (.istore_n 3, 1) := by decide +kernel
theorem dX5_more_55 : decode cX5_more 55 = .ok (.iinc 4 1, 3) := by decide +kernel
theorem dX5_more_58 : decode cX5_more 58 = .ok (.goto (-35), 3) := by decide +kernel
theorem dX5_more_61 : decode cX5_more 61 = .ok (.iload_n 3, 1) := by decide +kernel
theorem dX5_more_62 : decode cX5_more 62 = .ok (.iconst 2, 1) := by decide +kernel
theorem dX5_more_63 : decode cX5_more 63 = .ok (.iadd, 1) := by decide +kernel
theorem dX5_more_64 : decode cX5_more 64 = .ok (.ireturn, 1) := by decide +kernel
set_option maxRecDepth 20000 in
theorem ggX5_place_X5_isRoot : GoodIn wsX5_place wsX5_isRoot := goodIn_r _ [6, 1, 7, 8, 9, 10, 5, 11, 12, 13, 14, 15, 16, 49, 50, 51, 52, 53, 54, 55, 56, 57, 58, 59, 60, 61, 62, 63, 64, 65, 66, 67, 68, 69, 70, 71, 72, 73, 74] (by decide +kernel) (by decide +kernel)
set_option maxRecDepth 20000 in
theorem gX5_place_X5_isRoot : GoodIn wsX5_place (wsV RX5 149 RX5 yX5_isRoot wsX5_isRoot) := goodIn_app (goodIn_of _ (by decide +kernel)) ggX5_place_X5_isRoot
set_option maxRecDepth 20000 in
theorem ggX5_place_X0_numberOf : GoodIn wsX5_place wsX0_numberOf := goodIn_r _ [21, 22, 23, 24, 25, 26, 20, 27, 28, 29, 30, 31, 32, 33, 34, 35, 36, 37, 38, 39, 40, 41, 42, 43, 44, 45, 46, 47, 48, 58, 59, 60, 61, 62, 63, 64, 65, 66, 67, 68, 69, 70, 71] (by decide +kernel) (by decide +kernel)
set_option maxRecDepth 20000 in
theorem gX5_place_X0_numberOf : GoodIn wsX5_place (wsV RX5 159 RX0 yX0_numberOf wsX0_numberOf) := goodIn_app (goodIn_of _ (by decide +kernel)) ggX5_place_X0_numberOf
theorem dX5_place_0 : decode cX5_place 0 = .ok (.aload_n 0, 1) := by decide +kernel
theorem dX5_place_1 : decode cX5_place 1 = .ok (.iload_n 1, 1) := by decide +kernel
theorem dX5_place_2 : decode cX5_place 2 = .ok (.iload_n 2, 1) := by decide +kernel
theorem dX5_place_3 : decode cX5_place 3 = .ok (.invokevirtual 149, 3) := by decide +kernel
theorem dX5_place_6 : decode cX5_place 6 = .ok (.ifCond .ne 5, 3) := by decide +kernel
theorem dX5_place_9 : decode cX5_place 9 = .ok (.iconst (-1), 1) := by decide +kernel
theorem dX5_place_10 : decode cX5_place 10 = .ok (.ireturn, 1) := by decide +kernel
theorem dX5_place_11 : decode cX5_place 11 = .ok (.aload_n 0, 1) := by decide +kernel
theorem dX5_place_12 : decode cX5_place 12 = .ok (.getfield 27, 3) := by decide +kernel
theorem dX5_place_15 : decode cX5_place 15 = .ok (.iload_n 1, 1) := by decide +kernel
theorem dX5_place_16 : decode cX5_place 16 = .ok (.iload_n 2, 1) := by decide +kernel
theorem dX5_place_17 : decode cX5_place 17 = .ok (.invokevirtual 159, 3) := by decide +kernel
theorem dX5_place_20 : decode cX5_place 20 = .ok (.ireturn, 1) := by decide +kernel
set_option maxRecDepth 20000 in
theorem ggX5_sharers_X5_isBelow : GoodIn wsX5_sharers wsX5_isBelow := goodIn_r _ [9] (by decide +kernel) (by decide +kernel)
set_option maxRecDepth 20000 in
theorem gX5_sharers_X5_isBelow : GoodIn wsX5_sharers (va_wsS RX5 59 yX5_isBelow wsX5_isBelow) := goodIn_app (goodIn_of _ (by decide +kernel)) ggX5_sharers_X5_isBelow
theorem dX5_sharers_0 : decode cX5_sharers 0 = .ok (.aload_n 0, 1) := by decide +kernel
theorem dX5_sharers_1 : decode cX5_sharers 1 = .ok (.getfield 20, 3) := by decide +kernel
theorem dX5_sharers_4 : decode cX5_sharers 4 = .ok (.getfield 92, 3) := by decide +kernel
theorem dX5_sharers_7 : decode cX5_sharers 7 = .ok (.ifCond .ne 6, 3) := by decide +kernel
theorem dX5_sharers_10 : decode cX5_sharers 10 = .ok (.bipush (-3), 2) := by decide +kernel
theorem dX5_sharers_12 : decode cX5_sharers 12 = .ok (.ireturn, 1) := by decide +kernel
theorem dX5_sharers_13 : decode cX5_sharers 13 = .ok (.iload_n 1, 1) := by decide +kernel
theorem dX5_sharers_14 : decode cX5_sharers 14 = .ok (.aload_n 0, 1) := by decide +kernel
theorem dX5_sharers_15 : decode cX5_sharers 15 = .ok (.getfield 27, 3) := by decide +kernel
theorem dX5_sharers_18 : decode cX5_sharers 18 = .ok (.getfield 133, 3) := by decide +kernel
theorem dX5_sharers_21 : decode cX5_sharers 21 = .ok (.invokestatic 59, 3) := by decide +kernel
theorem dX5_sharers_24 : decode cX5_sharers 24 = .ok (.ifCond .ne 5, 3) := by decide +kernel
theorem dX5_sharers_27 : decode cX5_sharers 27 = .ok (.iconst (-1), 1) := by decide +kernel
theorem dX5_sharers_28 : decode cX5_sharers 28 = .ok (.ireturn, 1) := by decide +kernel
theorem dX5_sharers_29 : decode cX5_sharers 29 = .ok (.aload_n 0, 1) := by decide +kernel
theorem dX5_sharers_30 : decode cX5_sharers 30 = .ok (.getfield 27, 3) := by decide +kernel
theorem dX5_sharers_33 : decode cX5_sharers 33 = .ok (.getfield 162, 3) := by decide +kernel
theorem dX5_sharers_36 : decode cX5_sharers 36 = .ok (.iload_n 1, 1) := by decide +kernel
theorem dX5_sharers_37 : decode cX5_sharers 37 = .ok (.iaload, 1) := by decide +kernel
theorem dX5_sharers_38 : decode cX5_sharers 38 = .ok (.ireturn, 1) := by decide +kernel
set_option maxRecDepth 20000 in
theorem ggX5_line_X5_isBelow : GoodIn wsX5_line wsX5_isBelow := goodIn_r _ [9] (by decide +kernel) (by decide +kernel)
set_option maxRecDepth 20000 in
theorem gX5_line_X5_isBelow : GoodIn wsX5_line (va_wsS RX5 59 yX5_isBelow wsX5_isBelow) := goodIn_app (goodIn_of _ (by decide +kernel)) ggX5_line_X5_isBelow
set_option maxRecDepth 20000 in
theorem ggX5_line_X0_spots : GoodIn wsX5_line wsX0_spots := goodIn_r _ [14, 15, 76, 77, 78, 79, 80, 81, 82, 83, 84, 85, 86, 87, 88, 89] (by decide +kernel) (by decide +kernel)
set_option maxRecDepth 20000 in
theorem gX5_line_X0_spots : GoodIn wsX5_line (wsV RX5 165 RX0 yX0_spots wsX0_spots) := goodIn_app (goodIn_of _ (by decide +kernel)) ggX5_line_X0_spots
set_option maxRecDepth 20000 in
theorem ggX5_line_X0_gatherRows : GoodIn wsX5_line wsX0_gatherRows := goodIn_r _ [19, 20, 21, 22, 23, 24, 11, 12, 13, 14, 15, 25, 26, 27, 28, 29, 30, 31, 32, 33, 34, 35, 36, 37, 38, 39, 40, 41, 42, 43, 44, 45, 46, 47, 48, 49, 50, 51, 52, 53, 54, 55, 56, 57, 58, 59, 60, 61, 62, 63, 76, 77, 78, 79, 80, 81, 82, 83, 84, 85, 86, 87, 88, 89] (by decide +kernel) (by decide +kernel)
set_option maxRecDepth 20000 in
theorem gX5_line_X0_gatherRows : GoodIn wsX5_line (wsV RX5 136 RX0 yX0_gatherRows wsX0_gatherRows) := goodIn_app (goodIn_of _ (by decide +kernel)) ggX5_line_X0_gatherRows
theorem dX5_line_0 : decode cX5_line 0 = .ok (.iload_n 1, 1) := by decide +kernel
theorem dX5_line_1 : decode cX5_line 1 = .ok (.iconst 3, 1) := by decide +kernel
theorem dX5_line_2 : decode cX5_line 2 = .ok (.invokestatic 59, 3) := by decide +kernel
theorem dX5_line_5 : decode cX5_line 5 = .ok (.ifCond .ne 6, 3) := by decide +kernel
theorem dX5_line_8 : decode cX5_line 8 = .ok (.bipush (-2), 2) := by decide +kernel
theorem dX5_line_10 : decode cX5_line 10 = .ok (.ireturn, 1) := by decide +kernel
theorem dX5_line_11 : decode cX5_line 11 = .ok (.aload_n 0, 1) := by decide +kernel
theorem dX5_line_12 : decode cX5_line 12 = .ok (.getfield 20, 3) := by decide +kernel
theorem dX5_line_15 : decode cX5_line 15 = .ok (.getfield 92, 3) := by decide +kernel
theorem dX5_line_18 : decode cX5_line 18 = .ok (.ifCond .ne 6, 3) := by decide +kernel
theorem dX5_line_21 : decode cX5_line 21 = .ok (.bipush (-3), 2) := by decide +kernel
theorem dX5_line_23 : decode cX5_line 23 = .ok (.ireturn, 1) := by decide +kernel
theorem dX5_line_24 : decode cX5_line 24 = .ok (.iload_n 1, 1) := by decide +kernel
theorem dX5_line_25 : decode cX5_line 25 = .ok (.ifCond .ne 11, 3) := by decide +kernel
theorem dX5_line_28 : decode cX5_line 28 = .ok (.aload_n 0, 1) := by decide +kernel
theorem dX5_line_29 : decode cX5_line 29 = .ok (.getfield 27, 3) := by decide +kernel
theorem dX5_line_32 : decode cX5_line 32 = .ok (.getfield 133, 3) := by decide +kernel
theorem dX5_line_35 : decode cX5_line 35 = .ok (.ireturn, 1) := by decide +kernel
theorem dX5_line_36 : decode cX5_line 36 = .ok (.iload_n 1, 1) := by decide +kernel
theorem dX5_line_37 : decode cX5_line 37 = .ok (.iconst 1, 1) := by decide +kernel
theorem dX5_line_38 : decode cX5_line 38 = .ok (.if_icmp .ne 11, 3) := by decide +kernel
theorem dX5_line_41 : decode cX5_line 41 = .ok (.aload_n 0, 1) := by decide +kernel
theorem dX5_line_42 : decode cX5_line 42 = .ok (.getfield 27, 3) := by decide +kernel
theorem dX5_line_45 : decode cX5_line 45 = .ok (.invokevirtual 165, 3) := by decide +kernel
theorem dX5_line_48 : decode cX5_line 48 = .ok (.ireturn, 1) := by decide +kernel
theorem dX5_line_49 : decode cX5_line 49 = .ok (.aload_n 0, 1) := by decide +kernel
theorem dX5_line_50 : decode cX5_line 50 = .ok (.getfield 27, 3) := by decide +kernel
theorem dX5_line_53 : decode cX5_line 53 = .ok (.invokevirtual 136, 3) := by decide +kernel
theorem dX5_line_56 : decode cX5_line 56 = .ok (.aload_n 0, 1) := by decide +kernel
theorem dX5_line_57 : decode cX5_line 57 = .ok (.getfield 27, 3) := by decide +kernel
theorem dX5_line_60 : decode cX5_line 60 = .ok (.getfield 139, 3) := by decide +kernel
theorem dX5_line_63 : decode cX5_line 63 = .ok (.ireturn, 1) := by decide +kernel
set_option maxRecDepth 20000 in
theorem ggX5_signIn_X5_isPolynomial : GoodIn wsX5_signIn wsX5_isPolynomial := goodIn_r _ [6, 7, 8, 9, 10, 5, 11, 48, 49, 50, 51, 52, 53, 54, 55, 56, 57, 58, 59] (by decide +kernel) (by decide +kernel)
set_option maxRecDepth 20000 in
theorem gX5_signIn_X5_isPolynomial : GoodIn wsX5_signIn (wsV RX5 93 RX5 yX5_isPolynomial wsX5_isPolynomial) := goodIn_app (goodIn_of _ (by decide +kernel)) ggX5_signIn_X5_isPolynomial
set_option maxRecDepth 20000 in
theorem ggX5_signIn_X0_spots : GoodIn wsX5_signIn wsX0_spots := goodIn_r _ [16, 17, 60, 61, 62, 63, 64, 65, 66, 67, 68, 69, 70, 71, 72, 73] (by decide +kernel) (by decide +kernel)
set_option maxRecDepth 20000 in
theorem gX5_signIn_X0_spots : GoodIn wsX5_signIn (wsV RX5 165 RX0 yX0_spots wsX0_spots) := goodIn_app (goodIn_of _ (by decide +kernel)) ggX5_signIn_X0_spots
set_option maxRecDepth 20000 in
theorem ggX5_signIn_X5_isBelow : GoodIn wsX5_signIn wsX5_isBelow := goodIn_r _ [11] (by decide +kernel) (by decide +kernel)
set_option maxRecDepth 20000 in
theorem gX5_signIn_X5_isBelow : GoodIn wsX5_signIn (va_wsS RX5 59 yX5_isBelow wsX5_isBelow) := goodIn_app (goodIn_of _ (by decide +kernel)) ggX5_signIn_X5_isBelow
set_option maxRecDepth 20000 in
theorem ggX5_signIn_X0_signInSpot : GoodIn wsX5_signIn wsX0_signInSpot := goodIn_r _ [21, 22, 23, 24, 25, 15, 26, 27, 28, 29, 30, 31, 32, 33, 34, 35, 36, 37, 38, 39, 40, 41, 42, 43, 44, 45, 46, 47, 60, 61, 62, 63, 64, 65, 66, 67, 68, 69, 70, 71, 72, 73] (by decide +kernel) (by decide +kernel)
set_option maxRecDepth 20000 in
theorem gX5_signIn_X0_signInSpot : GoodIn wsX5_signIn (wsV RX5 168 RX0 yX0_signInSpot wsX0_signInSpot) := goodIn_app (goodIn_of _ (by decide +kernel)) ggX5_signIn_X0_signInSpot
theorem dX5_signIn_0 : decode cX5_signIn 0 = .ok (.aload_n 0, 1) := by decide +kernel
theorem dX5_signIn_1 : decode cX5_signIn 1 = .ok (.iload_n 2, 1) := by decide +kernel
theorem dX5_signIn_2 : decode cX5_signIn 2 = .ok (.invokevirtual 93, 3) := by decide +kernel
theorem dX5_signIn_5 : decode cX5_signIn 5 = .ok (.ifCond .eq 17, 3) := by decide +kernel
theorem dX5_signIn_8 : decode cX5_signIn 8 = .ok (.iload_n 1, 1) := by decide +kernel
theorem dX5_signIn_9 : decode cX5_signIn 9 = .ok (.aload_n 0, 1) := by decide +kernel
theorem dX5_signIn_10 : decode cX5_signIn 10 = .ok (.getfield 27, 3) := by decide +kernel
theorem dX5_signIn_13 : decode cX5_signIn 13 = .ok (.invokevirtual 165, 3) := by decide +kernel
theorem dX5_signIn_16 : decode cX5_signIn 16 = .ok (.invokestatic 59, 3) := by decide +kernel
theorem dX5_signIn_19 : decode cX5_signIn 19 = .ok (.ifCond .ne 5, 3) := by decide +kernel
theorem dX5_signIn_22 : decode cX5_signIn 22 = .ok (.iconst (-1), 1) := by decide +kernel
theorem dX5_signIn_23 : decode cX5_signIn 23 = .ok (.ireturn, 1) := by decide +kernel
theorem dX5_signIn_24 : decode cX5_signIn 24 = .ok (.aload_n 0, 1) := by decide +kernel
theorem dX5_signIn_25 : decode cX5_signIn 25 = .ok (.getfield 27, 3) := by decide +kernel
theorem dX5_signIn_28 : decode cX5_signIn 28 = .ok (.iload_n 1, 1) := by decide +kernel
theorem dX5_signIn_29 : decode cX5_signIn 29 = .ok (.iload_n 2, 1) := by decide +kernel
theorem dX5_signIn_30 : decode cX5_signIn 30 = .ok (.invokevirtual 168, 3) := by decide +kernel
theorem dX5_signIn_33 : decode cX5_signIn 33 = .ok (.iconst 1, 1) := by decide +kernel
theorem dX5_signIn_34 : decode cX5_signIn 34 = .ok (.iadd, 1) := by decide +kernel
theorem dX5_signIn_35 : decode cX5_signIn 35 = .ok (.ireturn, 1) := by decide +kernel
set_option maxRecDepth 20000 in
theorem ggX5_ofRow_X0_gatherRows : GoodIn wsX5_ofRow wsX0_gatherRows := goodIn_r _ [11, 12, 13, 14, 15, 16, 17, 18, 10, 19, 20, 21, 22, 23, 24, 25, 26, 27, 28, 29, 30, 31, 32, 33, 34, 35, 36, 37, 38, 39, 40, 41, 42, 43, 44, 45, 46, 47, 48, 49, 50, 51, 52, 53, 54, 55, 56, 57, 58, 59, 81, 82, 83, 84, 85, 86, 87, 88, 89, 90, 91, 92, 93, 94] (by decide +kernel) (by decide +kernel)
set_option maxRecDepth 20000 in
theorem gX5_ofRow_X0_gatherRows : GoodIn wsX5_ofRow (wsV RX5 136 RX0 yX0_gatherRows wsX0_gatherRows) := goodIn_app (goodIn_of _ (by decide +kernel)) ggX5_ofRow_X0_gatherRows
set_option maxRecDepth 20000 in
theorem ggX5_ofRow_X5_isBelow : GoodIn wsX5_ofRow wsX5_isBelow := goodIn_r _ [63] (by decide +kernel) (by decide +kernel)
set_option maxRecDepth 20000 in
theorem gX5_ofRow_X5_isBelow : GoodIn wsX5_ofRow (va_wsS RX5 59 yX5_isBelow wsX5_isBelow) := goodIn_app (goodIn_of _ (by decide +kernel)) ggX5_ofRow_X5_isBelow
set_option maxRecDepth 20000 in
theorem ggX5_ofRow_X5_isPolynomial : GoodIn wsX5_ofRow wsX5_isPolynomial := goodIn_r _ [67, 1, 2, 60, 61, 62, 63, 69, 70, 71, 72, 73, 74, 75, 76, 77, 78, 79, 80] (by decide +kernel) (by decide +kernel)
set_option maxRecDepth 20000 in
theorem gX5_ofRow_X5_isPolynomial : GoodIn wsX5_ofRow (wsV RX5 93 RX5 yX5_isPolynomial wsX5_isPolynomial) := goodIn_app (goodIn_of _ (by decide +kernel)) ggX5_ofRow_X5_isPolynomial
set_option maxRecDepth 20000 in
theorem ggX5_ofRow_X0_signInSpot : GoodIn wsX5_ofRow wsX0_signInSpot := goodIn_r _ [29, 30, 31, 32, 33, 10, 34, 35, 36, 37, 38, 39, 40, 41, 42, 43, 44, 45, 46, 47, 48, 49, 50, 51, 52, 53, 54, 55, 81, 82, 83, 84, 85, 86, 87, 88, 89, 90, 91, 92, 93, 94] (by decide +kernel) (by decide +kernel)
set_option maxRecDepth 20000 in
theorem gX5_ofRow_X0_signInSpot : GoodIn wsX5_ofRow (wsV RX5 168 RX0 yX0_signInSpot wsX0_signInSpot) := goodIn_app (goodIn_of _ (by decide +kernel)) ggX5_ofRow_X0_signInSpot
theorem dX5_ofRow_0 : decode cX5_ofRow 0 = .ok (.aload_n 0, 1) := by decide +kernel
theorem dX5_ofRow_1 : decode cX5_ofRow 1 = .ok (.getfield 20, 3) := by decide +kernel
theorem dX5_ofRow_4 : decode cX5_ofRow 4 = .ok (.getfield 92, 3) := by decide +kernel
theorem dX5_ofRow_7 : decode cX5_ofRow 7 = .ok (.ifCond .ne 5, 3) := by decide +kernel
theorem dX5_ofRow_10 : decode cX5_ofRow 10 = .ok (.iconst (-1), 1) := by decide +kernel
theorem dX5_ofRow_11 : decode cX5_ofRow 11 = .ok (.ireturn, 1) := by decide +kernel
theorem dX5_ofRow_12 : decode cX5_ofRow 12 = .ok (.aload_n 0, 1) := by decide +kernel
theorem dX5_ofRow_13 : decode cX5_ofRow 13 = .ok (.getfield 27, 3) := by decide +kernel
theorem dX5_ofRow_16 : decode cX5_ofRow 16 = .ok (.invokevirtual 136, 3) := by decide +kernel
theorem dX5_ofRow_19 : decode cX5_ofRow 19 = .ok (.iload_n 1, 1) := by decide +kernel
theorem dX5_ofRow_20 : decode cX5_ofRow 20 = .ok (.aload_n 0, 1) := by decide +kernel
theorem dX5_ofRow_21 : decode cX5_ofRow 21 = .ok (.getfield 27, 3) := by decide +kernel
theorem dX5_ofRow_24 : decode cX5_ofRow 24 = .ok (.getfield 139, 3) := by decide +kernel
theorem dX5_ofRow_27 : decode cX5_ofRow 27 = .ok (.invokestatic 59, 3) := by decide +kernel
theorem dX5_ofRow_30 : decode cX5_ofRow 30 = .ok (.ifCond .ne 5, 3) := by decide +kernel
theorem dX5_ofRow_33 : decode cX5_ofRow 33 = .ok (.iconst (-1), 1) := by decide +kernel
theorem dX5_ofRow_34 : decode cX5_ofRow 34 = .ok (.ireturn, 1) := by decide +kernel
theorem dX5_ofRow_35 : decode cX5_ofRow 35 = .ok (.iload_n 2, 1) := by decide +kernel
theorem dX5_ofRow_36 : decode cX5_ofRow 36 = .ok (.ifCond .ne 13, 3) := by decide +kernel
theorem dX5_ofRow_39 : decode cX5_ofRow 39 = .ok (.aload_n 0, 1) := by decide +kernel
theorem dX5_ofRow_40 : decode cX5_ofRow 40 = .ok (.getfield 27, 3) := by decide +kernel
theorem dX5_ofRow_43 : decode cX5_ofRow 43 = .ok (.getfield 171, 3) := by decide +kernel
theorem dX5_ofRow_46 : decode cX5_ofRow 46 = .ok (.iload_n 1, 1) := by decide +kernel
theorem dX5_ofRow_47 : decode cX5_ofRow 47 = .ok (.iaload, 1) := by decide +kernel
theorem dX5_ofRow_48 : decode cX5_ofRow 48 = .ok (.ireturn, 1) := by decide +kernel
theorem dX5_ofRow_49 : decode cX5_ofRow 49 = .ok (.iload_n 2, 1) := by decide +kernel
theorem dX5_ofRow_50 : decode cX5_ofRow 50 = .ok (.iconst 1, 1) := by decide +kernel
theorem dX5_ofRow_51 : decode cX5_ofRow 51 = .ok (.if_icmp .ne 13, 3) := by decide +kernel
theorem dX5_ofRow_54 : decode cX5_ofRow 54 = .ok (.aload_n 0, 1) := by decide +kernel
theorem dX5_ofRow_55 : decode cX5_ofRow 55 = .ok (.getfield 27, 3) := by decide +kernel
theorem dX5_ofRow_58 : decode cX5_ofRow 58 = .ok (.getfield 174, 3) := by decide +kernel
theorem dX5_ofRow_61 : decode cX5_ofRow 61 = .ok (.iload_n 1, 1) := by decide +kernel
theorem dX5_ofRow_62 : decode cX5_ofRow 62 = .ok (.iaload, 1) := by decide +kernel
theorem dX5_ofRow_63 : decode cX5_ofRow 63 = .ok (.ireturn, 1) := by decide +kernel
theorem dX5_ofRow_64 : decode cX5_ofRow 64 = .ok (.iload_n 2, 1) := by decide +kernel
theorem dX5_ofRow_65 : decode cX5_ofRow 65 = .ok (.bipush 10, 2) := by decide +kernel
theorem dX5_ofRow_67 : decode cX5_ofRow 67 = .ok (.if_icmp .lt 9, 3) := by decide +kernel
theorem dX5_ofRow_70 : decode cX5_ofRow 70 = .ok (.iload_n 2, 1) := by decide +kernel
theorem dX5_ofRow_71 : decode cX5_ofRow 71 = .ok (.bipush 14, 2) := by decide +kernel
theorem dX5_ofRow_73 : decode cX5_ofRow 73 = .ok (.if_icmp .lt 6, 3) := by decide +kernel
theorem dX5_ofRow_76 : decode cX5_ofRow 76 = .ok (.bipush (-2), 2) := by decide +kernel
theorem dX5_ofRow_78 : decode cX5_ofRow 78 = .ok (.ireturn, 1) := by decide +kernel
theorem dX5_ofRow_79 : decode cX5_ofRow 79 = .ok (.aload_n 0, 1) := by decide +kernel
theorem dX5_ofRow_80 : decode cX5_ofRow 80 = .ok (.iload_n 2, 1) := by decide +kernel
theorem dX5_ofRow_81 : decode cX5_ofRow 81 = .ok (.bipush 10, 2) := by decide +kernel
theorem dX5_ofRow_83 : decode cX5_ofRow 83 = .ok (.isub, 1) := by decide +kernel
theorem dX5_ofRow_84 : decode cX5_ofRow 84 = .ok (.invokevirtual 93, 3) := by decide +kernel
theorem dX5_ofRow_87 : decode cX5_ofRow 87 = .ok (.ifCond .eq 28, 3) := by decide +kernel
theorem dX5_ofRow_90 : decode cX5_ofRow 90 = .ok (.aload_n 0, 1) := by decide +kernel
theorem dX5_ofRow_91 : decode cX5_ofRow 91 = .ok (.getfield 27, 3) := by decide +kernel
theorem dX5_ofRow_94 : decode cX5_ofRow 94 = .ok (.aload_n 0, 1) := by decide +kernel
theorem dX5_ofRow_95 : decode cX5_ofRow 95 = .ok (.getfield 27, 3) := by decide +kernel
theorem dX5_ofRow_98 : decode cX5_ofRow 98 = .ok (.getfield 171, 3) := by decide +kernel
theorem dX5_ofRow_101 : decode cX5_ofRow 101 = .ok (.iload_n 1, 1) := by decide +kernel
theorem dX5_ofRow_102 : decode cX5_ofRow 102 = .ok (.iaload, 1) := by decide +kernel
theorem dX5_ofRow_103 : decode cX5_ofRow 103 = .ok (.iload_n 2, 1) := by decide +kernel
theorem dX5_ofRow_104 : decode cX5_ofRow 104 = .ok (.bipush 10, 2) := by decide +kernel
theorem dX5_ofRow_106 : decode cX5_ofRow 106 = .ok (.isub, 1) := by decide +kernel
theorem dX5_ofRow_107 : decode cX5_ofRow 107 = .ok (.invokevirtual 168, 3) := by decide +kernel
theorem dX5_ofRow_110 : decode cX5_ofRow 110 = .ok (.iconst 1, 1) := by decide +kernel
theorem dX5_ofRow_111 : decode cX5_ofRow 111 = .ok (.iadd, 1) := by decide +kernel
theorem dX5_ofRow_112 : decode cX5_ofRow 112 = .ok (.goto 5, 3) := by decide +kernel
theorem dX5_ofRow_115 : decode cX5_ofRow 115 = .ok (.bipush (-9), 2) := by decide +kernel
theorem dX5_ofRow_117 : decode cX5_ofRow 117 = .ok (.ireturn, 1) := by decide +kernel
set_option maxRecDepth 20000 in
theorem ggX5_wish_X5_isSheet : GoodIn wsX5_wish wsX5_isSheet := goodIn_r _ [10, 11, 12, 9, 13] (by decide +kernel) (by decide +kernel)
set_option maxRecDepth 20000 in
theorem gX5_wish_X5_isSheet : GoodIn wsX5_wish (va_wsS RX5 55 yX5_isSheet wsX5_isSheet) := goodIn_app (goodIn_of _ (by decide +kernel)) ggX5_wish_X5_isSheet
set_option maxRecDepth 20000 in
theorem ggX5_wish_X5_isBelow : GoodIn wsX5_wish wsX5_isBelow := goodIn_r _ [13] (by decide +kernel) (by decide +kernel)
set_option maxRecDepth 20000 in
theorem gX5_wish_X5_isBelow : GoodIn wsX5_wish (va_wsS RX5 59 yX5_isBelow wsX5_isBelow) := goodIn_app (goodIn_of _ (by decide +kernel)) ggX5_wish_X5_isBelow
set_option maxRecDepth 20000 in
theorem ggX5_wish_X5_faultOfCells : GoodIn wsX5_wish wsX5_faultOfCells := goodIn_r _ [16, 17, 18, 19, 20, 21, 22, 23, 80, 81] (by decide +kernel) (by decide +kernel)
set_option maxRecDepth 20000 in
theorem gX5_wish_X5_faultOfCells : GoodIn wsX5_wish (va_wsS RX5 63 yX5_faultOfCells wsX5_faultOfCells) := goodIn_app (goodIn_of _ (by decide +kernel)) ggX5_wish_X5_faultOfCells
set_option maxRecDepth 20000 in
theorem ggX5_wish_X5_failed : GoodIn wsX5_wish wsX5_failed := goodIn_r _ [27, 1, 68, 69, 70, 71, 72, 73, 74, 75, 76] (by decide +kernel) (by decide +kernel)
set_option maxRecDepth 20000 in
theorem gX5_wish_X5_failed : GoodIn wsX5_wish (wsV RX5 67 RX5 yX5_failed wsX5_failed) := goodIn_app (goodIn_of _ (by decide +kernel)) ggX5_wish_X5_failed
set_option maxRecDepth 20000 in
theorem ggX5_wish_X0_spots : GoodIn wsX5_wish wsX0_spots := goodIn_r _ [32, 33, 82, 83, 84, 85, 86, 87, 88, 89, 90, 91, 92, 93, 94, 95] (by decide +kernel) (by decide +kernel)
set_option maxRecDepth 20000 in
theorem gX5_wish_X0_spots : GoodIn wsX5_wish (wsV RX5 165 RX0 yX0_spots wsX0_spots) := goodIn_app (goodIn_of _ (by decide +kernel)) ggX5_wish_X0_spots
set_option maxRecDepth 20000 in
theorem ggX5_wish_X5_meetsWish : GoodIn wsX5_wish wsX5_meetsWish := goodIn_r _ [37, 2, 3, 6, 38, 39, 40, 31, 41, 42, 43, 44, 45, 46, 47, 48, 49, 50, 51, 52, 53, 54, 55, 56, 57, 58, 59, 60, 61, 62, 63, 64, 65, 66, 67, 68, 69, 70, 71, 72, 73, 74, 75, 76, 77, 78, 79, 82, 83, 84, 85, 86, 87, 88, 89, 90, 91, 92, 93, 94, 95] (by decide +kernel) (by decide +kernel)
set_option maxRecDepth 20000 in
theorem gX5_wish_X5_meetsWish : GoodIn wsX5_wish (wsV RX5 177 RX5 yX5_meetsWish wsX5_meetsWish) := goodIn_app (goodIn_of _ (by decide +kernel)) ggX5_wish_X5_meetsWish
theorem dX5_wish_0 : decode cX5_wish 0 = .ok (.aload_n 0, 1) := by decide +kernel
theorem dX5_wish_1 : decode cX5_wish 1 = .ok (.iconst 0, 1) := by decide +kernel
theorem dX5_wish_2 : decode cX5_wish 2 = .ok (.putfield 51, 3) := by decide +kernel
theorem dX5_wish_5 : decode cX5_wish 5 = .ok (.aload_n 0, 1) := by decide +kernel
theorem dX5_wish_6 : decode cX5_wish 6 = .ok (.getfield 20, 3) := by decide +kernel
theorem dX5_wish_9 : decode cX5_wish 9 = .ok (.getfield 92, 3) := by decide +kernel
theorem dX5_wish_12 : decode cX5_wish 12 = .ok (.ifCond .ne 6, 3) := by decide +kernel
theorem dX5_wish_15 : decode cX5_wish 15 = .ok (.bipush (-3), 2) := by decide +kernel
theorem dX5_wish_17 : decode cX5_wish 17 = .ok (.ireturn, 1) := by decide +kernel
theorem dX5_wish_18 : decode cX5_wish 18 = .ok (.iload_n 1, 1) := by decide +kernel
theorem dX5_wish_19 : decode cX5_wish 19 = .ok (.invokestatic 55, 3) := by decide +kernel
theorem dX5_wish_22 : decode cX5_wish 22 = .ok (.ifCond .ne 5, 3) := by decide +kernel
theorem dX5_wish_25 : decode cX5_wish 25 = .ok (.iconst (-1), 1) := by decide +kernel
theorem dX5_wish_26 : decode cX5_wish 26 = .ok (.ireturn, 1) := by decide +kernel
theorem dX5_wish_27 : decode cX5_wish 27 = .ok (.iload_n 2, 1) := by decide +kernel
theorem dX5_wish_28 : decode cX5_wish 28 = .ok (.iconst 3, 1) := by decide +kernel
theorem dX5_wish_29 : decode cX5_wish 29 = .ok (.invokestatic 59, 3) := by decide +kernel
theorem dX5_wish_32 : decode cX5_wish 32 = .ok (.ifCond .ne 6, 3) := by decide +kernel
theorem dX5_wish_35 : decode cX5_wish 35 = .ok (.bipush (-2), 2) := by decide +kernel
theorem dX5_wish_37 : decode cX5_wish 37 = .ok (.ireturn, 1) := by decide +kernel
theorem dX5_wish_38 : decode cX5_wish 38 = .ok (.aload_n 0, 1) := by decide +kernel
theorem dX5_wish_39 : decode cX5_wish 39 = .ok (.getfield 13, 3) := by decide +kernel
theorem dX5_wish_42 : decode cX5_wish 42 = .ok (.iload_n 1, 1) := by decide +kernel
theorem dX5_wish_43 : decode cX5_wish 43 = .ok (.aaload, 1) := by decide +kernel
theorem dX5_wish_44 : decode cX5_wish 44 = .ok (.astore 4, 2) := by decide +kernel
theorem dX5_wish_46 : decode cX5_wish 46 = .ok (.aload 4, 2) := by decide +kernel
theorem dX5_wish_48 : decode cX5_wish 48 = .ok (.iload_n 2, 1) := by decide +kernel
theorem dX5_wish_49 : decode cX5_wish 49 = .ok (.iload_n 3, 1) := by decide +kernel
theorem dX5_wish_50 : decode cX5_wish 50 = .ok (.aload_n 0, 1) := by decide +kernel
theorem dX5_wish_51 : decode cX5_wish 51 = .ok (.getfield 20, 3) := by decide +kernel
theorem dX5_wish_54 : decode cX5_wish 54 = .ok (.getfield 92, 3) := by decide +kernel
theorem dX5_wish_57 : decode cX5_wish 57 = .ok (.invokestatic 63, 3) := by decide +kernel
theorem dX5_wish_60 : decode cX5_wish 60 = .ok (.istore 5, 2) := by decide +kernel
theorem dX5_wish_62 : decode cX5_wish 62 = .ok (.iload 5, 2) := by decide +kernel
theorem dX5_wish_64 : decode cX5_wish 64 = .ok (.ifCond .eq 10, 3) := by decide +kernel
theorem dX5_wish_67 : decode cX5_wish 67 = .ok (.aload_n 0, 1) := by decide +kernel
theorem dX5_wish_68 : decode cX5_wish 68 = .ok (.iload 5, 2) := by decide +kernel
theorem dX5_wish_70 : decode cX5_wish 70 = .ok (.invokevirtual 67, 3) := by decide +kernel
theorem dX5_wish_73 : decode cX5_wish 73 = .ok (.ireturn, 1) := by decide +kernel
theorem dX5_wish_74 : decode cX5_wish 74 = .ok (.aload 4, 2) := by decide +kernel
theorem dX5_wish_76 : decode cX5_wish 76 = .ok (.getfield 71, 3) := by decide +kernel
theorem dX5_wish_79 : decode cX5_wish 79 = .ok (.astore 6, 2) := by decide +kernel
theorem dX5_wish_81 : decode cX5_wish 81 = .ok (.iconst 0, 1) := by decide +kernel
theorem dX5_wish_82 : decode cX5_wish 82 = .ok (.istore 7, 2) := by decide +kernel
theorem dX5_wish_84 : decode cX5_wish 84 = .ok (.iload 7, 2) := by decide +kernel
theorem dX5_wish_86 : decode cX5_wish 86 = .ok (.aload_n 0, 1) := by decide +kernel
theorem dX5_wish_87 : decode cX5_wish 87 = .ok (.getfield 20, 3) := by decide +kernel
theorem dX5_wish_90 : decode cX5_wish 90 = .ok (.getfield 92, 3) := by decide +kernel
theorem dX5_wish_93 : decode cX5_wish 93 = .ok (.if_icmp .ge 33, 3) := by decide +kernel
theorem dX5_wish_96 : decode cX5_wish 96 = .ok (.aload 6, 2) := by decide +kernel
theorem dX5_wish_98 : decode cX5_wish 98 = .ok (.iload_n 3, 1) := by decide +kernel
theorem dX5_wish_99 : decode cX5_wish 99 = .ok (.iload 7, 2) := by decide +kernel
theorem dX5_wish_101 : decode cX5_wish 101 = .ok (.iadd, 1) := by decide +kernel
theorem dX5_wish_102 : decode cX5_wish 102 = .ok (.iaload, 1) := by decide +kernel
theorem dX5_wish_103 : decode cX5_wish 103 = .ok (.ifCond .lt 14, 3) := by decide +kernel
theorem dX5_wish_106 : decode cX5_wish 106 = .ok (.aload 6, 2) := by decide +kernel
theorem dX5_wish_108 : decode cX5_wish 108 = .ok (.iload_n 3, 1) := by decide +kernel
theorem dX5_wish_109 : decode cX5_wish 109 = .ok (.iload 7, 2) := by decide +kernel
theorem dX5_wish_111 : decode cX5_wish 111 = .ok (.iadd, 1) := by decide +kernel
theorem dX5_wish_112 : decode cX5_wish 112 = .ok (.iaload, 1) := by decide +kernel
theorem dX5_wish_113 : decode cX5_wish 113 = .ok (.iconst 3, 1) := by decide +kernel
theorem dX5_wish_114 : decode cX5_wish 114 = .ok (.if_icmp .le 6, 3) := by decide +kernel
theorem dX5_wish_117 : decode cX5_wish 117 = .ok (.bipush (-2), 2) := by decide +kernel
theorem dX5_wish_119 : decode cX5_wish 119 = .ok (.ireturn, 1) := by decide +kernel
theorem dX5_wish_120 : decode cX5_wish 120 = .ok (.iinc 7 1, 3) := by decide +kernel
theorem dX5_wish_123 : decode cX5_wish 123 = .ok (.goto (-39), 3) := by decide +kernel
theorem dX5_wish_126 : decode cX5_wish 126 = .ok (.iconst 0, 1) := by decide +kernel
theorem dX5_wish_127 : decode cX5_wish 127 = .ok (.istore 7, 2) := by decide +kernel
theorem dX5_wish_129 : decode cX5_wish 129 = .ok (.iload 7, 2) := by decide +kernel
theorem dX5_wish_131 : decode cX5_wish 131 = .ok (.aload_n 0, 1) := by decide +kernel
theorem dX5_wish_132 : decode cX5_wish 132 = .ok (.getfield 27, 3) := by decide +kernel
theorem dX5_wish_135 : decode cX5_wish 135 = .ok (.invokevirtual 165, 3) := by decide +kernel
theorem dX5_wish_138 : decode cX5_wish 138 = .ok (.if_icmp .ge 24, 3) := by decide +kernel
theorem dX5_wish_141 : decode cX5_wish 141 = .ok (.aload_n 0, 1) := by decide +kernel
theorem dX5_wish_142 : decode cX5_wish 142 = .ok (.iload 7, 2) := by decide +kernel
theorem dX5_wish_144 : decode cX5_wish 144 = .ok (.aload 6, 2) := by decide +kernel
theorem dX5_wish_146 : decode cX5_wish 146 = .ok (.iload_n 3, 1) := by decide +kernel
theorem dX5_wish_147 : decode cX5_wish 147 = .ok (.invokevirtual 177, 3) := by decide +kernel
theorem dX5_wish_150 : decode cX5_wish 150 = .ok (.ifCond .eq 6, 3) := by decide +kernel
theorem dX5_wish_153 : decode cX5_wish 153 = .ok (.iload 7, 2) := by decide +kernel
theorem dX5_wish_155 : decode cX5_wish 155 = .ok (.ireturn, 1) := by decide +kernel
theorem dX5_wish_156 : decode cX5_wish 156 = .ok (.iinc 7 1, 3) := by decide +kernel
theorem dX5_wish_159 : decode cX5_wish 159 = .ok (.goto (-30), 3) := by decide +kernel
theorem dX5_wish_162 : decode cX5_wish 162 = .ok (.bipush (-9), 2) := by decide +kernel
theorem dX5_wish_164 : decode cX5_wish 164 = .ok (.ireturn, 1) := by decide +kernel
set_option maxRecDepth 20000 in
theorem ggX5_meetsWish_X0_signInSpot : GoodIn wsX5_meetsWish wsX0_signInSpot := goodIn_r _ [8, 9, 10, 11, 12, 7, 13, 14, 15, 16, 17, 18, 19, 20, 21, 22, 23, 24, 25, 26, 27, 28, 29, 30, 31, 32, 33, 34, 47, 48, 49, 50, 51, 52, 53, 54, 55, 56, 57, 58, 59, 60] (by decide +kernel) (by decide +kernel)
set_option maxRecDepth 20000 in
theorem gX5_meetsWish_X0_signInSpot : GoodIn wsX5_meetsWish (wsV RX5 168 RX0 yX0_signInSpot wsX0_signInSpot) := goodIn_app (goodIn_of _ (by decide +kernel)) ggX5_meetsWish_X0_signInSpot
theorem dX5_meetsWish_0 : decode cX5_meetsWish 0 = .ok (.iconst 0, 1) := by decide +kernel
theorem dX5_meetsWish_1 : decode cX5_meetsWish 1 = .ok (.istore 4, 2) := by decide +kernel
theorem dX5_meetsWish_3 : decode cX5_meetsWish 3 = .ok (.iload 4, 2) := by decide +kernel
theorem dX5_meetsWish_5 : decode cX5_meetsWish 5 = .ok (.aload_n 0, 1) := by decide +kernel
theorem dX5_meetsWish_6 : decode cX5_meetsWish 6 = .ok (.getfield 20, 3) := by decide +kernel
theorem dX5_meetsWish_9 : decode cX5_meetsWish 9 = .ok (.getfield 92, 3) := by decide +kernel
theorem dX5_meetsWish_12 : decode cX5_meetsWish 12 = .ok (.if_icmp .ge 42, 3) := by decide +kernel
theorem dX5_meetsWish_15 : decode cX5_meetsWish 15 = .ok (.aload_n 2, 1) := by decide +kernel
theorem dX5_meetsWish_16 : decode cX5_meetsWish 16 = .ok (.iload_n 3, 1) := by decide +kernel
theorem dX5_meetsWish_17 : decode cX5_meetsWish 17 = .ok (.iload 4, 2) := by decide +kernel
theorem dX5_meetsWish_19 : decode cX5_meetsWish 19 = .ok (.iadd, 1) := by decide +kernel
theorem dX5_meetsWish_20 : decode cX5_meetsWish 20 = .ok (.iaload, 1) := by decide +kernel
theorem dX5_meetsWish_21 : decode cX5_meetsWish 21 = .ok (.istore 5, 2) := by decide +kernel
theorem dX5_meetsWish_23 : decode cX5_meetsWish 23 = .ok (.iload 5, 2) := by decide +kernel
theorem dX5_meetsWish_25 : decode cX5_meetsWish 25 = .ok (.iconst 3, 1) := by decide +kernel
theorem dX5_meetsWish_26 : decode cX5_meetsWish 26 = .ok (.if_icmp .eq 22, 3) := by decide +kernel
theorem dX5_meetsWish_29 : decode cX5_meetsWish 29 = .ok (.iload 5, 2) := by decide +kernel
theorem dX5_meetsWish_31 : decode cX5_meetsWish 31 = .ok (.aload_n 0, 1) := by decide +kernel
theorem dX5_meetsWish_32 : decode cX5_meetsWish 32 = .ok (.getfield 27, 3) := by decide +kernel
theorem dX5_meetsWish_35 : decode cX5_meetsWish 35 = .ok (.iload_n 1, 1) := by decide +kernel
theorem dX5_meetsWish_36 : decode cX5_meetsWish 36 = .ok (.iload 4, 2) := by decide +kernel
theorem dX5_meetsWish_38 : decode cX5_meetsWish 38 = .ok (.invokevirtual 168, 3) := by decide +kernel
theorem dX5_meetsWish_41 : decode cX5_meetsWish 41 = .ok (.iconst 1, 1) := by decide +kernel
theorem dX5_meetsWish_42 : decode cX5_meetsWish 42 = .ok (.iadd, 1) := by decide +kernel
theorem dX5_meetsWish_43 : decode cX5_meetsWish 43 = .ok (.if_icmp .eq 5, 3) := by decide +kernel
theorem dX5_meetsWish_46 : decode cX5_meetsWish 46 = .ok (.iconst 0, 1) := by decide +kernel
theorem dX5_meetsWish_47 : decode cX5_meetsWish 47 = .ok (.ireturn, 1) := by decide +kernel
theorem dX5_meetsWish_48 : decode cX5_meetsWish 48 = .ok (.iinc 4 1, 3) := by decide +kernel
theorem dX5_meetsWish_51 : decode cX5_meetsWish 51 = .ok (.goto (-48), 3) := by decide +kernel
theorem dX5_meetsWish_54 : decode cX5_meetsWish 54 = .ok (.iconst 1, 1) := by decide +kernel
theorem dX5_meetsWish_55 : decode cX5_meetsWish 55 = .ok (.ireturn, 1) := by decide +kernel
set_option maxRecDepth 20000 in
theorem ggX5_reading_X5_isPolynomial : GoodIn wsX5_reading wsX5_isPolynomial := goodIn_r _ [7, 8, 9, 10, 11, 6, 12, 22, 23, 24, 25, 26, 27, 28, 29, 30, 35, 36, 37] (by decide +kernel) (by decide +kernel)
set_option maxRecDepth 20000 in
theorem gX5_reading_X5_isPolynomial : GoodIn wsX5_reading (wsV RX5 93 RX5 yX5_isPolynomial wsX5_isPolynomial) := goodIn_app (goodIn_of _ (by decide +kernel)) ggX5_reading_X5_isPolynomial
set_option maxRecDepth 20000 in
theorem ggX5_reading_X5_isBelow : GoodIn wsX5_reading wsX5_isBelow := goodIn_r _ [12] (by decide +kernel) (by decide +kernel)
set_option maxRecDepth 20000 in
theorem gX5_reading_X5_isBelow : GoodIn wsX5_reading (va_wsS RX5 59 yX5_isBelow wsX5_isBelow) := goodIn_app (goodIn_of _ (by decide +kernel)) ggX5_reading_X5_isBelow
set_option maxRecDepth 20000 in
theorem ggX5_reading_X1_add : GoodIn wsX5_reading wsX1_add := goodIn_r _ [17, 18, 19, 20, 21, 31, 32, 33, 34] (by decide +kernel) (by decide +kernel)
set_option maxRecDepth 20000 in
theorem gX5_reading_X1_add : GoodIn wsX5_reading (wsV RX5 181 RX1 yX1_add wsX1_add) := goodIn_app (goodIn_of _ (by decide +kernel)) ggX5_reading_X1_add
theorem dX5_reading_0 : decode cX5_reading 0 = .ok (.aload_n 0, 1) := by decide +kernel
theorem dX5_reading_1 : decode cX5_reading 1 = .ok (.iload_n 2, 1) := by decide +kernel
theorem dX5_reading_2 : decode cX5_reading 2 = .ok (.invokevirtual 93, 3) := by decide +kernel
theorem dX5_reading_5 : decode cX5_reading 5 = .ok (.ifCond .ne 5, 3) := by decide +kernel
theorem dX5_reading_8 : decode cX5_reading 8 = .ok (.iconst (-1), 1) := by decide +kernel
theorem dX5_reading_9 : decode cX5_reading 9 = .ok (.ireturn, 1) := by decide +kernel
theorem dX5_reading_10 : decode cX5_reading 10 = .ok (.iload_n 1, 1) := by decide +kernel
theorem dX5_reading_11 : decode cX5_reading 11 = .ok (.ifCond .lt 17, 3) := by decide +kernel
theorem dX5_reading_14 : decode cX5_reading 14 = .ok (.iload_n 1, 1) := by decide +kernel
theorem dX5_reading_15 : decode cX5_reading 15 = .ok (.bipush 20, 2) := by decide +kernel
theorem dX5_reading_17 : decode cX5_reading 17 = .ok (.if_icmp .gt 11, 3) := by decide +kernel
theorem dX5_reading_20 : decode cX5_reading 20 = .ok (.iload_n 3, 1) := by decide +kernel
theorem dX5_reading_21 : decode cX5_reading 21 = .ok (.iconst 3, 1) := by decide +kernel
theorem dX5_reading_22 : decode cX5_reading 22 = .ok (.invokestatic 59, 3) := by decide +kernel
theorem dX5_reading_25 : decode cX5_reading 25 = .ok (.ifCond .ne 6, 3) := by decide +kernel
theorem dX5_reading_28 : decode cX5_reading 28 = .ok (.bipush (-2), 2) := by decide +kernel
theorem dX5_reading_30 : decode cX5_reading 30 = .ok (.ireturn, 1) := by decide +kernel
theorem dX5_reading_31 : decode cX5_reading 31 = .ok (.aload_n 0, 1) := by decide +kernel
theorem dX5_reading_32 : decode cX5_reading 32 = .ok (.getfield 47, 3) := by decide +kernel
theorem dX5_reading_35 : decode cX5_reading 35 = .ok (.getfield 86, 3) := by decide +kernel
theorem dX5_reading_38 : decode cX5_reading 38 = .ok (.bipush 8, 2) := by decide +kernel
theorem dX5_reading_40 : decode cX5_reading 40 = .ok (.if_icmp .lt 6, 3) := by decide +kernel
theorem dX5_reading_43 : decode cX5_reading 43 = .ok (.bipush (-4), 2) := by decide +kernel
theorem dX5_reading_45 : decode cX5_reading 45 = .ok (.ireturn, 1) := by decide +kernel
theorem dX5_reading_46 : decode cX5_reading 46 = .ok (.aload_n 0, 1) := by decide +kernel
theorem dX5_reading_47 : decode cX5_reading 47 = .ok (.getfield 47, 3) := by decide +kernel
theorem dX5_reading_50 : decode cX5_reading 50 = .ok (.iload_n 1, 1) := by decide +kernel
theorem dX5_reading_51 : decode cX5_reading 51 = .ok (.iload_n 2, 1) := by decide +kernel
theorem dX5_reading_52 : decode cX5_reading 52 = .ok (.iload_n 3, 1) := by decide +kernel
theorem dX5_reading_53 : decode cX5_reading 53 = .ok (.invokevirtual 181, 3) := by decide +kernel
theorem dX5_reading_56 : decode cX5_reading 56 = .ok (.ireturn, 1) := by decide +kernel
theorem dX5_back_0 : decode cX5_back 0 = .ok (.iload_n 1, 1) := by decide +kernel
theorem dX5_back_1 : decode cX5_back 1 = .ok (.ifCond .lt 14, 3) := by decide +kernel
theorem dX5_back_4 : decode cX5_back 4 = .ok (.iload_n 1, 1) := by decide +kernel
theorem dX5_back_5 : decode cX5_back 5 = .ok (.aload_n 0, 1) := by decide +kernel
theorem dX5_back_6 : decode cX5_back 6 = .ok (.getfield 47, 3) := by decide +kernel
theorem dX5_back_9 : decode cX5_back 9 = .ok (.getfield 86, 3) := by decide +kernel
theorem dX5_back_12 : decode cX5_back 12 = .ok (.if_icmp .le 6, 3) := by decide +kernel
theorem dX5_back_15 : decode cX5_back 15 = .ok (.bipush (-2), 2) := by decide +kernel
theorem dX5_back_17 : decode cX5_back 17 = .ok (.ireturn, 1) := by decide +kernel
theorem dX5_back_18 : decode cX5_back 18 = .ok (.aload_n 0, 1) := by decide +kernel
theorem dX5_back_19 : decode cX5_back 19 = .ok (.getfield 47, 3) := by decide +kernel
theorem dX5_back_22 : decode cX5_back 22 = .ok (.dup, 1) := by decide +kernel
theorem dX5_back_23 : decode cX5_back 23 = .ok (.getfield 86, 3) := by decide +kernel
theorem dX5_back_26 : decode cX5_back 26 = .ok (.iload_n 1, 1) := by decide +kernel
theorem dX5_back_27 : decode cX5_back 27 = .ok (.isub, 1) := by decide +kernel
theorem dX5_back_28 : decode cX5_back 28 = .ok (.putfield 86, 3) := by decide +kernel
theorem dX5_back_31 : decode cX5_back 31 = .ok (.aload_n 0, 1) := by decide +kernel
theorem dX5_back_32 : decode cX5_back 32 = .ok (.getfield 47, 3) := by decide +kernel
theorem dX5_back_35 : decode cX5_back 35 = .ok (.getfield 86, 3) := by decide +kernel
theorem dX5_back_38 : decode cX5_back 38 = .ok (.ireturn, 1) := by decide +kernel
set_option maxRecDepth 20000 in
theorem ggX5_kinds_X5_isPolynomial : GoodIn wsX5_kinds wsX5_isPolynomial := goodIn_r _ [10, 2, 11, 12, 13, 9, 14, 100, 101, 102, 103, 104, 105, 106, 107, 108, 109, 110, 111] (by decide +kernel) (by decide +kernel)
set_option maxRecDepth 20000 in
theorem gX5_kinds_X5_isPolynomial : GoodIn wsX5_kinds (wsV RX5 93 RX5 yX5_isPolynomial wsX5_isPolynomial) := goodIn_app (goodIn_of _ (by decide +kernel)) ggX5_kinds_X5_isPolynomial
set_option maxRecDepth 20000 in
theorem ggX5_kinds_X4_become : GoodIn wsX5_kinds wsX4_become := goodIn_r _ [19, 20, 21, 22, 23, 24, 25, 26, 109, 110, 111] (by decide +kernel) (by decide +kernel)
set_option maxRecDepth 20000 in
theorem gX5_kinds_X4_become : GoodIn wsX5_kinds (wsV RX5 82 RX4 yX4_become wsX4_become) := goodIn_app (goodIn_of _ (by decide +kernel)) ggX5_kinds_X4_become
set_option maxRecDepth 20000 in
theorem ggX5_kinds_X0_lay : GoodIn wsX5_kinds wsX0_lay := goodIn_r _ [31, 32, 33, 34, 35, 36, 37, 38, 39, 18, 40, 26, 21, 41, 42, 43, 30, 44, 45, 46, 47, 48, 49, 50, 51, 52, 53, 54, 55, 56, 57, 58, 59, 60, 61, 62, 63, 64, 65, 66, 67, 68, 69, 70, 71, 72, 73, 74, 75, 76, 77, 78, 109, 110, 111, 112, 113, 114, 115, 116, 117, 118, 119, 120, 121, 122, 123, 124, 125] (by decide +kernel) (by decide +kernel)
set_option maxRecDepth 20000 in
theorem gX5_kinds_X0_lay : GoodIn wsX5_kinds (wsV RX5 89 RX0 yX0_lay wsX0_lay) := goodIn_app (goodIn_of _ (by decide +kernel)) ggX5_kinds_X0_lay
set_option maxRecDepth 20000 in
theorem ggX5_kinds_X1_holdOn : GoodIn wsX5_kinds wsX1_holdOn := goodIn_r _ [83, 84, 85, 86, 87, 88, 89, 90, 30, 91, 34, 92, 93, 94, 95, 57, 96, 97, 98, 99, 35, 63, 64, 65, 66, 67, 68, 69, 70, 49, 51, 52, 50, 71, 72, 73, 74, 75, 76, 77, 78, 126, 127, 128, 129, 112, 113, 114, 115, 116, 117, 118, 119, 120, 121, 122, 123, 124, 125] (by decide +kernel) (by decide +kernel)
set_option maxRecDepth 20000 in
theorem gX5_kinds_X1_holdOn : GoodIn wsX5_kinds (wsV RX5 184 RX1 yX1_holdOn wsX1_holdOn) := goodIn_app (goodIn_of _ (by decide +kernel)) ggX5_kinds_X1_holdOn
theorem dX5_kinds_0 : decode cX5_kinds 0 = .ok (.aload_n 0, 1) := by decide +kernel
theorem dX5_kinds_1 : decode cX5_kinds 1 = .ok (.iload_n 1, 1) := by decide +kernel
theorem dX5_kinds_2 : decode cX5_kinds 2 = .ok (.invokevirtual 93, 3) := by decide +kernel
theorem dX5_kinds_5 : decode cX5_kinds 5 = .ok (.ifCond .ne 5, 3) := by decide +kernel
theorem dX5_kinds_8 : decode cX5_kinds 8 = .ok (.iconst (-1), 1) := by decide +kernel
theorem dX5_kinds_9 : decode cX5_kinds 9 = .ok (.ireturn, 1) := by decide +kernel
theorem dX5_kinds_10 : decode cX5_kinds 10 = .ok (.iconst 0, 1) := by decide +kernel
theorem dX5_kinds_11 : decode cX5_kinds 11 = .ok (.istore_n 2, 1) := by decide +kernel
theorem dX5_kinds_12 : decode cX5_kinds 12 = .ok (.aload_n 0, 1) := by decide +kernel
theorem dX5_kinds_13 : decode cX5_kinds 13 = .ok (.getfield 31, 3) := by decide +kernel
theorem dX5_kinds_16 : decode cX5_kinds 16 = .ok (.aload_n 0, 1) := by decide +kernel
theorem dX5_kinds_17 : decode cX5_kinds 17 = .ok (.getfield 20, 3) := by decide +kernel
theorem dX5_kinds_20 : decode cX5_kinds 20 = .ok (.invokevirtual 82, 3) := by decide +kernel
theorem dX5_kinds_23 : decode cX5_kinds 23 = .ok (.iconst 0, 1) := by decide +kernel
theorem dX5_kinds_24 : decode cX5_kinds 24 = .ok (.istore_n 3, 1) := by decide +kernel
theorem dX5_kinds_25 : decode cX5_kinds 25 = .ok (.iload_n 3, 1) := by decide +kernel
theorem dX5_kinds_26 : decode cX5_kinds 26 = .ok (.iconst 3, 1) := by decide +kernel
theorem dX5_kinds_27 : decode cX5_kinds 27 = .ok (.if_icmp .ge 50, 3) := by decide +kernel
theorem dX5_kinds_30 : decode cX5_kinds 30 = .ok (.aload_n 0, 1) := by decide +kernel
theorem dX5_kinds_31 : decode cX5_kinds 31 = .ok (.getfield 31, 3) := by decide +kernel
theorem dX5_kinds_34 : decode cX5_kinds 34 = .ok (.getfield 96, 3) := by decide +kernel
theorem dX5_kinds_37 : decode cX5_kinds 37 = .ok (.iload_n 1, 1) := by decide +kernel
theorem dX5_kinds_38 : decode cX5_kinds 38 = .ok (.iload_n 3, 1) := by decide +kernel
theorem dX5_kinds_39 : decode cX5_kinds 39 = .ok (.iastore, 1) := by decide +kernel
theorem dX5_kinds_40 : decode cX5_kinds 40 = .ok (.aload_n 0, 1) := by decide +kernel
theorem dX5_kinds_41 : decode cX5_kinds 41 = .ok (.getfield 34, 3) := by decide +kernel
theorem dX5_kinds_44 : decode cX5_kinds 44 = .ok (.aload_n 0, 1) := by decide +kernel
theorem dX5_kinds_45 : decode cX5_kinds 45 = .ok (.getfield 31, 3) := by decide +kernel
theorem dX5_kinds_48 : decode cX5_kinds 48 = .ok (.invokevirtual 89, 3) := by decide +kernel
theorem dX5_kinds_51 : decode cX5_kinds 51 = .ok (.aload_n 0, 1) := by decide +kernel
theorem dX5_kinds_52 : decode cX5_kinds 52 = .ok (.getfield 47, 3) := by decide +kernel
theorem dX5_kinds_55 : decode cX5_kinds 55 = .ok (.aload_n 0, 1) := by decide +kernel
theorem dX5_kinds_56 : decode cX5_kinds 56 = .ok (.getfield 34, 3) := by decide +kernel
theorem dX5_kinds_59 : decode cX5_kinds 59 = .ok (.invokevirtual 184, 3) := by decide +kernel
theorem dX5_kinds_62 : decode cX5_kinds 62 = .ok (.ifCond .eq 9, 3) := by decide +kernel
theorem dX5_kinds_65 : decode cX5_kinds 65 = .ok (.iload_n 2, 1) := by decide +kernel
theorem dX5_kinds_66 : decode cX5_kinds 66 = .ok (.iconst 1, 1) := by decide +kernel
theorem dX5_kinds_67 : decode cX5_kinds 67 = .ok (.iload_n 3, 1) := by decide +kernel
theorem dX5_kinds_68 : decode cX5_kinds 68 = .ok (.ishl, 1) := by decide +kernel
theorem dX5_kinds_69 : decode cX5_kinds 69 = .ok (.ior, 1) := by decide +kernel
theorem dX5_kinds_70 : decode cX5_kinds 70 = .ok (.istore_n 2, 1) := by decide +kernel
theorem dX5_kinds_71 : decode cX5_kinds 71 = .ok (.iinc 3 1, 3) := by decide +kernel
theorem dX5_kinds_74 : decode cX5_kinds 74 = .ok (.goto (-49), 3) := by decide +kernel
theorem dX5_kinds_77 : decode cX5_kinds 77 = .ok (.iload_n 2, 1) := by decide +kernel
theorem dX5_kinds_78 : decode cX5_kinds 78 = .ok (.ireturn, 1) := by decide +kernel
set_option maxRecDepth 20000 in
theorem ggX5_lows_X5_isPolynomial : GoodIn wsX5_lows wsX5_isPolynomial := goodIn_r _ [10, 2, 11, 12, 13, 9, 14, 100, 101, 102, 103, 104, 105, 106, 107, 108, 109, 110, 111] (by decide +kernel) (by decide +kernel)
set_option maxRecDepth 20000 in
theorem gX5_lows_X5_isPolynomial : GoodIn wsX5_lows (wsV RX5 93 RX5 yX5_isPolynomial wsX5_isPolynomial) := goodIn_app (goodIn_of _ (by decide +kernel)) ggX5_lows_X5_isPolynomial
set_option maxRecDepth 20000 in
theorem ggX5_lows_X4_become : GoodIn wsX5_lows wsX4_become := goodIn_r _ [19, 20, 21, 22, 23, 24, 25, 26, 109, 110, 111] (by decide +kernel) (by decide +kernel)
set_option maxRecDepth 20000 in
theorem gX5_lows_X4_become : GoodIn wsX5_lows (wsV RX5 82 RX4 yX4_become wsX4_become) := goodIn_app (goodIn_of _ (by decide +kernel)) ggX5_lows_X4_become
set_option maxRecDepth 20000 in
theorem ggX5_lows_X0_lay : GoodIn wsX5_lows wsX0_lay := goodIn_r _ [31, 32, 33, 34, 35, 36, 37, 38, 39, 18, 40, 26, 21, 41, 42, 43, 30, 44, 45, 46, 47, 48, 49, 50, 51, 52, 53, 54, 55, 56, 57, 58, 59, 60, 61, 62, 63, 64, 65, 66, 67, 68, 69, 70, 71, 72, 73, 74, 75, 76, 77, 78, 109, 110, 111, 112, 113, 114, 115, 116, 117, 118, 119, 120, 121, 122, 123, 124, 125] (by decide +kernel) (by decide +kernel)
set_option maxRecDepth 20000 in
theorem gX5_lows_X0_lay : GoodIn wsX5_lows (wsV RX5 89 RX0 yX0_lay wsX0_lay) := goodIn_app (goodIn_of _ (by decide +kernel)) ggX5_lows_X0_lay
set_option maxRecDepth 20000 in
theorem ggX5_lows_X1_holdOn : GoodIn wsX5_lows wsX1_holdOn := goodIn_r _ [83, 84, 85, 86, 87, 88, 89, 90, 30, 91, 34, 92, 93, 94, 95, 57, 96, 97, 98, 99, 35, 63, 64, 65, 66, 67, 68, 69, 70, 49, 51, 52, 50, 71, 72, 73, 74, 75, 76, 77, 78, 126, 127, 128, 129, 112, 113, 114, 115, 116, 117, 118, 119, 120, 121, 122, 123, 124, 125] (by decide +kernel) (by decide +kernel)
set_option maxRecDepth 20000 in
theorem gX5_lows_X1_holdOn : GoodIn wsX5_lows (wsV RX5 184 RX1 yX1_holdOn wsX1_holdOn) := goodIn_app (goodIn_of _ (by decide +kernel)) ggX5_lows_X1_holdOn
theorem dX5_lows_0 : decode cX5_lows 0 = .ok (.aload_n 0, 1) := by decide +kernel
theorem dX5_lows_1 : decode cX5_lows 1 = .ok (.iload_n 1, 1) := by decide +kernel
theorem dX5_lows_2 : decode cX5_lows 2 = .ok (.invokevirtual 93, 3) := by decide +kernel
theorem dX5_lows_5 : decode cX5_lows 5 = .ok (.ifCond .ne 5, 3) := by decide +kernel
theorem dX5_lows_8 : decode cX5_lows 8 = .ok (.iconst (-1), 1) := by decide +kernel
theorem dX5_lows_9 : decode cX5_lows 9 = .ok (.ireturn, 1) := by decide +kernel
theorem dX5_lows_10 : decode cX5_lows 10 = .ok (.iconst 0, 1) := by decide +kernel
theorem dX5_lows_11 : decode cX5_lows 11 = .ok (.istore_n 2, 1) := by decide +kernel
theorem dX5_lows_12 : decode cX5_lows 12 = .ok (.aload_n 0, 1) := by decide +kernel
theorem dX5_lows_13 : decode cX5_lows 13 = .ok (.getfield 31, 3) := by decide +kernel
theorem dX5_lows_16 : decode cX5_lows 16 = .ok (.aload_n 0, 1) := by decide +kernel
theorem dX5_lows_17 : decode cX5_lows 17 = .ok (.getfield 20, 3) := by decide +kernel
theorem dX5_lows_20 : decode cX5_lows 20 = .ok (.invokevirtual 82, 3) := by decide +kernel
theorem dX5_lows_23 : decode cX5_lows 23 = .ok (.bipush (-9), 2) := by decide +kernel
theorem dX5_lows_25 : decode cX5_lows 25 = .ok (.istore_n 3, 1) := by decide +kernel
theorem dX5_lows_26 : decode cX5_lows 26 = .ok (.iload_n 3, 1) := by decide +kernel
theorem dX5_lows_27 : decode cX5_lows 27 = .ok (.bipush 9, 2) := by decide +kernel
theorem dX5_lows_29 : decode cX5_lows 29 = .ok (.if_icmp .gt 55, 3) := by decide +kernel
theorem dX5_lows_32 : decode cX5_lows 32 = .ok (.aload_n 0, 1) := by decide +kernel
theorem dX5_lows_33 : decode cX5_lows 33 = .ok (.getfield 31, 3) := by decide +kernel
theorem dX5_lows_36 : decode cX5_lows 36 = .ok (.getfield 102, 3) := by decide +kernel
theorem dX5_lows_39 : decode cX5_lows 39 = .ok (.iload_n 1, 1) := by decide +kernel
theorem dX5_lows_40 : decode cX5_lows 40 = .ok (.iconst 3, 1) := by decide +kernel
theorem dX5_lows_41 : decode cX5_lows 41 = .ok (.imul, 1) := by decide +kernel
theorem dX5_lows_42 : decode cX5_lows 42 = .ok (.iload_n 3, 1) := by decide +kernel
theorem dX5_lows_43 : decode cX5_lows 43 = .ok (.iastore, 1) := by decide +kernel
theorem dX5_lows_44 : decode cX5_lows 44 = .ok (.aload_n 0, 1) := by decide +kernel
theorem dX5_lows_45 : decode cX5_lows 45 = .ok (.getfield 34, 3) := by decide +kernel
theorem dX5_lows_48 : decode cX5_lows 48 = .ok (.aload_n 0, 1) := by decide +kernel
theorem dX5_lows_49 : decode cX5_lows 49 = .ok (.getfield 31, 3) := by decide +kernel
theorem dX5_lows_52 : decode cX5_lows 52 = .ok (.invokevirtual 89, 3) := by decide +kernel
theorem dX5_lows_55 : decode cX5_lows 55 = .ok (.aload_n 0, 1) := by decide +kernel
theorem dX5_lows_56 : decode cX5_lows 56 = .ok (.getfield 47, 3) := by decide +kernel
theorem dX5_lows_59 : decode cX5_lows 59 = .ok (.aload_n 0, 1) := by decide +kernel
theorem dX5_lows_60 : decode cX5_lows 60 = .ok (.getfield 34, 3) := by decide +kernel
theorem dX5_lows_63 : decode cX5_lows 63 = .ok (.invokevirtual 184, 3) := by decide +kernel
theorem dX5_lows_66 : decode cX5_lows 66 = .ok (.ifCond .eq 12, 3) := by decide +kernel
theorem dX5_lows_69 : decode cX5_lows 69 = .ok (.iload_n 2, 1) := by decide +kernel
theorem dX5_lows_70 : decode cX5_lows 70 = .ok (.iconst 1, 1) := by decide +kernel
theorem dX5_lows_71 : decode cX5_lows 71 = .ok (.iload_n 3, 1) := by decide +kernel
theorem dX5_lows_72 : decode cX5_lows 72 = .ok (.bipush 9, 2) := by decide +kernel
theorem dX5_lows_74 : decode cX5_lows 74 = .ok (.iadd, 1) := by decide +kernel
theorem dX5_lows_75 : decode cX5_lows 75 = .ok (.ishl, 1) := by decide +kernel
theorem dX5_lows_76 : decode cX5_lows 76 = .ok (.ior, 1) := by decide +kernel
theorem dX5_lows_77 : decode cX5_lows 77 = .ok (.istore_n 2, 1) := by decide +kernel
theorem dX5_lows_78 : decode cX5_lows 78 = .ok (.iinc 3 1, 3) := by decide +kernel
theorem dX5_lows_81 : decode cX5_lows 81 = .ok (.goto (-55), 3) := by decide +kernel
theorem dX5_lows_84 : decode cX5_lows 84 = .ok (.iload_n 2, 1) := by decide +kernel
theorem dX5_lows_85 : decode cX5_lows 85 = .ok (.ireturn, 1) := by decide +kernel
set_option maxRecDepth 20000 in
theorem ggX5_odds_X5_isPolynomial : GoodIn wsX5_odds wsX5_isPolynomial := goodIn_r _ [7, 8, 9, 10, 11, 6, 12, 52, 53, 54, 55, 56, 57, 58, 59, 60, 61, 62, 63] (by decide +kernel) (by decide +kernel)
set_option maxRecDepth 20000 in
theorem gX5_odds_X5_isPolynomial : GoodIn wsX5_odds (wsV RX5 93 RX5 yX5_isPolynomial wsX5_isPolynomial) := goodIn_app (goodIn_of _ (by decide +kernel)) ggX5_odds_X5_isPolynomial
set_option maxRecDepth 20000 in
theorem ggX5_odds_X5_isBelow : GoodIn wsX5_odds wsX5_isBelow := goodIn_r _ [12] (by decide +kernel) (by decide +kernel)
set_option maxRecDepth 20000 in
theorem gX5_odds_X5_isBelow : GoodIn wsX5_odds (va_wsS RX5 59 yX5_isBelow wsX5_isBelow) := goodIn_app (goodIn_of _ (by decide +kernel)) ggX5_odds_X5_isBelow
set_option maxRecDepth 20000 in
theorem ggX5_odds_X0_spots : GoodIn wsX5_odds wsX0_spots := goodIn_r _ [17, 18, 64, 65, 66, 67, 68, 69, 70, 71, 72, 73, 74, 75, 76, 77] (by decide +kernel) (by decide +kernel)
set_option maxRecDepth 20000 in
theorem gX5_odds_X0_spots : GoodIn wsX5_odds (wsV RX5 165 RX0 yX0_spots wsX0_spots) := goodIn_app (goodIn_of _ (by decide +kernel)) ggX5_odds_X0_spots
set_option maxRecDepth 20000 in
theorem ggX5_odds_X0_signInSpot : GoodIn wsX5_odds wsX0_signInSpot := goodIn_r _ [22, 23, 24, 25, 26, 16, 27, 28, 29, 30, 31, 32, 33, 34, 35, 36, 37, 38, 39, 40, 41, 42, 43, 44, 45, 46, 47, 48, 64, 65, 66, 67, 68, 69, 70, 71, 72, 73, 74, 75, 76, 77] (by decide +kernel) (by decide +kernel)
set_option maxRecDepth 20000 in
theorem gX5_odds_X0_signInSpot : GoodIn wsX5_odds (wsV RX5 168 RX0 yX0_signInSpot wsX0_signInSpot) := goodIn_app (goodIn_of _ (by decide +kernel)) ggX5_odds_X0_signInSpot
set_option maxRecDepth 20000 in
theorem ggX5_odds_X5_commonDivisor : GoodIn wsX5_odds wsX5_commonDivisor := goodIn_r _ [51] (by decide +kernel) (by decide +kernel)
set_option maxRecDepth 20000 in
theorem gX5_odds_X5_commonDivisor : GoodIn wsX5_odds (va_wsS RX5 188 yX5_commonDivisor wsX5_commonDivisor) := goodIn_app (goodIn_of _ (by decide +kernel)) ggX5_odds_X5_commonDivisor
theorem dX5_odds_0 : decode cX5_odds 0 = .ok (.aload_n 0, 1) := by decide +kernel
theorem dX5_odds_1 : decode cX5_odds 1 = .ok (.iload_n 1, 1) := by decide +kernel
theorem dX5_odds_2 : decode cX5_odds 2 = .ok (.invokevirtual 93, 3) := by decide +kernel
theorem dX5_odds_5 : decode cX5_odds 5 = .ok (.ifCond .eq 19, 3) := by decide +kernel
theorem dX5_odds_8 : decode cX5_odds 8 = .ok (.iload_n 2, 1) := by decide +kernel
theorem dX5_odds_9 : decode cX5_odds 9 = .ok (.iconst 3, 1) := by decide +kernel
theorem dX5_odds_10 : decode cX5_odds 10 = .ok (.invokestatic 59, 3) := by decide +kernel
theorem dX5_odds_13 : decode cX5_odds 13 = .ok (.ifCond .eq 11, 3) := by decide +kernel
theorem dX5_odds_16 : decode cX5_odds 16 = .ok (.iload_n 3, 1) := by decide +kernel
theorem dX5_odds_17 : decode cX5_odds 17 = .ok (.iconst 2, 1) := by decide +kernel
theorem dX5_odds_18 : decode cX5_odds 18 = .ok (.invokestatic 59, 3) := by decide +kernel
theorem dX5_odds_21 : decode cX5_odds 21 = .ok (.ifCond .ne 7, 3) := by decide +kernel
theorem dX5_odds_24 : decode cX5_odds 24 = .ok (.ldc2_w 111, 3) := by decide +kernel
theorem dX5_odds_27 : decode cX5_odds 27 = .ok (.lreturn, 1) := by decide +kernel
theorem dX5_odds_28 : decode cX5_odds 28 = .ok (.aload_n 0, 1) := by decide +kernel
theorem dX5_odds_29 : decode cX5_odds 29 = .ok (.getfield 27, 3) := by decide +kernel
theorem dX5_odds_32 : decode cX5_odds 32 = .ok (.invokevirtual 165, 3) := by decide +kernel
theorem dX5_odds_35 : decode cX5_odds 35 = .ok (.istore 4, 2) := by decide +kernel
theorem dX5_odds_37 : decode cX5_odds 37 = .ok (.iconst 0, 1) := by decide +kernel
theorem dX5_odds_38 : decode cX5_odds 38 = .ok (.istore 5, 2) := by decide +kernel
theorem dX5_odds_40 : decode cX5_odds 40 = .ok (.iconst 0, 1) := by decide +kernel
theorem dX5_odds_41 : decode cX5_odds 41 = .ok (.istore 6, 2) := by decide +kernel
theorem dX5_odds_43 : decode cX5_odds 43 = .ok (.iload 6, 2) := by decide +kernel
theorem dX5_odds_45 : decode cX5_odds 45 = .ok (.iload 4, 2) := by decide +kernel
theorem dX5_odds_47 : decode cX5_odds 47 = .ok (.if_icmp .ge 28, 3) := by decide +kernel
theorem dX5_odds_50 : decode cX5_odds 50 = .ok (.aload_n 0, 1) := by decide +kernel
theorem dX5_odds_51 : decode cX5_odds 51 = .ok (.getfield 27, 3) := by decide +kernel
theorem dX5_odds_54 : decode cX5_odds 54 = .ok (.iload 6, 2) := by decide +kernel
theorem dX5_odds_56 : decode cX5_odds 56 = .ok (.iload_n 1, 1) := by decide +kernel
theorem dX5_odds_57 : decode cX5_odds 57 = .ok (.invokevirtual 168, 3) := by decide +kernel
theorem dX5_odds_60 : decode cX5_odds 60 = .ok (.iconst 1, 1) := by decide +kernel
theorem dX5_odds_61 : decode cX5_odds 61 = .ok (.iadd, 1) := by decide +kernel
theorem dX5_odds_62 : decode cX5_odds 62 = .ok (.iload_n 2, 1) := by decide +kernel
theorem dX5_odds_63 : decode cX5_odds 63 = .ok (.if_icmp .ne 6, 3) := by decide +kernel
theorem dX5_odds_66 : decode cX5_odds 66 = .ok (.iinc 5 1, 3) := by decide +kernel
theorem dX5_odds_69 : decode cX5_odds 69 = .ok (.iinc 6 1, 3) := by decide +kernel
theorem dX5_odds_72 : decode cX5_odds 72 = .ok (.goto (-29), 3) := by decide +kernel
theorem dX5_odds_75 : decode cX5_odds 75 = .ok (.iload 5, 2) := by decide +kernel
theorem dX5_odds_77 : decode cX5_odds 77 = .ok (.iload 4, 2) := by decide +kernel
theorem dX5_odds_79 : decode cX5_odds 79 = .ok (.invokestatic 188, 3) := by decide +kernel
theorem dX5_odds_82 : decode cX5_odds 82 = .ok (.istore 6, 2) := by decide +kernel
theorem dX5_odds_84 : decode cX5_odds 84 = .ok (.iload_n 3, 1) := by decide +kernel
theorem dX5_odds_85 : decode cX5_odds 85 = .ok (.ifCond .ne 12, 3) := by decide +kernel
theorem dX5_odds_88 : decode cX5_odds 88 = .ok (.iload 5, 2) := by decide +kernel
theorem dX5_odds_90 : decode cX5_odds 90 = .ok (.iload 6, 2) := by decide +kernel
theorem dX5_odds_92 : decode cX5_odds 92 = .ok (.idiv, 1) := by decide +kernel
theorem dX5_odds_93 : decode cX5_odds 93 = .ok (.i2l, 1) := by decide +kernel
theorem dX5_odds_94 : decode cX5_odds 94 = .ok (.goto 9, 3) := by decide +kernel
theorem dX5_odds_97 : decode cX5_odds 97 = .ok (.iload 4, 2) := by decide +kernel
theorem dX5_odds_99 : decode cX5_odds 99 = .ok (.iload 6, 2) := by decide +kernel
theorem dX5_odds_101 : decode cX5_odds 101 = .ok (.idiv, 1) := by decide +kernel
theorem dX5_odds_102 : decode cX5_odds 102 = .ok (.i2l, 1) := by decide +kernel
theorem dX5_odds_103 : decode cX5_odds 103 = .ok (.lreturn, 1) := by decide +kernel
theorem dX5_commonDivisor_0 : decode cX5_commonDivisor 0 = .ok (.iload_n 1, 1) := by decide +kernel
theorem dX5_commonDivisor_1 : decode cX5_commonDivisor 1 = .ok (.istore_n 2, 1) := by decide +kernel
theorem dX5_commonDivisor_2 : decode cX5_commonDivisor 2 = .ok (.iload_n 2, 1) := by decide +kernel
theorem dX5_commonDivisor_3 : decode cX5_commonDivisor 3 = .ok (.iconst 1, 1) := by decide +kernel
theorem dX5_commonDivisor_4 : decode cX5_commonDivisor 4 = .ok (.if_icmp .le 23, 3) := by decide +kernel
theorem dX5_commonDivisor_7 : decode cX5_commonDivisor 7 = .ok (.iload_n 0, 1) := by decide +kernel
theorem dX5_commonDivisor_8 : decode cX5_commonDivisor 8 = .ok (.iload_n 2, 1) := by decide +kernel
theorem dX5_commonDivisor_9 : decode cX5_commonDivisor 9 = .ok (.irem, 1) := by decide +kernel
theorem dX5_commonDivisor_10 : decode cX5_commonDivisor 10 = .ok (.ifCond .ne 11, 3) := by decide +kernel
theorem dX5_commonDivisor_13 : decode cX5_commonDivisor 13 = .ok (.iload_n 1, 1) := by decide +kernel
theorem dX5_commonDivisor_14 : decode cX5_commonDivisor 14 = .ok (.iload_n 2, 1) := by decide +kernel
theorem dX5_commonDivisor_15 : decode cX5_commonDivisor 15 = .ok (.irem, 1) := by decide +kernel
theorem dX5_commonDivisor_16 : decode cX5_commonDivisor 16 = .ok (.ifCond .ne 5, 3) := by decide +kernel
theorem dX5_commonDivisor_19 : decode cX5_commonDivisor 19 = .ok (.iload_n 2, 1) := by decide +kernel
theorem dX5_commonDivisor_20 : decode cX5_commonDivisor 20 = .ok (.ireturn, 1) := by decide +kernel
theorem dX5_commonDivisor_21 : decode cX5_commonDivisor 21 = .ok (.iinc 2 (-1), 3) := by decide +kernel
theorem dX5_commonDivisor_24 : decode cX5_commonDivisor 24 = .ok (.goto (-22), 3) := by decide +kernel
theorem dX5_commonDivisor_27 : decode cX5_commonDivisor 27 = .ok (.iconst 1, 1) := by decide +kernel
theorem dX5_commonDivisor_28 : decode cX5_commonDivisor 28 = .ok (.ireturn, 1) := by decide +kernel
set_option maxRecDepth 20000 in
theorem ggX5_sheet_X5_isSheet : GoodIn wsX5_sheet wsX5_isSheet := goodIn_r _ [9, 10, 11, 8, 12] (by decide +kernel) (by decide +kernel)
set_option maxRecDepth 20000 in
theorem gX5_sheet_X5_isSheet : GoodIn wsX5_sheet (va_wsS RX5 55 yX5_isSheet wsX5_isSheet) := goodIn_app (goodIn_of _ (by decide +kernel)) ggX5_sheet_X5_isSheet
set_option maxRecDepth 20000 in
theorem ggX5_sheet_X5_isBelow : GoodIn wsX5_sheet wsX5_isBelow := goodIn_r _ [12] (by decide +kernel) (by decide +kernel)
set_option maxRecDepth 20000 in
theorem gX5_sheet_X5_isBelow : GoodIn wsX5_sheet (va_wsS RX5 59 yX5_isBelow wsX5_isBelow) := goodIn_app (goodIn_of _ (by decide +kernel)) ggX5_sheet_X5_isBelow
set_option maxRecDepth 20000 in
theorem ggX5_sheet_X5_failed : GoodIn wsX5_sheet wsX5_failed := goodIn_r _ [16, 1, 26, 27, 28, 29, 30, 31, 32, 33, 34] (by decide +kernel) (by decide +kernel)
set_option maxRecDepth 20000 in
theorem gX5_sheet_X5_failed : GoodIn wsX5_sheet (wsV RX5 67 RX5 yX5_failed wsX5_failed) := goodIn_app (goodIn_of _ (by decide +kernel)) ggX5_sheet_X5_failed
set_option maxRecDepth 20000 in
theorem ggX5_sheet_X2_init : GoodIn wsX5_sheet wsX2_init := goodIn_r _ [19, 20, 21, 22, 23, 24, 25, 35, 36] (by decide +kernel) (by decide +kernel)
set_option maxRecDepth 20000 in
theorem gX5_sheet_X2_init : GoodIn wsX5_sheet (wsX2_init) := ggX5_sheet_X2_init
theorem dX5_sheet_0 : decode cX5_sheet 0 = .ok (.aload_n 0, 1) := by decide +kernel
theorem dX5_sheet_1 : decode cX5_sheet 1 = .ok (.iconst 0, 1) := by decide +kernel
theorem dX5_sheet_2 : decode cX5_sheet 2 = .ok (.putfield 51, 3) := by decide +kernel
theorem dX5_sheet_5 : decode cX5_sheet 5 = .ok (.iload_n 1, 1) := by decide +kernel
theorem dX5_sheet_6 : decode cX5_sheet 6 = .ok (.invokestatic 55, 3) := by decide +kernel
theorem dX5_sheet_9 : decode cX5_sheet 9 = .ok (.ifCond .ne 5, 3) := by decide +kernel
theorem dX5_sheet_12 : decode cX5_sheet 12 = .ok (.iconst (-1), 1) := by decide +kernel
theorem dX5_sheet_13 : decode cX5_sheet 13 = .ok (.ireturn, 1) := by decide +kernel
theorem dX5_sheet_14 : decode cX5_sheet 14 = .ok (.iload_n 2, 1) := by decide +kernel
theorem dX5_sheet_15 : decode cX5_sheet 15 = .ok (.iconst 3, 1) := by decide +kernel
theorem dX5_sheet_16 : decode cX5_sheet 16 = .ok (.invokestatic 59, 3) := by decide +kernel
theorem dX5_sheet_19 : decode cX5_sheet 19 = .ok (.ifCond .eq 9, 3) := by decide +kernel
theorem dX5_sheet_22 : decode cX5_sheet 22 = .ok (.iload_n 3, 1) := by decide +kernel
theorem dX5_sheet_23 : decode cX5_sheet 23 = .ok (.bipush 60, 2) := by decide +kernel
theorem dX5_sheet_25 : decode cX5_sheet 25 = .ok (.if_icmp .le 6, 3) := by decide +kernel
theorem dX5_sheet_28 : decode cX5_sheet 28 = .ok (.bipush (-2), 2) := by decide +kernel
theorem dX5_sheet_30 : decode cX5_sheet 30 = .ok (.ireturn, 1) := by decide +kernel
theorem dX5_sheet_31 : decode cX5_sheet 31 = .ok (.iload_n 3, 1) := by decide +kernel
theorem dX5_sheet_32 : decode cX5_sheet 32 = .ok (.ifCond .ge 9, 3) := by decide +kernel
theorem dX5_sheet_35 : decode cX5_sheet 35 = .ok (.aload_n 0, 1) := by decide +kernel
theorem dX5_sheet_36 : decode cX5_sheet 36 = .ok (.iconst 4, 1) := by decide +kernel
theorem dX5_sheet_37 : decode cX5_sheet 37 = .ok (.invokevirtual 67, 3) := by decide +kernel
theorem dX5_sheet_40 : decode cX5_sheet 40 = .ok (.ireturn, 1) := by decide +kernel
theorem dX5_sheet_41 : decode cX5_sheet 41 = .ok (.aload_n 0, 1) := by decide +kernel
theorem dX5_sheet_42 : decode cX5_sheet 42 = .ok (.getfield 13, 3) := by decide +kernel
theorem dX5_sheet_45 : decode cX5_sheet 45 = .ok (.iload_n 1, 1) := by decide +kernel
theorem dX5_sheet_46 : decode cX5_sheet 46 = .ok (.new 11, 3) := by decide +kernel
theorem dX5_sheet_49 : decode cX5_sheet 49 = .ok (.dup, 1) := by decide +kernel
theorem dX5_sheet_50 : decode cX5_sheet 50 = .ok (.iload_n 2, 1) := by decide +kernel
theorem dX5_sheet_51 : decode cX5_sheet 51 = .ok (.iload_n 3, 1) := by decide +kernel
theorem dX5_sheet_52 : decode cX5_sheet 52 = .ok (.invokespecial 191, 3) := by decide +kernel
theorem dX5_sheet_55 : decode cX5_sheet 55 = .ok (.aastore, 1) := by decide +kernel
theorem dX5_sheet_56 : decode cX5_sheet 56 = .ok (.iconst 1, 1) := by decide +kernel
theorem dX5_sheet_57 : decode cX5_sheet 57 = .ok (.ireturn, 1) := by decide +kernel
set_option maxRecDepth 20000 in
theorem ggX5_lose_X5_isSheet : GoodIn wsX5_lose wsX5_isSheet := goodIn_r _ [5, 6, 7, 4, 8] (by decide +kernel) (by decide +kernel)
set_option maxRecDepth 20000 in
theorem gX5_lose_X5_isSheet : GoodIn wsX5_lose (va_wsS RX5 55 yX5_isSheet wsX5_isSheet) := goodIn_app (goodIn_of _ (by decide +kernel)) ggX5_lose_X5_isSheet
theorem dX5_lose_0 : decode cX5_lose 0 = .ok (.iload_n 1, 1) := by decide +kernel
theorem dX5_lose_1 : decode cX5_lose 1 = .ok (.invokestatic 55, 3) := by decide +kernel
theorem dX5_lose_4 : decode cX5_lose 4 = .ok (.ifCond .ne 5, 3) := by decide +kernel
theorem dX5_lose_7 : decode cX5_lose 7 = .ok (.iconst (-1), 1) := by decide +kernel
theorem dX5_lose_8 : decode cX5_lose 8 = .ok (.ireturn, 1) := by decide +kernel
theorem dX5_lose_9 : decode cX5_lose 9 = .ok (.aload_n 0, 1) := by decide +kernel
theorem dX5_lose_10 : decode cX5_lose 10 = .ok (.getfield 13, 3) := by decide +kernel
theorem dX5_lose_13 : decode cX5_lose 13 = .ok (.iload_n 1, 1) := by decide +kernel
theorem dX5_lose_14 : decode cX5_lose 14 = .ok (.aaload, 1) := by decide +kernel
theorem dX5_lose_15 : decode cX5_lose 15 = .ok (.ifnonnull 7, 3) := by decide +kernel
theorem dX5_lose_18 : decode cX5_lose 18 = .ok (.iconst 0, 1) := by decide +kernel
theorem dX5_lose_19 : decode cX5_lose 19 = .ok (.goto 4, 3) := by decide +kernel
theorem dX5_lose_22 : decode cX5_lose 22 = .ok (.iconst 1, 1) := by decide +kernel
theorem dX5_lose_23 : decode cX5_lose 23 = .ok (.istore_n 2, 1) := by decide +kernel
theorem dX5_lose_24 : decode cX5_lose 24 = .ok (.aload_n 0, 1) := by decide +kernel
theorem dX5_lose_25 : decode cX5_lose 25 = .ok (.getfield 13, 3) := by decide +kernel
theorem dX5_lose_28 : decode cX5_lose 28 = .ok (.iload_n 1, 1) := by decide +kernel
theorem dX5_lose_29 : decode cX5_lose 29 = .ok (.aconst_null, 1) := by decide +kernel
theorem dX5_lose_30 : decode cX5_lose 30 = .ok (.aastore, 1) := by decide +kernel
theorem dX5_lose_31 : decode cX5_lose 31 = .ok (.iload_n 2, 1) := by decide +kernel
theorem dX5_lose_32 : decode cX5_lose 32 = .ok (.ireturn, 1) := by decide +kernel
set_option maxRecDepth 20000 in
theorem ggX5_put_X5_isSheet : GoodIn wsX5_put wsX5_isSheet := goodIn_r _ [7, 8, 9, 6, 10] (by decide +kernel) (by decide +kernel)
set_option maxRecDepth 20000 in
theorem gX5_put_X5_isSheet : GoodIn wsX5_put (va_wsS RX5 55 yX5_isSheet wsX5_isSheet) := goodIn_app (goodIn_of _ (by decide +kernel)) ggX5_put_X5_isSheet
set_option maxRecDepth 20000 in
theorem ggX5_put_X5_failed : GoodIn wsX5_put wsX5_failed := goodIn_r _ [14, 1, 21, 22, 23, 24, 25, 26, 27, 28, 29] (by decide +kernel) (by decide +kernel)
set_option maxRecDepth 20000 in
theorem gX5_put_X5_failed : GoodIn wsX5_put (wsV RX5 67 RX5 yX5_failed wsX5_failed) := goodIn_app (goodIn_of _ (by decide +kernel)) ggX5_put_X5_failed
set_option maxRecDepth 20000 in
theorem ggX5_put_X5_isBelow : GoodIn wsX5_put wsX5_isBelow := goodIn_r _ [10] (by decide +kernel) (by decide +kernel)
set_option maxRecDepth 20000 in
theorem gX5_put_X5_isBelow : GoodIn wsX5_put (va_wsS RX5 59 yX5_isBelow wsX5_isBelow) := goodIn_app (goodIn_of _ (by decide +kernel)) ggX5_put_X5_isBelow
set_option maxRecDepth 20000 in
theorem ggX5_put_X2_cut : GoodIn wsX5_put wsX2_cut := goodIn_r _ [19, 20, 30, 31] (by decide +kernel) (by decide +kernel)
set_option maxRecDepth 20000 in
theorem gX5_put_X2_cut : GoodIn wsX5_put (wsV RX5 194 RX2 yX2_cut wsX2_cut) := goodIn_app (goodIn_of _ (by decide +kernel)) ggX5_put_X2_cut
theorem dX5_put_0 : decode cX5_put 0 = .ok (.aload_n 0, 1) := by decide +kernel
theorem dX5_put_1 : decode cX5_put 1 = .ok (.iconst 0, 1) := by decide +kernel
theorem dX5_put_2 : decode cX5_put 2 = .ok (.putfield 51, 3) := by decide +kernel
theorem dX5_put_5 : decode cX5_put 5 = .ok (.iload_n 1, 1) := by decide +kernel
theorem dX5_put_6 : decode cX5_put 6 = .ok (.invokestatic 55, 3) := by decide +kernel
theorem dX5_put_9 : decode cX5_put 9 = .ok (.ifCond .ne 5, 3) := by decide +kernel
theorem dX5_put_12 : decode cX5_put 12 = .ok (.iconst (-1), 1) := by decide +kernel
theorem dX5_put_13 : decode cX5_put 13 = .ok (.ireturn, 1) := by decide +kernel
theorem dX5_put_14 : decode cX5_put 14 = .ok (.aload_n 0, 1) := by decide +kernel
theorem dX5_put_15 : decode cX5_put 15 = .ok (.getfield 13, 3) := by decide +kernel
theorem dX5_put_18 : decode cX5_put 18 = .ok (.iload_n 1, 1) := by decide +kernel
theorem dX5_put_19 : decode cX5_put 19 = .ok (.aaload, 1) := by decide +kernel
theorem dX5_put_20 : decode cX5_put 20 = .ok (.astore 4, 2) := by decide +kernel
theorem dX5_put_22 : decode cX5_put 22 = .ok (.aload 4, 2) := by decide +kernel
theorem dX5_put_24 : decode cX5_put 24 = .ok (.ifnonnull 9, 3) := by decide +kernel
theorem dX5_put_27 : decode cX5_put 27 = .ok (.aload_n 0, 1) := by decide +kernel
theorem dX5_put_28 : decode cX5_put 28 = .ok (.iconst 1, 1) := by decide +kernel
theorem dX5_put_29 : decode cX5_put 29 = .ok (.invokevirtual 67, 3) := by decide +kernel
theorem dX5_put_32 : decode cX5_put 32 = .ok (.ireturn, 1) := by decide +kernel
theorem dX5_put_33 : decode cX5_put 33 = .ok (.iload_n 2, 1) := by decide +kernel
theorem dX5_put_34 : decode cX5_put 34 = .ok (.aload 4, 2) := by decide +kernel
theorem dX5_put_36 : decode cX5_put 36 = .ok (.getfield 71, 3) := by decide +kernel
theorem dX5_put_39 : decode cX5_put 39 = .ok (.arraylength, 1) := by decide +kernel
theorem dX5_put_40 : decode cX5_put 40 = .ok (.invokestatic 59, 3) := by decide +kernel
theorem dX5_put_43 : decode cX5_put 43 = .ok (.ifCond .ne 9, 3) := by decide +kernel
theorem dX5_put_46 : decode cX5_put 46 = .ok (.aload_n 0, 1) := by decide +kernel
theorem dX5_put_47 : decode cX5_put 47 = .ok (.iconst 3, 1) := by decide +kernel
theorem dX5_put_48 : decode cX5_put 48 = .ok (.invokevirtual 67, 3) := by decide +kernel
theorem dX5_put_51 : decode cX5_put 51 = .ok (.ireturn, 1) := by decide +kernel
theorem dX5_put_52 : decode cX5_put 52 = .ok (.aload 4, 2) := by decide +kernel
theorem dX5_put_54 : decode cX5_put 54 = .ok (.getfield 71, 3) := by decide +kernel
theorem dX5_put_57 : decode cX5_put 57 = .ok (.iload_n 2, 1) := by decide +kernel
theorem dX5_put_58 : decode cX5_put 58 = .ok (.aload 4, 2) := by decide +kernel
theorem dX5_put_60 : decode cX5_put 60 = .ok (.iload_n 3, 1) := by decide +kernel
theorem dX5_put_61 : decode cX5_put 61 = .ok (.invokevirtual 194, 3) := by decide +kernel
theorem dX5_put_64 : decode cX5_put 64 = .ok (.iastore, 1) := by decide +kernel
theorem dX5_put_65 : decode cX5_put 65 = .ok (.iconst 1, 1) := by decide +kernel
theorem dX5_put_66 : decode cX5_put 66 = .ok (.ireturn, 1) := by decide +kernel
set_option maxRecDepth 20000 in
theorem ggX5_cell_X5_isSheet : GoodIn wsX5_cell wsX5_isSheet := goodIn_r _ [8, 9, 10, 7, 11] (by decide +kernel) (by decide +kernel)
set_option maxRecDepth 20000 in
theorem gX5_cell_X5_isSheet : GoodIn wsX5_cell (va_wsS RX5 55 yX5_isSheet wsX5_isSheet) := goodIn_app (goodIn_of _ (by decide +kernel)) ggX5_cell_X5_isSheet
set_option maxRecDepth 20000 in
theorem ggX5_cell_X5_isBelow : GoodIn wsX5_cell wsX5_isBelow := goodIn_r _ [11] (by decide +kernel) (by decide +kernel)
set_option maxRecDepth 20000 in
theorem gX5_cell_X5_isBelow : GoodIn wsX5_cell (va_wsS RX5 59 yX5_isBelow wsX5_isBelow) := goodIn_app (goodIn_of _ (by decide +kernel)) ggX5_cell_X5_isBelow
set_option maxRecDepth 20000 in
theorem ggX5_cell_X5_faultOfCells : GoodIn wsX5_cell wsX5_faultOfCells := goodIn_r _ [14, 15, 16, 17, 18, 19, 20, 21, 31, 32] (by decide +kernel) (by decide +kernel)
set_option maxRecDepth 20000 in
theorem gX5_cell_X5_faultOfCells : GoodIn wsX5_cell (va_wsS RX5 63 yX5_faultOfCells wsX5_faultOfCells) := goodIn_app (goodIn_of _ (by decide +kernel)) ggX5_cell_X5_faultOfCells
theorem dX5_cell_0 : decode cX5_cell 0 = .ok (.aload_n 0, 1) := by decide +kernel
theorem dX5_cell_1 : decode cX5_cell 1 = .ok (.iconst 0, 1) := by decide +kernel
theorem dX5_cell_2 : decode cX5_cell 2 = .ok (.putfield 51, 3) := by decide +kernel
theorem dX5_cell_5 : decode cX5_cell 5 = .ok (.iload_n 1, 1) := by decide +kernel
theorem dX5_cell_6 : decode cX5_cell 6 = .ok (.invokestatic 55, 3) := by decide +kernel
theorem dX5_cell_9 : decode cX5_cell 9 = .ok (.ifCond .eq 11, 3) := by decide +kernel
theorem dX5_cell_12 : decode cX5_cell 12 = .ok (.iload_n 3, 1) := by decide +kernel
theorem dX5_cell_13 : decode cX5_cell 13 = .ok (.iconst 3, 1) := by decide +kernel
theorem dX5_cell_14 : decode cX5_cell 14 = .ok (.invokestatic 59, 3) := by decide +kernel
theorem dX5_cell_17 : decode cX5_cell 17 = .ok (.ifCond .ne 7, 3) := by decide +kernel
theorem dX5_cell_20 : decode cX5_cell 20 = .ok (.ldc2_w 111, 3) := by decide +kernel
theorem dX5_cell_23 : decode cX5_cell 23 = .ok (.lreturn, 1) := by decide +kernel
theorem dX5_cell_24 : decode cX5_cell 24 = .ok (.aload_n 0, 1) := by decide +kernel
theorem dX5_cell_25 : decode cX5_cell 25 = .ok (.getfield 13, 3) := by decide +kernel
theorem dX5_cell_28 : decode cX5_cell 28 = .ok (.iload_n 1, 1) := by decide +kernel
theorem dX5_cell_29 : decode cX5_cell 29 = .ok (.aaload, 1) := by decide +kernel
theorem dX5_cell_30 : decode cX5_cell 30 = .ok (.astore 4, 2) := by decide +kernel
theorem dX5_cell_32 : decode cX5_cell 32 = .ok (.aload_n 0, 1) := by decide +kernel
theorem dX5_cell_33 : decode cX5_cell 33 = .ok (.aload 4, 2) := by decide +kernel
theorem dX5_cell_35 : decode cX5_cell 35 = .ok (.iload_n 3, 1) := by decide +kernel
theorem dX5_cell_36 : decode cX5_cell 36 = .ok (.iload_n 2, 1) := by decide +kernel
theorem dX5_cell_37 : decode cX5_cell 37 = .ok (.iconst 1, 1) := by decide +kernel
theorem dX5_cell_38 : decode cX5_cell 38 = .ok (.invokestatic 63, 3) := by decide +kernel
theorem dX5_cell_41 : decode cX5_cell 41 = .ok (.putfield 51, 3) := by decide +kernel
theorem dX5_cell_44 : decode cX5_cell 44 = .ok (.aload_n 0, 1) := by decide +kernel
theorem dX5_cell_45 : decode cX5_cell 45 = .ok (.getfield 51, 3) := by decide +kernel
theorem dX5_cell_48 : decode cX5_cell 48 = .ok (.ifCond .ne 14, 3) := by decide +kernel
theorem dX5_cell_51 : decode cX5_cell 51 = .ok (.aload 4, 2) := by decide +kernel
theorem dX5_cell_53 : decode cX5_cell 53 = .ok (.getfield 71, 3) := by decide +kernel
theorem dX5_cell_56 : decode cX5_cell 56 = .ok (.iload_n 2, 1) := by decide +kernel
theorem dX5_cell_57 : decode cX5_cell 57 = .ok (.iaload, 1) := by decide +kernel
theorem dX5_cell_58 : decode cX5_cell 58 = .ok (.i2l, 1) := by decide +kernel
theorem dX5_cell_59 : decode cX5_cell 59 = .ok (.goto 6, 3) := by decide +kernel
theorem dX5_cell_62 : decode cX5_cell 62 = .ok (.ldc2_w 111, 3) := by decide +kernel
theorem dX5_cell_65 : decode cX5_cell 65 = .ok (.lreturn, 1) := by decide +kernel
set_option maxRecDepth 20000 in
theorem ggX5_copy_X5_isSheet : GoodIn wsX5_copy wsX5_isSheet := goodIn_r _ [12, 13, 14, 11, 15] (by decide +kernel) (by decide +kernel)
set_option maxRecDepth 20000 in
theorem gX5_copy_X5_isSheet : GoodIn wsX5_copy (va_wsS RX5 55 yX5_isSheet wsX5_isSheet) := goodIn_app (goodIn_of _ (by decide +kernel)) ggX5_copy_X5_isSheet
set_option maxRecDepth 20000 in
theorem ggX5_copy_X5_failed : GoodIn wsX5_copy wsX5_failed := goodIn_r _ [19, 1, 26, 27, 28, 29, 30, 31, 32, 33, 34] (by decide +kernel) (by decide +kernel)
set_option maxRecDepth 20000 in
theorem gX5_copy_X5_failed : GoodIn wsX5_copy (wsV RX5 67 RX5 yX5_failed wsX5_failed) := goodIn_app (goodIn_of _ (by decide +kernel)) ggX5_copy_X5_failed
set_option maxRecDepth 20000 in
theorem ggX5_copy_X2_hasCells : GoodIn wsX5_copy wsX2_hasCells := goodIn_r _ [24, 25, 35, 36] (by decide +kernel) (by decide +kernel)
set_option maxRecDepth 20000 in
theorem gX5_copy_X2_hasCells : GoodIn wsX5_copy (wsV RX5 200 RX2 yX2_hasCells wsX2_hasCells) := goodIn_app (goodIn_of _ (by decide +kernel)) ggX5_copy_X2_hasCells
theorem dX5_copy_0 : decode cX5_copy 0 = .ok (.aload_n 0, 1) := by decide +kernel
theorem dX5_copy_1 : decode cX5_copy 1 = .ok (.iconst 0, 1) := by decide +kernel
theorem dX5_copy_2 : decode cX5_copy 2 = .ok (.putfield 51, 3) := by decide +kernel
theorem dX5_copy_5 : decode cX5_copy 5 = .ok (.iload_n 1, 1) := by decide +kernel
theorem dX5_copy_6 : decode cX5_copy 6 = .ok (.invokestatic 55, 3) := by decide +kernel
theorem dX5_copy_9 : decode cX5_copy 9 = .ok (.ifCond .eq 10, 3) := by decide +kernel
theorem dX5_copy_12 : decode cX5_copy 12 = .ok (.iload_n 3, 1) := by decide +kernel
theorem dX5_copy_13 : decode cX5_copy 13 = .ok (.invokestatic 55, 3) := by decide +kernel
theorem dX5_copy_16 : decode cX5_copy 16 = .ok (.ifCond .ne 5, 3) := by decide +kernel
theorem dX5_copy_19 : decode cX5_copy 19 = .ok (.iconst (-1), 1) := by decide +kernel
theorem dX5_copy_20 : decode cX5_copy 20 = .ok (.ireturn, 1) := by decide +kernel
theorem dX5_copy_21 : decode cX5_copy 21 = .ok (.aload_n 0, 1) := by decide +kernel
theorem dX5_copy_22 : decode cX5_copy 22 = .ok (.getfield 13, 3) := by decide +kernel
theorem dX5_copy_25 : decode cX5_copy 25 = .ok (.iload_n 1, 1) := by decide +kernel
theorem dX5_copy_26 : decode cX5_copy 26 = .ok (.aaload, 1) := by decide +kernel
theorem dX5_copy_27 : decode cX5_copy 27 = .ok (.astore 6, 2) := by decide +kernel
theorem dX5_copy_29 : decode cX5_copy 29 = .ok (.aload_n 0, 1) := by decide +kernel
theorem dX5_copy_30 : decode cX5_copy 30 = .ok (.getfield 13, 3) := by decide +kernel
theorem dX5_copy_33 : decode cX5_copy 33 = .ok (.iload_n 3, 1) := by decide +kernel
theorem dX5_copy_34 : decode cX5_copy 34 = .ok (.aaload, 1) := by decide +kernel
theorem dX5_copy_35 : decode cX5_copy 35 = .ok (.astore 7, 2) := by decide +kernel
theorem dX5_copy_37 : decode cX5_copy 37 = .ok (.aload 6, 2) := by decide +kernel
theorem dX5_copy_39 : decode cX5_copy 39 = .ok (.ifnull 8, 3) := by decide +kernel
theorem dX5_copy_42 : decode cX5_copy 42 = .ok (.aload 7, 2) := by decide +kernel
theorem dX5_copy_44 : decode cX5_copy 44 = .ok (.ifnonnull 9, 3) := by decide +kernel
theorem dX5_copy_47 : decode cX5_copy 47 = .ok (.aload_n 0, 1) := by decide +kernel
theorem dX5_copy_48 : decode cX5_copy 48 = .ok (.iconst 1, 1) := by decide +kernel
theorem dX5_copy_49 : decode cX5_copy 49 = .ok (.invokevirtual 67, 3) := by decide +kernel
theorem dX5_copy_52 : decode cX5_copy 52 = .ok (.ireturn, 1) := by decide +kernel
theorem dX5_copy_53 : decode cX5_copy 53 = .ok (.aload 6, 2) := by decide +kernel
theorem dX5_copy_55 : decode cX5_copy 55 = .ok (.getfield 197, 3) := by decide +kernel
theorem dX5_copy_58 : decode cX5_copy 58 = .ok (.aload 7, 2) := by decide +kernel
theorem dX5_copy_60 : decode cX5_copy 60 = .ok (.getfield 197, 3) := by decide +kernel
theorem dX5_copy_63 : decode cX5_copy 63 = .ok (.if_icmp .eq 9, 3) := by decide +kernel
theorem dX5_copy_66 : decode cX5_copy 66 = .ok (.aload_n 0, 1) := by decide +kernel
theorem dX5_copy_67 : decode cX5_copy 67 = .ok (.iconst 2, 1) := by decide +kernel
theorem dX5_copy_68 : decode cX5_copy 68 = .ok (.invokevirtual 67, 3) := by decide +kernel
theorem dX5_copy_71 : decode cX5_copy 71 = .ok (.ireturn, 1) := by decide +kernel
theorem dX5_copy_72 : decode cX5_copy 72 = .ok (.aload 6, 2) := by decide +kernel
theorem dX5_copy_74 : decode cX5_copy 74 = .ok (.iload_n 2, 1) := by decide +kernel
theorem dX5_copy_75 : decode cX5_copy 75 = .ok (.iload 5, 2) := by decide +kernel
theorem dX5_copy_77 : decode cX5_copy 77 = .ok (.invokevirtual 200, 3) := by decide +kernel
theorem dX5_copy_80 : decode cX5_copy 80 = .ok (.ifCond .eq 15, 3) := by decide +kernel
theorem dX5_copy_83 : decode cX5_copy 83 = .ok (.aload 7, 2) := by decide +kernel
theorem dX5_copy_85 : decode cX5_copy 85 = .ok (.iload 4, 2) := by decide +kernel
theorem dX5_copy_87 : decode cX5_copy 87 = .ok (.iload 5, 2) := by decide +kernel
theorem dX5_copy_89 : decode cX5_copy 89 = .ok (.invokevirtual 200, 3) := by decide +kernel
theorem dX5_copy_92 : decode cX5_copy 92 = .ok (.ifCond .ne 9, 3) := by decide +kernel
theorem dX5_copy_95 : decode cX5_copy 95 = .ok (.aload_n 0, 1) := by decide +kernel
theorem dX5_copy_96 : decode cX5_copy 96 = .ok (.iconst 3, 1) := by decide +kernel
theorem dX5_copy_97 : decode cX5_copy 97 = .ok (.invokevirtual 67, 3) := by decide +kernel
theorem dX5_copy_100 : decode cX5_copy 100 = .ok (.ireturn, 1) := by decide +kernel
theorem dX5_copy_101 : decode cX5_copy 101 = .ok (.aload 6, 2) := by decide +kernel
theorem dX5_copy_103 : decode cX5_copy 103 = .ok (.getfield 71, 3) := by decide +kernel
theorem dX5_copy_106 : decode cX5_copy 106 = .ok (.iload_n 2, 1) := by decide +kernel
theorem dX5_copy_107 : decode cX5_copy 107 = .ok (.aload 7, 2) := by decide +kernel
theorem dX5_copy_109 : decode cX5_copy 109 = .ok (.getfield 71, 3) := by decide +kernel
theorem dX5_copy_112 : decode cX5_copy 112 = .ok (.iload 4, 2) := by decide +kernel
theorem dX5_copy_114 : decode cX5_copy 114 = .ok (.iload 5, 2) := by decide +kernel
theorem dX5_copy_116 : decode cX5_copy 116 = .ok (.invokestatic 203, 3) := by decide +kernel
theorem dX5_copy_119 : decode cX5_copy 119 = .ok (.iload 5, 2) := by decide +kernel
theorem dX5_copy_121 : decode cX5_copy 121 = .ok (.ireturn, 1) := by decide +kernel
set_option maxRecDepth 20000 in
theorem ggX5_tell_X5_isPolynomial : GoodIn wsX5_tell wsX5_isPolynomial := goodIn_r _ [7, 1, 8, 9, 10, 6, 11, 31, 32, 33, 34, 35, 36, 37, 38, 39, 40, 41, 42] (by decide +kernel) (by decide +kernel)
set_option maxRecDepth 20000 in
theorem gX5_tell_X5_isPolynomial : GoodIn wsX5_tell (wsV RX5 93 RX5 yX5_isPolynomial wsX5_isPolynomial) := goodIn_app (goodIn_of _ (by decide +kernel)) ggX5_tell_X5_isPolynomial
set_option maxRecDepth 20000 in
theorem ggX5_tell_X5_shiftedBody : GoodIn wsX5_tell wsX5_shiftedBody := goodIn_r _ [15, 16, 17, 18, 6, 19, 20, 21, 22, 23, 24, 25, 26, 27, 28, 29, 30, 31, 32, 33, 34, 35, 36, 37, 38, 39, 43, 44, 45, 46, 47, 48, 49, 50, 51, 52, 53, 54, 55, 56] (by decide +kernel) (by decide +kernel)
set_option maxRecDepth 20000 in
theorem gX5_tell_X5_shiftedBody : GoodIn wsX5_tell (wsV RX5 209 RX5 yX5_shiftedBody wsX5_shiftedBody) := goodIn_app (goodIn_of _ (by decide +kernel)) ggX5_tell_X5_shiftedBody
set_option maxRecDepth 20000 in
theorem ggX5_tell_X5_mirroredBody : GoodIn wsX5_tell wsX5_mirroredBody := goodIn_r _ [24, 16, 17, 18, 6, 19, 20, 25, 26, 27, 28, 29, 30, 31, 32, 33, 34, 35, 36, 37, 38, 39, 43, 44, 45, 46, 47, 48, 49, 50, 51, 52, 53, 54, 55, 56] (by decide +kernel) (by decide +kernel)
set_option maxRecDepth 20000 in
theorem gX5_tell_X5_mirroredBody : GoodIn wsX5_tell (wsV RX5 212 RX5 yX5_mirroredBody wsX5_mirroredBody) := goodIn_app (goodIn_of _ (by decide +kernel)) ggX5_tell_X5_mirroredBody
set_option maxRecDepth 20000 in
theorem ggX5_tell_X5_plainBody : GoodIn wsX5_tell wsX5_plainBody := goodIn_r _ [28, 29, 30, 16, 17, 18, 6, 19, 20, 31, 32, 33, 34, 35, 36, 37, 38, 39, 43, 44, 45, 46, 47, 48, 49, 50, 51, 52, 53, 54, 55, 56] (by decide +kernel) (by decide +kernel)
set_option maxRecDepth 20000 in
theorem gX5_tell_X5_plainBody : GoodIn wsX5_tell (wsV RX5 215 RX5 yX5_plainBody wsX5_plainBody) := goodIn_app (goodIn_of _ (by decide +kernel)) ggX5_tell_X5_plainBody
theorem dX5_tell_0 : decode cX5_tell 0 = .ok (.aload_n 0, 1) := by decide +kernel
theorem dX5_tell_1 : decode cX5_tell 1 = .ok (.iload_n 1, 1) := by decide +kernel
theorem dX5_tell_2 : decode cX5_tell 2 = .ok (.invokevirtual 93, 3) := by decide +kernel
theorem dX5_tell_5 : decode cX5_tell 5 = .ok (.ifCond .ne 5, 3) := by decide +kernel
theorem dX5_tell_8 : decode cX5_tell 8 = .ok (.iconst (-1), 1) := by decide +kernel
theorem dX5_tell_9 : decode cX5_tell 9 = .ok (.ireturn, 1) := by decide +kernel
theorem dX5_tell_10 : decode cX5_tell 10 = .ok (.aload_n 0, 1) := by decide +kernel
theorem dX5_tell_11 : decode cX5_tell 11 = .ok (.getfield 20, 3) := by decide +kernel
theorem dX5_tell_14 : decode cX5_tell 14 = .ok (.getfield 96, 3) := by decide +kernel
theorem dX5_tell_17 : decode cX5_tell 17 = .ok (.iload_n 1, 1) := by decide +kernel
theorem dX5_tell_18 : decode cX5_tell 18 = .ok (.iaload, 1) := by decide +kernel
theorem dX5_tell_19 : decode cX5_tell 19 = .ok (.lookupswitch 37 #[(1, 31), (2, 25)], 25) := by decide +kernel
theorem dX5_tell_44 : decode cX5_tell 44 = .ok (.aload_n 0, 1) := by decide +kernel
theorem dX5_tell_45 : decode cX5_tell 45 = .ok (.iload_n 1, 1) := by decide +kernel
theorem dX5_tell_46 : decode cX5_tell 46 = .ok (.invokevirtual 209, 3) := by decide +kernel
theorem dX5_tell_49 : decode cX5_tell 49 = .ok (.ireturn, 1) := by decide +kernel
theorem dX5_tell_50 : decode cX5_tell 50 = .ok (.aload_n 0, 1) := by decide +kernel
theorem dX5_tell_51 : decode cX5_tell 51 = .ok (.iload_n 1, 1) := by decide +kernel
theorem dX5_tell_52 : decode cX5_tell 52 = .ok (.invokevirtual 212, 3) := by decide +kernel
theorem dX5_tell_55 : decode cX5_tell 55 = .ok (.ireturn, 1) := by decide +kernel
theorem dX5_tell_56 : decode cX5_tell 56 = .ok (.aload_n 0, 1) := by decide +kernel
theorem dX5_tell_57 : decode cX5_tell 57 = .ok (.iload_n 1, 1) := by decide +kernel
theorem dX5_tell_58 : decode cX5_tell 58 = .ok (.invokevirtual 215, 3) := by decide +kernel
theorem dX5_tell_61 : decode cX5_tell 61 = .ok (.ireturn, 1) := by decide +kernel
set_option maxRecDepth 20000 in
theorem ggX5_plainBody_X5_leaveInTrace : GoodIn wsX5_plainBody wsX5_leaveInTrace := goodIn_r _ [7, 8, 9, 10, 11, 12, 13, 14, 15, 16, 17] (by decide +kernel) (by decide +kernel)
set_option maxRecDepth 20000 in
theorem gX5_plainBody_X5_leaveInTrace : GoodIn wsX5_plainBody (wsV RX5 218 RX5 yX5_leaveInTrace wsX5_leaveInTrace) := goodIn_app (goodIn_of _ (by decide +kernel)) ggX5_plainBody_X5_leaveInTrace
theorem dX5_plainBody_0 : decode cX5_plainBody 0 = .ok (.aload_n 0, 1) := by decide +kernel
theorem dX5_plainBody_1 : decode cX5_plainBody 1 = .ok (.iconst 1, 1) := by decide +kernel
theorem dX5_plainBody_2 : decode cX5_plainBody 2 = .ok (.invokevirtual 218, 3) := by decide +kernel
theorem dX5_plainBody_5 : decode cX5_plainBody 5 = .ok (.aload_n 0, 1) := by decide +kernel
theorem dX5_plainBody_6 : decode cX5_plainBody 6 = .ok (.getfield 27, 3) := by decide +kernel
theorem dX5_plainBody_9 : decode cX5_plainBody 9 = .ok (.getfield 99, 3) := by decide +kernel
theorem dX5_plainBody_12 : decode cX5_plainBody 12 = .ok (.iload_n 1, 1) := by decide +kernel
theorem dX5_plainBody_13 : decode cX5_plainBody 13 = .ok (.iaload, 1) := by decide +kernel
theorem dX5_plainBody_14 : decode cX5_plainBody 14 = .ok (.ireturn, 1) := by decide +kernel
set_option maxRecDepth 20000 in
theorem ggX5_mirroredBody_X5_leaveInTrace : GoodIn wsX5_mirroredBody wsX5_leaveInTrace := goodIn_r _ [5, 6, 13, 14, 15, 16, 17, 18, 19, 20, 21] (by decide +kernel) (by decide +kernel)
set_option maxRecDepth 20000 in
theorem gX5_mirroredBody_X5_leaveInTrace : GoodIn wsX5_mirroredBody (wsV RX5 218 RX5 yX5_leaveInTrace wsX5_leaveInTrace) := goodIn_app (goodIn_of _ (by decide +kernel)) ggX5_mirroredBody_X5_leaveInTrace
set_option maxRecDepth 20000 in
theorem ggX5_mirroredBody_X5_plainBody : GoodIn wsX5_mirroredBody wsX5_plainBody := goodIn_r _ [10, 11, 12, 1, 2, 3, 4, 5, 6, 13, 14, 15, 16, 17, 18, 19, 20, 21, 22, 23, 24, 25, 26, 27, 28, 29, 30, 31, 32, 33, 34, 35] (by decide +kernel) (by decide +kernel)
set_option maxRecDepth 20000 in
theorem gX5_mirroredBody_X5_plainBody : GoodIn wsX5_mirroredBody (wsV RX5 215 RX5 yX5_plainBody wsX5_plainBody) := goodIn_app (goodIn_of _ (by decide +kernel)) ggX5_mirroredBody_X5_plainBody
theorem dX5_mirroredBody_0 : decode cX5_mirroredBody 0 = .ok (.aload_n 0, 1) := by decide +kernel
theorem dX5_mirroredBody_1 : decode cX5_mirroredBody 1 = .ok (.iconst 2, 1) := by decide +kernel
theorem dX5_mirroredBody_2 : decode cX5_mirroredBody 2 = .ok (.invokevirtual 218, 3) := by decide +kernel
theorem dX5_mirroredBody_5 : decode cX5_mirroredBody 5 = .ok (.aload_n 0, 1) := by decide +kernel
theorem dX5_mirroredBody_6 : decode cX5_mirroredBody 6 = .ok (.iload_n 1, 1) := by decide +kernel
theorem dX5_mirroredBody_7 : decode cX5_mirroredBody 7 = .ok (.invokevirtual 215, 3) := by decide +kernel
theorem dX5_mirroredBody_10 : decode cX5_mirroredBody 10 = .ok (.bipush 100, 2) := by decide +kernel
theorem dX5_mirroredBody_12 : decode cX5_mirroredBody 12 = .ok (.iadd, 1) := by decide +kernel
theorem dX5_mirroredBody_13 : decode cX5_mirroredBody 13 = .ok (.ireturn, 1) := by decide +kernel
set_option maxRecDepth 20000 in
theorem ggX5_shiftedBody_X5_leaveInTrace : GoodIn wsX5_shiftedBody wsX5_leaveInTrace := goodIn_r _ [5, 6, 17, 18, 19, 20, 21, 22, 23, 24, 25] (by decide +kernel) (by decide +kernel)
set_option maxRecDepth 20000 in
theorem gX5_shiftedBody_X5_leaveInTrace : GoodIn wsX5_shiftedBody (wsV RX5 218 RX5 yX5_leaveInTrace wsX5_leaveInTrace) := goodIn_app (goodIn_of _ (by decide +kernel)) ggX5_shiftedBody_X5_leaveInTrace
set_option maxRecDepth 20000 in
theorem ggX5_shiftedBody_X5_mirroredBody : GoodIn wsX5_shiftedBody wsX5_mirroredBody := goodIn_r _ [10, 1, 2, 3, 4, 5, 6, 11, 12, 13, 14, 15, 16, 17, 18, 19, 20, 21, 22, 23, 24, 25, 26, 27, 28, 29, 30, 31, 32, 33, 34, 35, 36, 37, 38, 39] (by decide +kernel) (by decide +kernel)
set_option maxRecDepth 20000 in
theorem gX5_shiftedBody_X5_mirroredBody : GoodIn wsX5_shiftedBody (wsV RX5 212 RX5 yX5_mirroredBody wsX5_mirroredBody) := goodIn_app (goodIn_of _ (by decide +kernel)) ggX5_shiftedBody_X5_mirroredBody
set_option maxRecDepth 20000 in
theorem ggX5_shiftedBody_X5_plainBody : GoodIn wsX5_shiftedBody wsX5_plainBody := goodIn_r _ [14, 15, 16, 1, 2, 3, 4, 5, 6, 17, 18, 19, 20, 21, 22, 23, 24, 25, 26, 27, 28, 29, 30, 31, 32, 33, 34, 35, 36, 37, 38, 39] (by decide +kernel) (by decide +kernel)
set_option maxRecDepth 20000 in
theorem gX5_shiftedBody_X5_plainBody : GoodIn wsX5_shiftedBody (wsV RX5 215 RX5 yX5_plainBody wsX5_plainBody) := goodIn_app (goodIn_of _ (by decide +kernel)) ggX5_shiftedBody_X5_plainBody
theorem dX5_shiftedBody_0 : decode cX5_shiftedBody 0 = .ok (.aload_n 0, 1) := by decide +kernel
theorem dX5_shiftedBody_1 : decode cX5_shiftedBody 1 = .ok (.iconst 3, 1) := by decide +kernel
theorem dX5_shiftedBody_2 : decode cX5_shiftedBody 2 = .ok (.invokevirtual 218, 3) := by decide +kernel
theorem dX5_shiftedBody_5 : decode cX5_shiftedBody 5 = .ok (.aload_n 0, 1) := by decide +kernel
theorem dX5_shiftedBody_6 : decode cX5_shiftedBody 6 = .ok (.iload_n 1, 1) := by decide +kernel
theorem dX5_shiftedBody_7 : decode cX5_shiftedBody 7 = .ok (.invokevirtual 212, 3) := by decide +kernel
theorem dX5_shiftedBody_10 : decode cX5_shiftedBody 10 = .ok (.istore_n 2, 1) := by decide +kernel
theorem dX5_shiftedBody_11 : decode cX5_shiftedBody 11 = .ok (.aload_n 0, 1) := by decide +kernel
theorem dX5_shiftedBody_12 : decode cX5_shiftedBody 12 = .ok (.iload_n 1, 1) := by decide +kernel
theorem dX5_shiftedBody_13 : decode cX5_shiftedBody 13 = .ok (.invokevirtual 215, 3) := by decide +kernel
theorem dX5_shiftedBody_16 : decode cX5_shiftedBody 16 = .ok (.istore_n 3, 1) := by decide +kernel
theorem dX5_shiftedBody_17 : decode cX5_shiftedBody 17 = .ok (.iload_n 2, 1) := by decide +kernel
theorem dX5_shiftedBody_18 : decode cX5_shiftedBody 18 = .ok (.iload_n 3, 1) := by decide +kernel
theorem dX5_shiftedBody_19 : decode cX5_shiftedBody 19 = .ok (.iadd, 1) := by decide +kernel
theorem dX5_shiftedBody_20 : decode cX5_shiftedBody 20 = .ok (.ireturn, 1) := by decide +kernel
set_option maxRecDepth 20000 in
theorem ggX5_call_X5_isPolynomial : GoodIn wsX5_call wsX5_isPolynomial := goodIn_r _ [7, 1, 8, 9, 10, 6, 11, 17, 18, 19, 20, 21, 22, 23, 24, 25, 26, 27, 28] (by decide +kernel) (by decide +kernel)
set_option maxRecDepth 20000 in
theorem gX5_call_X5_isPolynomial : GoodIn wsX5_call (wsV RX5 93 RX5 yX5_isPolynomial wsX5_isPolynomial) := goodIn_app (goodIn_of _ (by decide +kernel)) ggX5_call_X5_isPolynomial
set_option maxRecDepth 20000 in
theorem ggX5_call_X5_leaveInTrace : GoodIn wsX5_call wsX5_leaveInTrace := goodIn_r _ [15, 16, 17, 18, 19, 20, 21, 22, 23, 24, 25] (by decide +kernel) (by decide +kernel)
set_option maxRecDepth 20000 in
theorem gX5_call_X5_leaveInTrace : GoodIn wsX5_call (wsV RX5 218 RX5 yX5_leaveInTrace wsX5_leaveInTrace) := goodIn_app (goodIn_of _ (by decide +kernel)) ggX5_call_X5_leaveInTrace
theorem dX5_call_0 : decode cX5_call 0 = .ok (.aload_n 0, 1) := by decide +kernel
theorem dX5_call_1 : decode cX5_call 1 = .ok (.iload_n 1, 1) := by decide +kernel
theorem dX5_call_2 : decode cX5_call 2 = .ok (.invokevirtual 93, 3) := by decide +kernel
theorem dX5_call_5 : decode cX5_call 5 = .ok (.ifCond .ne 5, 3) := by decide +kernel
theorem dX5_call_8 : decode cX5_call 8 = .ok (.iconst (-1), 1) := by decide +kernel
theorem dX5_call_9 : decode cX5_call 9 = .ok (.ireturn, 1) := by decide +kernel
theorem dX5_call_10 : decode cX5_call 10 = .ok (.aload_n 0, 1) := by decide +kernel
theorem dX5_call_11 : decode cX5_call 11 = .ok (.getfield 20, 3) := by decide +kernel
theorem dX5_call_14 : decode cX5_call 14 = .ok (.getfield 96, 3) := by decide +kernel
theorem dX5_call_17 : decode cX5_call 17 = .ok (.iload_n 1, 1) := by decide +kernel
theorem dX5_call_18 : decode cX5_call 18 = .ok (.iaload, 1) := by decide +kernel
theorem dX5_call_19 : decode cX5_call 19 = .ok (.iconst 2, 1) := by decide +kernel
theorem dX5_call_20 : decode cX5_call 20 = .ok (.if_icmp .ne 11, 3) := by decide +kernel
theorem dX5_call_23 : decode cX5_call 23 = .ok (.aload_n 0, 1) := by decide +kernel
theorem dX5_call_24 : decode cX5_call 24 = .ok (.iconst 5, 1) := by decide +kernel
theorem dX5_call_25 : decode cX5_call 25 = .ok (.invokevirtual 218, 3) := by decide +kernel
theorem dX5_call_28 : decode cX5_call 28 = .ok (.bipush 60, 2) := by decide +kernel
theorem dX5_call_30 : decode cX5_call 30 = .ok (.ireturn, 1) := by decide +kernel
theorem dX5_call_31 : decode cX5_call 31 = .ok (.aload_n 0, 1) := by decide +kernel
theorem dX5_call_32 : decode cX5_call 32 = .ok (.iconst 4, 1) := by decide +kernel
theorem dX5_call_33 : decode cX5_call 33 = .ok (.invokevirtual 218, 3) := by decide +kernel
theorem dX5_call_36 : decode cX5_call 36 = .ok (.iload_n 1, 1) := by decide +kernel
theorem dX5_call_37 : decode cX5_call 37 = .ok (.ireturn, 1) := by decide +kernel
theorem dX5_leaveInTrace_0 : decode cX5_leaveInTrace 0 = .ok (.aload_n 0, 1) := by decide +kernel
theorem dX5_leaveInTrace_1 : decode cX5_leaveInTrace 1 = .ok (.bipush 31, 2) := by decide +kernel
theorem dX5_leaveInTrace_3 : decode cX5_leaveInTrace 3 = .ok (.aload_n 0, 1) := by decide +kernel
theorem dX5_leaveInTrace_4 : decode cX5_leaveInTrace 4 = .ok (.getfield 222, 3) := by decide +kernel
theorem dX5_leaveInTrace_7 : decode cX5_leaveInTrace 7 = .ok (.imul, 1) := by decide +kernel
theorem dX5_leaveInTrace_8 : decode cX5_leaveInTrace 8 = .ok (.iload_n 1, 1) := by decide +kernel
theorem dX5_leaveInTrace_9 : decode cX5_leaveInTrace 9 = .ok (.iadd, 1) := by decide +kernel
theorem dX5_leaveInTrace_10 : decode cX5_leaveInTrace 10 = .ok (.putfield 222, 3) := by decide +kernel
theorem dX5_leaveInTrace_13 : decode cX5_leaveInTrace 13 = .ok (.return_, 1) := by decide +kernel
set_option maxRecDepth 20000 in
theorem ggX5_as_X5_isPolynomial : GoodIn wsX5_as wsX5_isPolynomial := goodIn_r _ [8, 2, 9, 10, 11, 7, 12, 17, 18, 19, 20, 21, 22, 23, 24, 25, 26, 27, 28] (by decide +kernel) (by decide +kernel)
set_option maxRecDepth 20000 in
theorem gX5_as_X5_isPolynomial : GoodIn wsX5_as (wsV RX5 93 RX5 yX5_isPolynomial wsX5_isPolynomial) := goodIn_app (goodIn_of _ (by decide +kernel)) ggX5_as_X5_isPolynomial
set_option maxRecDepth 20000 in
theorem ggX5_as_X5_isBelow : GoodIn wsX5_as wsX5_isBelow := goodIn_r _ [12] (by decide +kernel) (by decide +kernel)
set_option maxRecDepth 20000 in
theorem gX5_as_X5_isBelow : GoodIn wsX5_as (va_wsS RX5 59 yX5_isBelow wsX5_isBelow) := goodIn_app (goodIn_of _ (by decide +kernel)) ggX5_as_X5_isBelow
set_option maxRecDepth 20000 in
theorem ggX5_as_X5_failed : GoodIn wsX5_as wsX5_failed := goodIn_r _ [16, 1, 17, 18, 19, 20, 21, 22, 23, 24, 25] (by decide +kernel) (by decide +kernel)
set_option maxRecDepth 20000 in
theorem gX5_as_X5_failed : GoodIn wsX5_as (wsV RX5 67 RX5 yX5_failed wsX5_failed) := goodIn_app (goodIn_of _ (by decide +kernel)) ggX5_as_X5_failed
theorem dX5_as_0 : decode cX5_as 0 = .ok (.aload_n 0, 1) := by decide +kernel
theorem dX5_as_1 : decode cX5_as 1 = .ok (.iconst 0, 1) := by decide +kernel
theorem dX5_as_2 : decode cX5_as 2 = .ok (.putfield 51, 3) := by decide +kernel
theorem dX5_as_5 : decode cX5_as 5 = .ok (.aload_n 0, 1) := by decide +kernel
theorem dX5_as_6 : decode cX5_as 6 = .ok (.iload_n 1, 1) := by decide +kernel
theorem dX5_as_7 : decode cX5_as 7 = .ok (.invokevirtual 93, 3) := by decide +kernel
theorem dX5_as_10 : decode cX5_as 10 = .ok (.ifCond .ne 5, 3) := by decide +kernel
theorem dX5_as_13 : decode cX5_as 13 = .ok (.iconst (-1), 1) := by decide +kernel
theorem dX5_as_14 : decode cX5_as 14 = .ok (.ireturn, 1) := by decide +kernel
theorem dX5_as_15 : decode cX5_as 15 = .ok (.iload_n 2, 1) := by decide +kernel
theorem dX5_as_16 : decode cX5_as 16 = .ok (.iconst 3, 1) := by decide +kernel
theorem dX5_as_17 : decode cX5_as 17 = .ok (.invokestatic 59, 3) := by decide +kernel
theorem dX5_as_20 : decode cX5_as 20 = .ok (.ifCond .ne 6, 3) := by decide +kernel
theorem dX5_as_23 : decode cX5_as 23 = .ok (.bipush (-2), 2) := by decide +kernel
theorem dX5_as_25 : decode cX5_as 25 = .ok (.ireturn, 1) := by decide +kernel
theorem dX5_as_26 : decode cX5_as 26 = .ok (.aload_n 0, 1) := by decide +kernel
theorem dX5_as_27 : decode cX5_as 27 = .ok (.getfield 20, 3) := by decide +kernel
theorem dX5_as_30 : decode cX5_as 30 = .ok (.getfield 96, 3) := by decide +kernel
theorem dX5_as_33 : decode cX5_as 33 = .ok (.iload_n 1, 1) := by decide +kernel
theorem dX5_as_34 : decode cX5_as 34 = .ok (.iaload, 1) := by decide +kernel
theorem dX5_as_35 : decode cX5_as 35 = .ok (.iload_n 2, 1) := by decide +kernel
theorem dX5_as_36 : decode cX5_as 36 = .ok (.if_icmp .lt 7, 3) := by decide +kernel
theorem dX5_as_39 : decode cX5_as 39 = .ok (.iconst 1, 1) := by decide +kernel
theorem dX5_as_40 : decode cX5_as 40 = .ok (.goto 8, 3) := by decide +kernel
theorem dX5_as_43 : decode cX5_as 43 = .ok (.aload_n 0, 1) := by decide +kernel
theorem dX5_as_44 : decode cX5_as 44 = .ok (.iconst 2, 1) := by decide +kernel
theorem dX5_as_45 : decode cX5_as 45 = .ok (.invokevirtual 67, 3) := by decide +kernel
theorem dX5_as_48 : decode cX5_as 48 = .ok (.ireturn, 1) := by decide +kernel
theorem dX5_trace_0 : decode cX5_trace 0 = .ok (.aload_n 0, 1) := by decide +kernel
theorem dX5_trace_1 : decode cX5_trace 1 = .ok (.getfield 222, 3) := by decide +kernel
theorem dX5_trace_4 : decode cX5_trace 4 = .ok (.ireturn, 1) := by decide +kernel
theorem dX5_fault_0 : decode cX5_fault 0 = .ok (.aload_n 0, 1) := by decide +kernel
theorem dX5_fault_1 : decode cX5_fault 1 = .ok (.getfield 51, 3) := by decide +kernel
theorem dX5_fault_4 : decode cX5_fault 4 = .ok (.ireturn, 1) := by decide +kernel
set_option maxRecDepth 20000 in
theorem ggX5_many_X0_rootsInAll : GoodIn wsX5_many wsX0_rootsInAll := goodIn_r _ [10, 11, 12, 34, 35, 36, 37, 38, 39, 40, 41, 42, 43, 44, 45, 46, 47] (by decide +kernel) (by decide +kernel)
set_option maxRecDepth 20000 in
theorem gX5_many_X0_rootsInAll : GoodIn wsX5_many (wsV RX5 225 RX0 yX0_rootsInAll wsX0_rootsInAll) := goodIn_app (goodIn_of _ (by decide +kernel)) ggX5_many_X0_rootsInAll
set_option maxRecDepth 20000 in
theorem ggX5_many_X0_zeroes : GoodIn wsX5_many wsX0_zeroes := goodIn_r _ [16, 11, 17, 34, 35, 36, 37, 38, 39, 40, 41, 42, 43, 44, 45, 46, 47] (by decide +kernel) (by decide +kernel)
set_option maxRecDepth 20000 in
theorem gX5_many_X0_zeroes : GoodIn wsX5_many (wsV RX5 228 RX0 yX0_zeroes wsX0_zeroes) := goodIn_app (goodIn_of _ (by decide +kernel)) ggX5_many_X0_zeroes
theorem dX5_many_0 : decode cX5_many 0 = .ok (.iload_n 1, 1) := by decide +kernel
theorem dX5_many_1 : decode cX5_many 1 = .ok (.tableswitch 63 0 3 #[31, 39, 47, 55], 31) := by decide +kernel
theorem dX5_many_32 : decode cX5_many 32 = .ok (.aload_n 0, 1) := by decide +kernel
theorem dX5_many_33 : decode cX5_many 33 = .ok (.getfield 20, 3) := by decide +kernel
theorem dX5_many_36 : decode cX5_many 36 = .ok (.getfield 92, 3) := by decide +kernel
theorem dX5_many_39 : decode cX5_many 39 = .ok (.ireturn, 1) := by decide +kernel
theorem dX5_many_40 : decode cX5_many 40 = .ok (.aload_n 0, 1) := by decide +kernel
theorem dX5_many_41 : decode cX5_many 41 = .ok (.getfield 27, 3) := by decide +kernel
theorem dX5_many_44 : decode cX5_many 44 = .ok (.invokevirtual 225, 3) := by decide +kernel
theorem dX5_many_47 : decode cX5_many 47 = .ok (.ireturn, 1) := by decide +kernel
theorem dX5_many_48 : decode cX5_many 48 = .ok (.aload_n 0, 1) := by decide +kernel
theorem dX5_many_49 : decode cX5_many 49 = .ok (.getfield 27, 3) := by decide +kernel
theorem dX5_many_52 : decode cX5_many 52 = .ok (.invokevirtual 228, 3) := by decide +kernel
theorem dX5_many_55 : decode cX5_many 55 = .ok (.ireturn, 1) := by decide +kernel
