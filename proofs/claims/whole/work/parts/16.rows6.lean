theorem dX6_noRoot_1 : decode cX6_noRoot 1 = .ok (.iload_n 1, 1) := by decide +kernel
theorem dX6_noRoot_2 : decode cX6_noRoot 2 = .ok (.invokevirtual 193, 3) := by decide +kernel
theorem dX6_noRoot_5 : decode cX6_noRoot 5 = .ok (.ifCond .ne 20, 3) := by decide +kernel
theorem dX6_noRoot_8 : decode cX6_noRoot 8 = .ok (.iload_n 2, 1) := by decide +kernel
theorem dX6_noRoot_9 : decode cX6_noRoot 9 = .ok (.i2l, 1) := by decide +kernel
theorem dX6_noRoot_10 : decode cX6_noRoot 10 = .ok (.lconst 0, 1) := by decide +kernel
theorem dX6_noRoot_11 : decode cX6_noRoot 11 = .ok (.aload_n 0, 1) := by decide +kernel
theorem dX6_noRoot_12 : decode cX6_noRoot 12 = .ok (.iload_n 1, 1) := by decide +kernel
theorem dX6_noRoot_13 : decode cX6_noRoot 13 = .ok (.invokevirtual 170, 3) := by decide +kernel
theorem dX6_noRoot_16 : decode cX6_noRoot 16 = .ok (.i2l, 1) := by decide +kernel
theorem dX6_noRoot_17 : decode cX6_noRoot 17 = .ok (.lconst 1, 1) := by decide +kernel
theorem dX6_noRoot_18 : decode cX6_noRoot 18 = .ok (.lsub, 1) := by decide +kernel
theorem dX6_noRoot_19 : decode cX6_noRoot 19 = .ok (.invokestatic 78, 3) := by decide +kernel
theorem dX6_noRoot_22 : decode cX6_noRoot 22 = .ok (.ifCond .ne 7, 3) := by decide +kernel
theorem dX6_noRoot_25 : decode cX6_noRoot 25 = .ok (.iconst 1, 1) := by decide +kernel
theorem dX6_noRoot_26 : decode cX6_noRoot 26 = .ok (.goto 4, 3) := by decide +kernel
theorem dX6_noRoot_29 : decode cX6_noRoot 29 = .ok (.iconst 0, 1) := by decide +kernel
theorem dX6_noRoot_30 : decode cX6_noRoot 30 = .ok (.ireturn, 1) := by decide +kernel
set_option maxRecDepth 20000 in
theorem ggX6_nameOf_X6_takesRoot : GoodIn wsX6_nameOf wsX6_takesRoot := goodIn_r _ [6, 7, 8, 9, 10, 1, 11, 12, 13, 14, 15, 5, 16, 17, 18, 19, 20, 21, 22, 23, 34, 35, 36, 37, 38, 39, 40, 41, 42, 43, 44, 45, 46, 47, 48, 49, 50, 51, 52, 53, 54, 55, 56, 57, 58, 59, 60, 61, 62, 63] (by decide +kernel) (by decide +kernel)
set_option maxRecDepth 20000 in
theorem gX6_nameOf_X6_takesRoot : GoodIn wsX6_nameOf (wsV RX6 173 RX6 yX6_takesRoot wsX6_takesRoot) := goodIn_app (goodIn_of _ (by decide +kernel)) ggX6_nameOf_X6_takesRoot
set_option maxRecDepth 20000 in
theorem ggX6_nameOf_X6_is : GoodIn wsX6_nameOf wsX6_is := goodIn_r _ [16, 17, 18, 1, 34, 35, 36, 37, 38, 39, 40, 41, 42, 43, 44, 45, 46, 47, 48, 49, 50, 51, 52, 53, 54, 55, 56, 57, 58, 59, 60, 61, 62, 63] (by decide +kernel) (by decide +kernel)
set_option maxRecDepth 20000 in
theorem gX6_nameOf_X6_is : GoodIn wsX6_nameOf (wsV RX6 133 RX6 yX6_is wsX6_is) := goodIn_app (goodIn_of _ (by decide +kernel)) ggX6_nameOf_X6_is
set_option maxRecDepth 20000 in
theorem ggX6_nameOf_X6_signHere : GoodIn wsX6_nameOf wsX6_signHere := goodIn_r _ [27, 7, 9, 10, 8, 1, 28, 29, 5, 30, 31, 32, 33, 34, 35, 36, 37, 38, 39, 40, 41, 42, 43, 44, 45, 46, 47, 48, 49, 50, 51, 52, 53, 54, 55, 56, 57, 58, 59, 60, 61, 62, 63] (by decide +kernel) (by decide +kernel)
set_option maxRecDepth 20000 in
theorem gX6_nameOf_X6_signHere : GoodIn wsX6_nameOf (wsV RX6 164 RX6 yX6_signHere wsX6_signHere) := goodIn_app (goodIn_of _ (by decide +kernel)) ggX6_nameOf_X6_signHere
set_option maxRecDepth 20000 in
theorem ggX6_nameOf_X6_signOf : GoodIn wsX6_nameOf wsX6_signOf := goodIn_r _ [33] (by decide +kernel) (by decide +kernel)
set_option maxRecDepth 20000 in
theorem gX6_nameOf_X6_signOf : GoodIn wsX6_nameOf (va_wsS RX6 129 yX6_signOf wsX6_signOf) := goodIn_app (goodIn_of _ (by decide +kernel)) ggX6_nameOf_X6_signOf
theorem dX6_nameOf_0 : decode cX6_nameOf 0 = .ok (.aload_n 0, 1) := by decide +kernel
theorem dX6_nameOf_1 : decode cX6_nameOf 1 = .ok (.iload_n 1, 1) := by decide +kernel
theorem dX6_nameOf_2 : decode cX6_nameOf 2 = .ok (.iload_n 2, 1) := by decide +kernel
theorem dX6_nameOf_3 : decode cX6_nameOf 3 = .ok (.invokevirtual 173, 3) := by decide +kernel
theorem dX6_nameOf_6 : decode cX6_nameOf 6 = .ok (.iconst 3, 1) := by decide +kernel
theorem dX6_nameOf_7 : decode cX6_nameOf 7 = .ok (.aload_n 0, 1) := by decide +kernel
theorem dX6_nameOf_8 : decode cX6_nameOf 8 = .ok (.aload_n 0, 1) := by decide +kernel
theorem dX6_nameOf_9 : decode cX6_nameOf 9 = .ok (.iload_n 1, 1) := by decide +kernel
theorem dX6_nameOf_10 : decode cX6_nameOf 10 = .ok (.iconst 1, 1) := by decide +kernel
theorem dX6_nameOf_11 : decode cX6_nameOf 11 = .ok (.invokevirtual 133, 3) := by decide +kernel
theorem dX6_nameOf_14 : decode cX6_nameOf 14 = .ok (.ldc2_w 117, 3) := by decide +kernel
theorem dX6_nameOf_17 : decode cX6_nameOf 17 = .ok (.aload_n 0, 1) := by decide +kernel
theorem dX6_nameOf_18 : decode cX6_nameOf 18 = .ok (.iload_n 1, 1) := by decide +kernel
theorem dX6_nameOf_19 : decode cX6_nameOf 19 = .ok (.iconst 2, 1) := by decide +kernel
theorem dX6_nameOf_20 : decode cX6_nameOf 20 = .ok (.invokevirtual 133, 3) := by decide +kernel
theorem dX6_nameOf_23 : decode cX6_nameOf 23 = .ok (.lmul, 1) := by decide +kernel
theorem dX6_nameOf_24 : decode cX6_nameOf 24 = .ok (.lconst 0, 1) := by decide +kernel
theorem dX6_nameOf_25 : decode cX6_nameOf 25 = .ok (.invokevirtual 164, 3) := by decide +kernel
theorem dX6_nameOf_28 : decode cX6_nameOf 28 = .ok (.iconst 1, 1) := by decide +kernel
theorem dX6_nameOf_29 : decode cX6_nameOf 29 = .ok (.iadd, 1) := by decide +kernel
theorem dX6_nameOf_30 : decode cX6_nameOf 30 = .ok (.imul, 1) := by decide +kernel
theorem dX6_nameOf_31 : decode cX6_nameOf 31 = .ok (.aload_n 0, 1) := by decide +kernel
theorem dX6_nameOf_32 : decode cX6_nameOf 32 = .ok (.iload_n 1, 1) := by decide +kernel
theorem dX6_nameOf_33 : decode cX6_nameOf 33 = .ok (.iconst 2, 1) := by decide +kernel
theorem dX6_nameOf_34 : decode cX6_nameOf 34 = .ok (.invokevirtual 133, 3) := by decide +kernel
theorem dX6_nameOf_37 : decode cX6_nameOf 37 = .ok (.invokestatic 129, 3) := by decide +kernel
theorem dX6_nameOf_40 : decode cX6_nameOf 40 = .ok (.iadd, 1) := by decide +kernel
theorem dX6_nameOf_41 : decode cX6_nameOf 41 = .ok (.iconst 1, 1) := by decide +kernel
theorem dX6_nameOf_42 : decode cX6_nameOf 42 = .ok (.iadd, 1) := by decide +kernel
theorem dX6_nameOf_43 : decode cX6_nameOf 43 = .ok (.ireturn, 1) := by decide +kernel
set_option maxRecDepth 20000 in
theorem ggX6_called_X6_noRoot : GoodIn wsX6_called wsX6_noRoot := goodIn_r _ [5, 6, 7, 8, 4, 9, 10, 11, 12, 13, 14, 15, 16, 17, 18, 19, 20, 21, 22, 23, 24, 25, 26, 27, 28, 29, 54, 55, 56, 57, 58, 59, 60, 61, 62, 63, 64, 65, 66, 67, 68, 69, 70, 71, 72, 73, 74, 75, 76, 77, 78, 79, 80, 81, 82, 83] (by decide +kernel) (by decide +kernel)
set_option maxRecDepth 20000 in
theorem gX6_called_X6_noRoot : GoodIn wsX6_called (wsV RX6 240 RX6 yX6_noRoot wsX6_noRoot) := goodIn_app (goodIn_of _ (by decide +kernel)) ggX6_called_X6_noRoot
set_option maxRecDepth 20000 in
theorem ggX6_called_X6_nameOf : GoodIn wsX6_called wsX6_nameOf := goodIn_r _ [33, 24, 34, 35, 36, 4, 37, 38, 39, 40, 41, 42, 43, 18, 19, 20, 21, 22, 23, 25, 26, 27, 28, 29, 44, 45, 46, 47, 48, 49, 50, 51, 52, 53, 54, 55, 56, 57, 58, 59, 60, 61, 62, 63, 64, 65, 66, 67, 68, 69, 70, 71, 72, 73, 74, 75, 76, 77, 78, 79, 80, 81, 82, 83] (by decide +kernel) (by decide +kernel)
set_option maxRecDepth 20000 in
theorem gX6_called_X6_nameOf : GoodIn wsX6_called (wsV RX6 243 RX6 yX6_nameOf wsX6_nameOf) := goodIn_app (goodIn_of _ (by decide +kernel)) ggX6_called_X6_nameOf
theorem dX6_called_0 : decode cX6_called 0 = .ok (.aload_n 0, 1) := by decide +kernel
theorem dX6_called_1 : decode cX6_called 1 = .ok (.iload_n 1, 1) := by decide +kernel
theorem dX6_called_2 : decode cX6_called 2 = .ok (.iload_n 2, 1) := by decide +kernel
theorem dX6_called_3 : decode cX6_called 3 = .ok (.invokevirtual 240, 3) := by decide +kernel
theorem dX6_called_6 : decode cX6_called 6 = .ok (.ifCond .eq 7, 3) := by decide +kernel
theorem dX6_called_9 : decode cX6_called 9 = .ok (.iconst (-1), 1) := by decide +kernel
theorem dX6_called_10 : decode cX6_called 10 = .ok (.goto 9, 3) := by decide +kernel
theorem dX6_called_13 : decode cX6_called 13 = .ok (.aload_n 0, 1) := by decide +kernel
theorem dX6_called_14 : decode cX6_called 14 = .ok (.iload_n 1, 1) := by decide +kernel
theorem dX6_called_15 : decode cX6_called 15 = .ok (.iload_n 2, 1) := by decide +kernel
theorem dX6_called_16 : decode cX6_called 16 = .ok (.invokevirtual 243, 3) := by decide +kernel
theorem dX6_called_19 : decode cX6_called 19 = .ok (.ireturn, 1) := by decide +kernel
set_option maxRecDepth 20000 in
theorem ggX6_byName_X6_noPolynomial : GoodIn wsX6_byName wsX6_noPolynomial := goodIn_r _ [6, 7, 8, 9, 5, 10, 51, 52, 53, 54, 55, 56, 57, 58, 59, 60, 61, 62, 63, 64, 65, 66, 67, 68, 69, 70, 71, 72, 73, 74, 75, 76, 77, 78, 79, 80] (by decide +kernel) (by decide +kernel)
set_option maxRecDepth 20000 in
theorem gX6_byName_X6_noPolynomial : GoodIn wsX6_byName (wsV RX6 193 RX6 yX6_noPolynomial wsX6_noPolynomial) := goodIn_app (goodIn_of _ (by decide +kernel)) ggX6_byName_X6_noPolynomial
set_option maxRecDepth 20000 in
theorem ggX6_byName_X6_in : GoodIn wsX6_byName wsX6_in := goodIn_r _ [10] (by decide +kernel) (by decide +kernel)
set_option maxRecDepth 20000 in
theorem gX6_byName_X6_in : GoodIn wsX6_byName (va_wsS RX6 78 yX6_in wsX6_in) := goodIn_app (goodIn_of _ (by decide +kernel)) ggX6_byName_X6_in
set_option maxRecDepth 20000 in
theorem ggX6_byName_X6_rootsOf : GoodIn wsX6_byName wsX6_rootsOf := goodIn_r _ [14, 15, 16, 17, 5, 18, 19, 20, 21, 22, 23, 24, 25, 26, 51, 52, 53, 54, 55, 56, 57, 58, 59, 60, 61, 62, 63, 64, 65, 66, 67, 68, 69, 70, 71, 72, 73, 74, 75, 76, 77, 78, 79, 80] (by decide +kernel) (by decide +kernel)
set_option maxRecDepth 20000 in
theorem gX6_byName_X6_rootsOf : GoodIn wsX6_byName (wsV RX6 170 RX6 yX6_rootsOf wsX6_rootsOf) := goodIn_app (goodIn_of _ (by decide +kernel)) ggX6_byName_X6_rootsOf
set_option maxRecDepth 20000 in
theorem ggX6_byName_X6_nameOf : GoodIn wsX6_byName wsX6_nameOf := goodIn_r _ [30, 21, 31, 32, 33, 5, 34, 35, 36, 37, 38, 39, 40, 15, 16, 17, 18, 19, 20, 22, 23, 24, 25, 26, 41, 42, 43, 44, 45, 46, 47, 48, 49, 50, 51, 52, 53, 54, 55, 56, 57, 58, 59, 60, 61, 62, 63, 64, 65, 66, 67, 68, 69, 70, 71, 72, 73, 74, 75, 76, 77, 78, 79, 80] (by decide +kernel) (by decide +kernel)
set_option maxRecDepth 20000 in
theorem gX6_byName_X6_nameOf : GoodIn wsX6_byName (wsV RX6 243 RX6 yX6_nameOf wsX6_nameOf) := goodIn_app (goodIn_of _ (by decide +kernel)) ggX6_byName_X6_nameOf
theorem dX6_byName_0 : decode cX6_byName 0 = .ok (.aload_n 0, 1) := by decide +kernel
theorem dX6_byName_1 : decode cX6_byName 1 = .ok (.iload_n 1, 1) := by decide +kernel
theorem dX6_byName_2 : decode cX6_byName 2 = .ok (.invokevirtual 193, 3) := by decide +kernel
theorem dX6_byName_5 : decode cX6_byName 5 = .ok (.ifCond .eq 5, 3) := by decide +kernel
theorem dX6_byName_8 : decode cX6_byName 8 = .ok (.iconst (-1), 1) := by decide +kernel
theorem dX6_byName_9 : decode cX6_byName 9 = .ok (.ireturn, 1) := by decide +kernel
theorem dX6_byName_10 : decode cX6_byName 10 = .ok (.iload_n 2, 1) := by decide +kernel
theorem dX6_byName_11 : decode cX6_byName 11 = .ok (.i2l, 1) := by decide +kernel
theorem dX6_byName_12 : decode cX6_byName 12 = .ok (.lconst 0, 1) := by decide +kernel
theorem dX6_byName_13 : decode cX6_byName 13 = .ok (.ldc2_w 246, 3) := by decide +kernel
theorem dX6_byName_16 : decode cX6_byName 16 = .ok (.invokestatic 78, 3) := by decide +kernel
theorem dX6_byName_19 : decode cX6_byName 19 = .ok (.ifCond .ne 6, 3) := by decide +kernel
theorem dX6_byName_22 : decode cX6_byName 22 = .ok (.bipush (-2), 2) := by decide +kernel
theorem dX6_byName_24 : decode cX6_byName 24 = .ok (.ireturn, 1) := by decide +kernel
theorem dX6_byName_25 : decode cX6_byName 25 = .ok (.bipush (-9), 2) := by decide +kernel
theorem dX6_byName_27 : decode cX6_byName 27 = .ok (.istore_n 3, 1) := by decide +kernel
theorem dX6_byName_28 : decode cX6_byName 28 = .ok (.aload_n 0, 1) := by decide +kernel
theorem dX6_byName_29 : decode cX6_byName 29 = .ok (.iload_n 1, 1) := by decide +kernel
theorem dX6_byName_30 : decode cX6_byName 30 = .ok (.invokevirtual 170, 3) := by decide +kernel
theorem dX6_byName_33 : decode cX6_byName 33 = .ok (.iconst 1, 1) := by decide +kernel
theorem dX6_byName_34 : decode cX6_byName 34 = .ok (.isub, 1) := by decide +kernel
theorem dX6_byName_35 : decode cX6_byName 35 = .ok (.istore 4, 2) := by decide +kernel
theorem dX6_byName_37 : decode cX6_byName 37 = .ok (.iload 4, 2) := by decide +kernel
theorem dX6_byName_39 : decode cX6_byName 39 = .ok (.ifCond .lt 27, 3) := by decide +kernel
theorem dX6_byName_42 : decode cX6_byName 42 = .ok (.aload_n 0, 1) := by decide +kernel
theorem dX6_byName_43 : decode cX6_byName 43 = .ok (.iload_n 1, 1) := by decide +kernel
theorem dX6_byName_44 : decode cX6_byName 44 = .ok (.iload 4, 2) := by decide +kernel
theorem dX6_byName_46 : decode cX6_byName 46 = .ok (.invokevirtual 243, 3) := by decide +kernel
theorem dX6_byName_49 : decode cX6_byName 49 = .ok (.iload_n 2, 1) := by decide +kernel
theorem dX6_byName_50 : decode cX6_byName 50 = .ok (.if_icmp .ne 8, 3) := by decide +kernel
theorem dX6_byName_53 : decode cX6_byName 53 = .ok (.iload 4, 2) := by decide +kernel
theorem dX6_byName_55 : decode cX6_byName 55 = .ok (.goto 4, 3) := by decide +kernel
theorem dX6_byName_58 : decode cX6_byName 58 = .ok (.iload_n 3, 1) := by decide +kernel
theorem dX6_byName_59 : decode cX6_byName 59 = .ok (.istore_n 3, 1) := by decide +kernel
theorem dX6_byName_60 : decode cX6_byName 60 = .ok (.iinc 4 (-1), 3) := by decide +kernel
theorem dX6_byName_63 : decode cX6_byName 63 = .ok (.goto (-26), 3) := by decide +kernel
theorem dX6_byName_66 : decode cX6_byName 66 = .ok (.iload_n 3, 1) := by decide +kernel
theorem dX6_byName_67 : decode cX6_byName 67 = .ok (.ireturn, 1) := by decide +kernel
set_option maxRecDepth 20000 in
theorem ggX6_signAtRoot_X6_takesRoot : GoodIn wsX6_signAtRoot wsX6_takesRoot := goodIn_r _ [5, 6, 7, 8, 9, 10, 11, 12, 13, 14, 15, 4, 16, 17, 18, 19, 20, 21, 22, 23, 38, 39, 40, 41, 42, 43, 44, 45, 46, 47, 48, 49, 50, 51, 52, 53, 54, 55, 56, 57, 58, 59, 60, 61, 62, 63, 64, 65, 66, 67] (by decide +kernel) (by decide +kernel)
set_option maxRecDepth 20000 in
theorem gX6_signAtRoot_X6_takesRoot : GoodIn wsX6_signAtRoot (wsV RX6 173 RX6 yX6_takesRoot wsX6_takesRoot) := goodIn_app (goodIn_of _ (by decide +kernel)) ggX6_signAtRoot_X6_takesRoot
set_option maxRecDepth 20000 in
theorem ggX6_signAtRoot_X6_signOfAt : GoodIn wsX6_signAtRoot wsX6_signOfAt := goodIn_r _ [27, 13, 14, 15, 4, 16, 17, 18, 10, 28, 29, 30, 31, 6, 8, 9, 7, 32, 33, 34, 35, 36, 37, 38, 39, 40, 41, 42, 43, 44, 45, 46, 47, 48, 49, 50, 51, 52, 53, 54, 55, 56, 57, 58, 59, 60, 61, 62, 63, 64, 65, 66, 67] (by decide +kernel) (by decide +kernel)
set_option maxRecDepth 20000 in
theorem gX6_signAtRoot_X6_signOfAt : GoodIn wsX6_signAtRoot (wsV RX6 190 RX6 yX6_signOfAt wsX6_signOfAt) := goodIn_app (goodIn_of _ (by decide +kernel)) ggX6_signAtRoot_X6_signOfAt
theorem dX6_signAtRoot_0 : decode cX6_signAtRoot 0 = .ok (.aload_n 0, 1) := by decide +kernel
theorem dX6_signAtRoot_1 : decode cX6_signAtRoot 1 = .ok (.iload_n 1, 1) := by decide +kernel
theorem dX6_signAtRoot_2 : decode cX6_signAtRoot 2 = .ok (.iload_n 2, 1) := by decide +kernel
theorem dX6_signAtRoot_3 : decode cX6_signAtRoot 3 = .ok (.invokevirtual 173, 3) := by decide +kernel
theorem dX6_signAtRoot_6 : decode cX6_signAtRoot 6 = .ok (.aload_n 0, 1) := by decide +kernel
theorem dX6_signAtRoot_7 : decode cX6_signAtRoot 7 = .ok (.iload_n 3, 1) := by decide +kernel
theorem dX6_signAtRoot_8 : decode cX6_signAtRoot 8 = .ok (.invokevirtual 190, 3) := by decide +kernel
theorem dX6_signAtRoot_11 : decode cX6_signAtRoot 11 = .ok (.ireturn, 1) := by decide +kernel
set_option maxRecDepth 20000 in
theorem ggX6_signAt_X6_noRoot : GoodIn wsX6_signAt wsX6_noRoot := goodIn_r _ [5, 6, 7, 8, 4, 9, 10, 11, 12, 13, 14, 15, 16, 17, 18, 19, 20, 21, 22, 23, 24, 25, 26, 27, 28, 29, 58, 59, 60, 61, 62, 63, 64, 65, 66, 67, 68, 69, 70, 71, 72, 73, 74, 75, 76, 77, 78, 79, 80, 81, 82, 83, 84, 85, 86, 87] (by decide +kernel) (by decide +kernel)
set_option maxRecDepth 20000 in
theorem gX6_signAt_X6_noRoot : GoodIn wsX6_signAt (wsV RX6 240 RX6 yX6_noRoot wsX6_noRoot) := goodIn_app (goodIn_of _ (by decide +kernel)) ggX6_signAt_X6_noRoot
set_option maxRecDepth 20000 in
theorem ggX6_signAt_X6_noPolynomial : GoodIn wsX6_signAt wsX6_noPolynomial := goodIn_r _ [9, 10, 11, 12, 4, 13, 58, 59, 60, 61, 62, 63, 64, 65, 66, 67, 68, 69, 70, 71, 72, 73, 74, 75, 76, 77, 78, 79, 80, 81, 82, 83, 84, 85, 86, 87] (by decide +kernel) (by decide +kernel)
set_option maxRecDepth 20000 in
theorem gX6_signAt_X6_noPolynomial : GoodIn wsX6_signAt (wsV RX6 193 RX6 yX6_noPolynomial wsX6_noPolynomial) := goodIn_app (goodIn_of _ (by decide +kernel)) ggX6_signAt_X6_noPolynomial
set_option maxRecDepth 20000 in
theorem ggX6_signAt_X6_signAtRoot : GoodIn wsX6_signAt wsX6_signAtRoot := goodIn_r _ [33, 34, 35, 36, 4, 37, 38, 39, 40, 41, 24, 42, 43, 18, 19, 20, 21, 22, 23, 25, 26, 27, 28, 29, 44, 45, 46, 47, 48, 49, 50, 51, 52, 53, 54, 55, 56, 57, 58, 59, 60, 61, 62, 63, 64, 65, 66, 67, 68, 69, 70, 71, 72, 73, 74, 75, 76, 77, 78, 79, 80, 81, 82, 83, 84, 85, 86, 87] (by decide +kernel) (by decide +kernel)
set_option maxRecDepth 20000 in
theorem gX6_signAt_X6_signAtRoot : GoodIn wsX6_signAt (wsV RX6 248 RX6 yX6_signAtRoot wsX6_signAtRoot) := goodIn_app (goodIn_of _ (by decide +kernel)) ggX6_signAt_X6_signAtRoot
theorem dX6_signAt_0 : decode cX6_signAt 0 = .ok (.aload_n 0, 1) := by decide +kernel
theorem dX6_signAt_1 : decode cX6_signAt 1 = .ok (.iload_n 1, 1) := by decide +kernel
theorem dX6_signAt_2 : decode cX6_signAt 2 = .ok (.iload_n 2, 1) := by decide +kernel
theorem dX6_signAt_3 : decode cX6_signAt 3 = .ok (.invokevirtual 240, 3) := by decide +kernel
theorem dX6_signAt_6 : decode cX6_signAt 6 = .ok (.ifCond .ne 11, 3) := by decide +kernel
theorem dX6_signAt_9 : decode cX6_signAt 9 = .ok (.aload_n 0, 1) := by decide +kernel
theorem dX6_signAt_10 : decode cX6_signAt 10 = .ok (.iload_n 3, 1) := by decide +kernel
theorem dX6_signAt_11 : decode cX6_signAt 11 = .ok (.invokevirtual 193, 3) := by decide +kernel
theorem dX6_signAt_14 : decode cX6_signAt 14 = .ok (.ifCond .eq 7, 3) := by decide +kernel
theorem dX6_signAt_17 : decode cX6_signAt 17 = .ok (.iconst (-1), 1) := by decide +kernel
theorem dX6_signAt_18 : decode cX6_signAt 18 = .ok (.goto 12, 3) := by decide +kernel
theorem dX6_signAt_21 : decode cX6_signAt 21 = .ok (.aload_n 0, 1) := by decide +kernel
theorem dX6_signAt_22 : decode cX6_signAt 22 = .ok (.iload_n 1, 1) := by decide +kernel
theorem dX6_signAt_23 : decode cX6_signAt 23 = .ok (.iload_n 2, 1) := by decide +kernel
theorem dX6_signAt_24 : decode cX6_signAt 24 = .ok (.iload_n 3, 1) := by decide +kernel
theorem dX6_signAt_25 : decode cX6_signAt 25 = .ok (.invokevirtual 248, 3) := by decide +kernel
theorem dX6_signAt_28 : decode cX6_signAt 28 = .ok (.iconst 1, 1) := by decide +kernel
theorem dX6_signAt_29 : decode cX6_signAt 29 = .ok (.iadd, 1) := by decide +kernel
theorem dX6_signAt_30 : decode cX6_signAt 30 = .ok (.ireturn, 1) := by decide +kernel
set_option maxRecDepth 20000 in
theorem ggX6_more_X6_noPolynomial : GoodIn wsX6_more wsX6_noPolynomial := goodIn_r _ [5, 6, 7, 8, 4, 9, 54, 55, 56, 57, 58, 59, 60, 61, 62, 63, 64, 65, 66, 67, 68, 69, 70, 71, 72, 73, 74, 75, 76, 77, 78, 79, 80, 81, 82, 83] (by decide +kernel) (by decide +kernel)
set_option maxRecDepth 20000 in
theorem gX6_more_X6_noPolynomial : GoodIn wsX6_more (wsV RX6 193 RX6 yX6_noPolynomial wsX6_noPolynomial) := goodIn_app (goodIn_of _ (by decide +kernel)) ggX6_more_X6_noPolynomial
set_option maxRecDepth 20000 in
theorem ggX6_more_X6_rootsOf : GoodIn wsX6_more wsX6_rootsOf := goodIn_r _ [13, 14, 15, 16, 4, 17, 18, 19, 20, 21, 22, 23, 24, 25, 54, 55, 56, 57, 58, 59, 60, 61, 62, 63, 64, 65, 66, 67, 68, 69, 70, 71, 72, 73, 74, 75, 76, 77, 78, 79, 80, 81, 82, 83] (by decide +kernel) (by decide +kernel)
set_option maxRecDepth 20000 in
theorem gX6_more_X6_rootsOf : GoodIn wsX6_more (wsV RX6 170 RX6 yX6_rootsOf wsX6_rootsOf) := goodIn_app (goodIn_of _ (by decide +kernel)) ggX6_more_X6_rootsOf
set_option maxRecDepth 20000 in
theorem ggX6_more_X6_signAtRoot : GoodIn wsX6_more wsX6_signAtRoot := goodIn_r _ [29, 30, 31, 32, 4, 33, 34, 35, 36, 37, 20, 38, 39, 14, 15, 16, 17, 18, 19, 21, 22, 23, 24, 25, 40, 41, 42, 43, 44, 45, 46, 47, 48, 49, 50, 51, 52, 53, 54, 55, 56, 57, 58, 59, 60, 61, 62, 63, 64, 65, 66, 67, 68, 69, 70, 71, 72, 73, 74, 75, 76, 77, 78, 79, 80, 81, 82, 83] (by decide +kernel) (by decide +kernel)
set_option maxRecDepth 20000 in
theorem gX6_more_X6_signAtRoot : GoodIn wsX6_more (wsV RX6 248 RX6 yX6_signAtRoot wsX6_signAtRoot) := goodIn_app (goodIn_of _ (by decide +kernel)) ggX6_more_X6_signAtRoot
theorem dX6_more_0 : decode cX6_more 0 = .ok (.aload_n 0, 1) := by decide +kernel
theorem dX6_more_1 : decode cX6_more 1 = .ok (.iload_n 1, 1) := by decide +kernel
theorem dX6_more_2 : decode cX6_more 2 = .ok (.invokevirtual 193, 3) := by decide +kernel
theorem dX6_more_5 : decode cX6_more 5 = .ok (.ifCond .ne 11, 3) := by decide +kernel
theorem dX6_more_8 : decode cX6_more 8 = .ok (.aload_n 0, 1) := by decide +kernel
theorem dX6_more_9 : decode cX6_more 9 = .ok (.iload_n 2, 1) := by decide +kernel
theorem dX6_more_10 : decode cX6_more 10 = .ok (.invokevirtual 193, 3) := by decide +kernel
theorem dX6_more_13 : decode cX6_more 13 = .ok (.ifCond .eq 5, 3) := by decide +kernel
theorem dX6_more_16 : decode cX6_more 16 = .ok (.iconst (-1), 1) := by decide +kernel
theorem dX6_more_17 : decode cX6_more 17 = .ok (.ireturn, 1) := by decide +kernel
theorem dX6_more_18 : decode cX6_more 18 = .ok (.iconst 2, 1) := by decide +kernel
theorem dX6_more_19 : decode cX6_more 19 = .ok (.istore_n 3, 1) := by decide +kernel
theorem dX6_more_20 : decode cX6_more 20 = .ok (.iconst 0, 1) := by decide +kernel
theorem dX6_more_21 : decode cX6_more 21 = .ok (.istore 4, 2) := by decide +kernel
theorem dX6_more_23 : decode cX6_more 23 = .ok (.iload 4, 2) := by decide +kernel
theorem dX6_more_25 : decode cX6_more 25 = .ok (.aload_n 0, 1) := by decide +kernel
theorem dX6_more_26 : decode cX6_more 26 = .ok (.iload_n 1, 1) := by decide +kernel
theorem dX6_more_27 : decode cX6_more 27 = .ok (.invokevirtual 170, 3) := by decide +kernel
theorem dX6_more_30 : decode cX6_more 30 = .ok (.if_icmp .ge 20, 3) := by decide +kernel
theorem dX6_more_33 : decode cX6_more 33 = .ok (.iload_n 3, 1) := by decide +kernel
theorem dX6_more_34 : decode cX6_more 34 = .ok (.aload_n 0, 1) := by decide +kernel
theorem dX6_more_35 : decode cX6_more 35 = .ok (.iload_n 1, 1) := by decide +kernel
theorem dX6_more_36 : decode cX6_more 36 = .ok (.iload 4, 2) := by decide +kernel
theorem dX6_more_38 : decode cX6_more 38 = .ok (.iload_n 2, 1) := by decide +kernel
theorem dX6_more_39 : decode cX6_more 39 = .ok (.invokevirtual 248, 3) := by decide +kernel
theorem dX6_more_42 : decode cX6_more 42 = .ok (.iadd, 1) := by decide +kernel
theorem dX6_more_43 : decode cX6_more 43 = .ok (.istore_n 3, 1) := by decide +kernel
theorem dX6_more_44 : decode cX6_more 44 = .ok (.iinc 4 1, 3) := by decide +kernel
theorem dX6_more_47 : decode cX6_more 47 = .ok (.goto (-24), 3) := by decide +kernel
theorem dX6_more_50 : decode cX6_more 50 = .ok (.iload_n 3, 1) := by decide +kernel
theorem dX6_more_51 : decode cX6_more 51 = .ok (.ireturn, 1) := by decide +kernel
set_option maxRecDepth 20000 in
theorem ggX6_place_X6_noRoot : GoodIn wsX6_place wsX6_noRoot := goodIn_r _ [5, 6, 7, 8, 4, 9, 10, 11, 12, 13, 14, 15, 16, 17, 18, 19, 20, 21, 22, 23, 24, 25, 26, 27, 28, 29, 67, 68, 69, 70, 71, 72, 73, 74, 75, 76, 77, 78, 79, 80, 81, 82, 83, 84, 85, 86, 87, 88, 89, 90, 91, 92, 93, 94, 95, 96] (by decide +kernel) (by decide +kernel)
set_option maxRecDepth 20000 in
theorem gX6_place_X6_noRoot : GoodIn wsX6_place (wsV RX6 240 RX6 yX6_noRoot wsX6_noRoot) := goodIn_app (goodIn_of _ (by decide +kernel)) ggX6_place_X6_noRoot
set_option maxRecDepth 20000 in
theorem ggX6_place_X6_placeOf : GoodIn wsX6_place wsX6_placeOf := goodIn_r _ [33, 34, 35, 36, 4, 37, 38, 10, 14, 15, 16, 17, 18, 19, 20, 21, 22, 23, 24, 25, 26, 27, 28, 29, 39, 40, 41, 42, 43, 44, 45, 46, 47, 48, 49, 50, 51, 52, 53, 54, 55, 56, 57, 58, 59, 60, 61, 62, 63, 64, 65, 66, 67, 68, 69, 70, 71, 72, 73, 74, 75, 76, 77, 78, 79, 80, 81, 82, 83, 84, 85, 86, 87, 88, 89, 90, 91, 92, 93, 94, 95, 96] (by decide +kernel) (by decide +kernel)
set_option maxRecDepth 20000 in
theorem gX6_place_X6_placeOf : GoodIn wsX6_place (wsV RX6 251 RX6 yX6_placeOf wsX6_placeOf) := goodIn_app (goodIn_of _ (by decide +kernel)) ggX6_place_X6_placeOf
theorem dX6_place_0 : decode cX6_place 0 = .ok (.aload_n 0, 1) := by decide +kernel
theorem dX6_place_1 : decode cX6_place 1 = .ok (.iload_n 1, 1) := by decide +kernel
theorem dX6_place_2 : decode cX6_place 2 = .ok (.iload_n 2, 1) := by decide +kernel
theorem dX6_place_3 : decode cX6_place 3 = .ok (.invokevirtual 240, 3) := by decide +kernel
theorem dX6_place_6 : decode cX6_place 6 = .ok (.ifCond .eq 7, 3) := by decide +kernel
theorem dX6_place_9 : decode cX6_place 9 = .ok (.iconst (-1), 1) := by decide +kernel
theorem dX6_place_10 : decode cX6_place 10 = .ok (.goto 9, 3) := by decide +kernel
theorem dX6_place_13 : decode cX6_place 13 = .ok (.aload_n 0, 1) := by decide +kernel
theorem dX6_place_14 : decode cX6_place 14 = .ok (.iload_n 1, 1) := by decide +kernel
theorem dX6_place_15 : decode cX6_place 15 = .ok (.iload_n 2, 1) := by decide +kernel
theorem dX6_place_16 : decode cX6_place 16 = .ok (.invokevirtual 251, 3) := by decide +kernel
theorem dX6_place_19 : decode cX6_place 19 = .ok (.ireturn, 1) := by decide +kernel
set_option maxRecDepth 20000 in
theorem ggX6_sharers_X6_gathers : GoodIn wsX6_sharers wsX6_gathers := goodIn_r _ [7, 2, 1, 8, 9, 10, 6, 11, 12, 13, 14, 15, 16, 17, 18, 19, 20, 21, 22, 23, 24, 25, 26, 27, 28, 29, 30, 31, 32, 33, 34, 35, 36, 37, 38, 39, 40, 41, 42, 43, 44, 45, 46, 47, 48, 49, 50, 51, 71, 72, 73, 74, 75, 76, 77, 78, 79, 80, 81, 82, 83, 84, 85, 86, 87, 88, 89, 90, 91, 92, 93, 94, 95, 96, 97, 98, 99, 100] (by decide +kernel) (by decide +kernel)
set_option maxRecDepth 20000 in
theorem gX6_sharers_X6_gathers : GoodIn wsX6_sharers (wsV RX6 184 RX6 yX6_gathers wsX6_gathers) := goodIn_app (goodIn_of _ (by decide +kernel)) ggX6_sharers_X6_gathers
set_option maxRecDepth 20000 in
theorem ggX6_sharers_X6_in : GoodIn wsX6_sharers wsX6_in := goodIn_r _ [54] (by decide +kernel) (by decide +kernel)
set_option maxRecDepth 20000 in
theorem gX6_sharers_X6_in : GoodIn wsX6_sharers (va_wsS RX6 78 yX6_in wsX6_in) := goodIn_app (goodIn_of _ (by decide +kernel)) ggX6_sharers_X6_in
set_option maxRecDepth 20000 in
theorem ggX6_sharers_X6_takesOf : GoodIn wsX6_sharers wsX6_takesOf := goodIn_r _ [58, 39, 28, 40, 30, 41, 31, 38, 29, 71, 72, 73, 74, 75, 76, 77, 78, 79, 80, 81, 82, 83, 84, 85, 86, 87, 88, 89, 90, 91, 92, 93, 94, 95, 96, 97, 98, 99, 100] (by decide +kernel) (by decide +kernel)
set_option maxRecDepth 20000 in
theorem gX6_sharers_X6_takesOf : GoodIn wsX6_sharers (wsV RX6 187 RX6 yX6_takesOf wsX6_takesOf) := goodIn_app (goodIn_of _ (by decide +kernel)) ggX6_sharers_X6_takesOf
set_option maxRecDepth 20000 in
theorem ggX6_sharers_X6_isNothing : GoodIn wsX6_sharers wsX6_isNothing := goodIn_r _ [62, 12, 13, 14, 6, 15, 16, 17, 18, 71, 72, 73, 74, 75, 76, 77, 78, 79, 80, 81, 82, 83, 84, 85, 86, 87, 88, 89, 90, 91, 92, 93, 94, 95, 96, 97, 98, 99, 100] (by decide +kernel) (by decide +kernel)
set_option maxRecDepth 20000 in
theorem gX6_sharers_X6_isNothing : GoodIn wsX6_sharers (wsV RX6 254 RX6 yX6_isNothing wsX6_isNothing) := goodIn_app (goodIn_of _ (by decide +kernel)) ggX6_sharers_X6_isNothing
set_option maxRecDepth 20000 in
theorem ggX6_sharers_X6_signOfAt : GoodIn wsX6_sharers wsX6_signOfAt := goodIn_r _ [66, 12, 13, 14, 6, 15, 16, 17, 18, 67, 68, 69, 70, 28, 30, 31, 29, 42, 43, 44, 45, 46, 47, 71, 72, 73, 74, 75, 76, 77, 78, 79, 80, 81, 82, 83, 84, 85, 86, 87, 88, 89, 90, 91, 92, 93, 94, 95, 96, 97, 98, 99, 100] (by decide +kernel) (by decide +kernel)
set_option maxRecDepth 20000 in
theorem gX6_sharers_X6_signOfAt : GoodIn wsX6_sharers (wsV RX6 190 RX6 yX6_signOfAt wsX6_signOfAt) := goodIn_app (goodIn_of _ (by decide +kernel)) ggX6_sharers_X6_signOfAt
theorem dX6_sharers_0 : decode cX6_sharers 0 = .ok (.aload_n 0, 1) := by decide +kernel
theorem dX6_sharers_1 : decode cX6_sharers 1 = .ok (.getfield 75, 3) := by decide +kernel
theorem dX6_sharers_4 : decode cX6_sharers 4 = .ok (.ifCond .ne 6, 3) := by decide +kernel
theorem dX6_sharers_7 : decode cX6_sharers 7 = .ok (.bipush (-3), 2) := by decide +kernel
theorem dX6_sharers_9 : decode cX6_sharers 9 = .ok (.ireturn, 1) := by decide +kernel
theorem dX6_sharers_10 : decode cX6_sharers 10 = .ok (.aload_n 0, 1) := by decide +kernel
theorem dX6_sharers_11 : decode cX6_sharers 11 = .ok (.invokevirtual 184, 3) := by decide +kernel
theorem dX6_sharers_14 : decode cX6_sharers 14 = .ok (.iload_n 1, 1) := by decide +kernel
theorem dX6_sharers_15 : decode cX6_sharers 15 = .ok (.i2l, 1) := by decide +kernel
theorem dX6_sharers_16 : decode cX6_sharers 16 = .ok (.lconst 0, 1) := by decide +kernel
theorem dX6_sharers_17 : decode cX6_sharers 17 = .ok (.aload_n 0, 1) := by decide +kernel
theorem dX6_sharers_18 : decode cX6_sharers 18 = .ok (.getfield 167, 3) := by decide +kernel
theorem dX6_sharers_21 : decode cX6_sharers 21 = .ok (.i2l, 1) := by decide +kernel
theorem dX6_sharers_22 : decode cX6_sharers 22 = .ok (.lconst 1, 1) := by decide +kernel
theorem dX6_sharers_23 : decode cX6_sharers 23 = .ok (.lsub, 1) := by decide +kernel
theorem dX6_sharers_24 : decode cX6_sharers 24 = .ok (.invokestatic 78, 3) := by decide +kernel
theorem dX6_sharers_27 : decode cX6_sharers 27 = .ok (.ifCond .ne 5, 3) := by decide +kernel
theorem dX6_sharers_30 : decode cX6_sharers 30 = .ok (.iconst (-1), 1) := by decide +kernel
theorem dX6_sharers_31 : decode cX6_sharers 31 = .ok (.ireturn, 1) := by decide +kernel
theorem dX6_sharers_32 : decode cX6_sharers 32 = .ok (.aload_n 0, 1) := by decide +kernel
theorem dX6_sharers_33 : decode cX6_sharers 33 = .ok (.iload_n 1, 1) := by decide +kernel
theorem dX6_sharers_34 : decode cX6_sharers 34 = .ok (.invokevirtual 187, 3) := by decide +kernel
theorem dX6_sharers_37 : decode cX6_sharers 37 = .ok (.iconst 0, 1) := by decide +kernel
theorem dX6_sharers_38 : decode cX6_sharers 38 = .ok (.istore_n 2, 1) := by decide +kernel
theorem dX6_sharers_39 : decode cX6_sharers 39 = .ok (.iconst 0, 1) := by decide +kernel
theorem dX6_sharers_40 : decode cX6_sharers 40 = .ok (.istore_n 3, 1) := by decide +kernel
theorem dX6_sharers_41 : decode cX6_sharers 41 = .ok (.iload_n 3, 1) := by decide +kernel
theorem dX6_sharers_42 : decode cX6_sharers 42 = .ok (.aload_n 0, 1) := by decide +kernel
theorem dX6_sharers_43 : decode cX6_sharers 43 = .ok (.getfield 75, 3) := by decide +kernel
theorem dX6_sharers_46 : decode cX6_sharers 46 = .ok (.if_icmp .ge 35, 3) := by decide +kernel
theorem dX6_sharers_49 : decode cX6_sharers 49 = .ok (.iload_n 2, 1) := by decide +kernel
theorem dX6_sharers_50 : decode cX6_sharers 50 = .ok (.aload_n 0, 1) := by decide +kernel
theorem dX6_sharers_51 : decode cX6_sharers 51 = .ok (.iload_n 3, 1) := by decide +kernel
theorem dX6_sharers_52 : decode cX6_sharers 52 = .ok (.invokevirtual 254, 3) := by decide +kernel
theorem dX6_sharers_55 : decode cX6_sharers 55 = .ok (.ifCond .ne 17, 3) := by decide +kernel
theorem dX6_sharers_58 : decode cX6_sharers 58 = .ok (.aload_n 0, 1) := by decide +kernel
theorem dX6_sharers_59 : decode cX6_sharers 59 = .ok (.iload_n 3, 1) := by decide +kernel
theorem dX6_sharers_60 : decode cX6_sharers 60 = .ok (.invokevirtual 190, 3) := by decide +kernel
theorem dX6_sharers_63 : decode cX6_sharers 63 = .ok (.ifCond .ne 9, 3) := by decide +kernel
theorem dX6_sharers_66 : decode cX6_sharers 66 = .ok (.iconst 1, 1) := by decide +kernel
theorem dX6_sharers_67 : decode cX6_sharers 67 = .ok (.iload_n 3, 1) := by decide +kernel
theorem dX6_sharers_68 : decode cX6_sharers 68 = .ok (.ishl, 1) := by decide +kernel
theorem dX6_sharers_69 : decode cX6_sharers 69 = .ok (.goto 4, 3) := by decide +kernel
theorem dX6_sharers_72 : decode cX6_sharers 72 = .ok (.iconst 0, 1) := by decide +kernel
theorem dX6_sharers_73 : decode cX6_sharers 73 = .ok (.ior, 1) := by decide +kernel
theorem dX6_sharers_74 : decode cX6_sharers 74 = .ok (.istore_n 2, 1) := by decide +kernel
theorem dX6_sharers_75 : decode cX6_sharers 75 = .ok (.iinc 3 1, 3) := by decide +kernel
theorem dX6_sharers_78 : decode cX6_sharers 78 = .ok (.goto (-37), 3) := by decide +kernel
theorem dX6_sharers_81 : decode cX6_sharers 81 = .ok (.iload_n 2, 1) := by decide +kernel
theorem dX6_sharers_82 : decode cX6_sharers 82 = .ok (.ireturn, 1) := by decide +kernel
set_option maxRecDepth 20000 in
theorem ggX6_line_X6_in : GoodIn wsX6_line wsX6_in := goodIn_r _ [8] (by decide +kernel) (by decide +kernel)
set_option maxRecDepth 20000 in
theorem gX6_line_X6_in : GoodIn wsX6_line (va_wsS RX6 78 yX6_in wsX6_in) := goodIn_app (goodIn_of _ (by decide +kernel)) ggX6_line_X6_in
set_option maxRecDepth 20000 in
theorem ggX6_line_X6_rowsOf : GoodIn wsX6_line wsX6_rowsOf := goodIn_r _ [12, 4, 3, 2, 13, 14, 15, 16, 17, 7, 18, 19, 20, 21, 22, 23, 24, 25, 26, 27, 28, 1, 29, 30, 31, 32, 33, 34, 35, 36, 37, 38, 39, 40, 41, 42, 43, 44, 45, 46, 47, 48, 49, 50, 51, 52, 53, 54, 55, 56, 57, 58, 59, 60, 61, 62, 63, 64, 65, 66, 67, 68, 69, 70, 71, 72, 73, 74, 75, 76, 77, 78, 79, 80, 81, 82, 83, 84, 85, 86, 87, 88, 89, 90, 91, 92, 93, 94, 95, 96, 97, 98, 99, 100, 101, 102, 103, 104, 105, 106, 107] (by decide +kernel) (by decide +kernel)
set_option maxRecDepth 20000 in
theorem gX6_line_X6_rowsOf : GoodIn wsX6_line (wsV RX6 223 RX6 yX6_rowsOf wsX6_rowsOf) := goodIn_app (goodIn_of _ (by decide +kernel)) ggX6_line_X6_rowsOf
theorem dX6_line_0 : decode cX6_line 0 = .ok (.iload_n 1, 1) := by decide +kernel
theorem dX6_line_1 : decode cX6_line 1 = .ok (.i2l, 1) := by decide +kernel
theorem dX6_line_2 : decode cX6_line 2 = .ok (.lconst 0, 1) := by decide +kernel
theorem dX6_line_3 : decode cX6_line 3 = .ok (.ldc2_w 117, 3) := by decide +kernel
theorem dX6_line_6 : decode cX6_line 6 = .ok (.invokestatic 78, 3) := by decide +kernel
theorem dX6_line_9 : decode cX6_line 9 = .ok (.ifCond .ne 6, 3) := by decide +kernel
theorem dX6_line_12 : decode cX6_line 12 = .ok (.bipush (-2), 2) := by decide +kernel
theorem dX6_line_14 : decode cX6_line 14 = .ok (.ireturn, 1) := by decide +kernel
theorem dX6_line_15 : decode cX6_line 15 = .ok (.aload_n 0, 1) := by decide +kernel
theorem dX6_line_16 : decode cX6_line 16 = .ok (.getfield 75, 3) := by decide +kernel
theorem dX6_line_19 : decode cX6_line 19 = .ok (.ifCond .ne 6, 3) := by decide +kernel
theorem dX6_line_22 : decode cX6_line 22 = .ok (.bipush (-3), 2) := by decide +kernel
theorem dX6_line_24 : decode cX6_line 24 = .ok (.ireturn, 1) := by decide +kernel
theorem dX6_line_25 : decode cX6_line 25 = .ok (.aload_n 0, 1) := by decide +kernel
theorem dX6_line_26 : decode cX6_line 26 = .ok (.invokevirtual 223, 3) := by decide +kernel
theorem dX6_line_29 : decode cX6_line 29 = .ok (.iload_n 1, 1) := by decide +kernel
theorem dX6_line_30 : decode cX6_line 30 = .ok (.ifCond .ne 10, 3) := by decide +kernel
theorem dX6_line_33 : decode cX6_line 33 = .ok (.aload_n 0, 1) := by decide +kernel
theorem dX6_line_34 : decode cX6_line 34 = .ok (.getfield 167, 3) := by decide +kernel
theorem dX6_line_37 : decode cX6_line 37 = .ok (.goto 23, 3) := by decide +kernel
theorem dX6_line_40 : decode cX6_line 40 = .ok (.iload_n 1, 1) := by decide +kernel
theorem dX6_line_41 : decode cX6_line 41 = .ok (.iconst 1, 1) := by decide +kernel
theorem dX6_line_42 : decode cX6_line 42 = .ok (.if_icmp .ne 14, 3) := by decide +kernel
theorem dX6_line_45 : decode cX6_line 45 = .ok (.iconst 2, 1) := by decide +kernel
theorem dX6_line_46 : decode cX6_line 46 = .ok (.aload_n 0, 1) := by decide +kernel
theorem dX6_line_47 : decode cX6_line 47 = .ok (.getfield 167, 3) := by decide +kernel
theorem dX6_line_50 : decode cX6_line 50 = .ok (.imul, 1) := by decide +kernel
theorem dX6_line_51 : decode cX6_line 51 = .ok (.iconst 1, 1) := by decide +kernel
theorem dX6_line_52 : decode cX6_line 52 = .ok (.iadd, 1) := by decide +kernel
theorem dX6_line_53 : decode cX6_line 53 = .ok (.goto 7, 3) := by decide +kernel
theorem dX6_line_56 : decode cX6_line 56 = .ok (.aload_n 0, 1) := by decide +kernel
theorem dX6_line_57 : decode cX6_line 57 = .ok (.getfield 213, 3) := by decide +kernel
theorem dX6_line_60 : decode cX6_line 60 = .ok (.ireturn, 1) := by decide +kernel
set_option maxRecDepth 20000 in
theorem ggX6_signIn_X6_noPolynomial : GoodIn wsX6_signIn wsX6_noPolynomial := goodIn_r _ [7, 8, 9, 10, 6, 11, 75, 76, 77, 78, 79, 80, 81, 82, 83, 84, 85, 86, 87, 88, 89, 90, 91, 92, 93, 94, 95, 96, 97, 98, 99, 100, 101, 102, 103, 104] (by decide +kernel) (by decide +kernel)
set_option maxRecDepth 20000 in
theorem gX6_signIn_X6_noPolynomial : GoodIn wsX6_signIn (wsV RX6 193 RX6 yX6_noPolynomial wsX6_noPolynomial) := goodIn_app (goodIn_of _ (by decide +kernel)) ggX6_signIn_X6_noPolynomial
set_option maxRecDepth 20000 in
theorem ggX6_signIn_X6_gathers : GoodIn wsX6_signIn wsX6_gathers := goodIn_r _ [15, 2, 8, 16, 17, 18, 6, 19, 20, 21, 22, 23, 24, 25, 1, 26, 27, 28, 29, 30, 31, 32, 33, 34, 35, 36, 37, 38, 39, 40, 41, 42, 43, 44, 45, 46, 47, 48, 49, 50, 51, 52, 53, 54, 55, 56, 57, 58, 75, 76, 77, 78, 79, 80, 81, 82, 83, 84, 85, 86, 87, 88, 89, 90, 91, 92, 93, 94, 95, 96, 97, 98, 99, 100, 101, 102, 103, 104] (by decide +kernel) (by decide +kernel)
set_option maxRecDepth 20000 in
theorem gX6_signIn_X6_gathers : GoodIn wsX6_signIn (wsV RX6 184 RX6 yX6_gathers wsX6_gathers) := goodIn_app (goodIn_of _ (by decide +kernel)) ggX6_signIn_X6_gathers
set_option maxRecDepth 20000 in
theorem ggX6_signIn_X6_in : GoodIn wsX6_signIn wsX6_in := goodIn_r _ [11] (by decide +kernel) (by decide +kernel)
set_option maxRecDepth 20000 in
theorem gX6_signIn_X6_in : GoodIn wsX6_signIn (va_wsS RX6 78 yX6_in wsX6_in) := goodIn_app (goodIn_of _ (by decide +kernel)) ggX6_signIn_X6_in
set_option maxRecDepth 20000 in
theorem ggX6_signIn_X6_signInSpot : GoodIn wsX6_signIn wsX6_signInSpot := goodIn_r _ [62, 1, 20, 21, 22, 6, 23, 24, 25, 52, 53, 54, 63, 64, 65, 66, 46, 35, 47, 37, 48, 38, 45, 36, 67, 68, 69, 70, 71, 72, 73, 74, 49, 50, 51, 75, 76, 77, 78, 79, 80, 81, 82, 83, 84, 85, 86, 87, 88, 89, 90, 91, 92, 93, 94, 95, 96, 97, 98, 99, 100, 101, 102, 103, 104] (by decide +kernel) (by decide +kernel)
set_option maxRecDepth 20000 in
theorem gX6_signIn_X6_signInSpot : GoodIn wsX6_signIn (wsV RX6 216 RX6 yX6_signInSpot wsX6_signInSpot) := goodIn_app (goodIn_of _ (by decide +kernel)) ggX6_signIn_X6_signInSpot
theorem dX6_signIn_0 : decode cX6_signIn 0 = .ok (.aload_n 0, 1) := by decide +kernel
theorem dX6_signIn_1 : decode cX6_signIn 1 = .ok (.iload_n 2, 1) := by decide +kernel
theorem dX6_signIn_2 : decode cX6_signIn 2 = .ok (.invokevirtual 193, 3) := by decide +kernel
theorem dX6_signIn_5 : decode cX6_signIn 5 = .ok (.ifCond .eq 5, 3) := by decide +kernel
theorem dX6_signIn_8 : decode cX6_signIn 8 = .ok (.iconst (-1), 1) := by decide +kernel
theorem dX6_signIn_9 : decode cX6_signIn 9 = .ok (.ireturn, 1) := by decide +kernel
theorem dX6_signIn_10 : decode cX6_signIn 10 = .ok (.aload_n 0, 1) := by decide +kernel
theorem dX6_signIn_11 : decode cX6_signIn 11 = .ok (.invokevirtual 184, 3) := by decide +kernel
theorem dX6_signIn_14 : decode cX6_signIn 14 = .ok (.iload_n 1, 1) := by decide +kernel
theorem dX6_signIn_15 : decode cX6_signIn 15 = .ok (.i2l, 1) := by decide +kernel
theorem dX6_signIn_16 : decode cX6_signIn 16 = .ok (.lconst 0, 1) := by decide +kernel
theorem dX6_signIn_17 : decode cX6_signIn 17 = .ok (.ldc2_w 117, 3) := by decide +kernel
theorem dX6_signIn_20 : decode cX6_signIn 20 = .ok (.aload_n 0, 1) := by decide +kernel
theorem dX6_signIn_21 : decode cX6_signIn 21 = .ok (.getfield 167, 3) := by decide +kernel
theorem dX6_signIn_24 : decode cX6_signIn 24 = .ok (.i2l, 1) := by decide +kernel
theorem dX6_signIn_25 : decode cX6_signIn 25 = .ok (.lmul, 1) := by decide +kernel
theorem dX6_signIn_26 : decode cX6_signIn 26 = .ok (.invokestatic 78, 3) := by decide +kernel
theorem dX6_signIn_29 : decode cX6_signIn 29 = .ok (.ifCond .eq 14, 3) := by decide +kernel
theorem dX6_signIn_32 : decode cX6_signIn 32 = .ok (.aload_n 0, 1) := by decide +kernel
theorem dX6_signIn_33 : decode cX6_signIn 33 = .ok (.iload_n 1, 1) := by decide +kernel
theorem dX6_signIn_34 : decode cX6_signIn 34 = .ok (.iload_n 2, 1) := by decide +kernel
theorem dX6_signIn_35 : decode cX6_signIn 35 = .ok (.invokevirtual 216, 3) := by decide +kernel
theorem dX6_signIn_38 : decode cX6_signIn 38 = .ok (.iconst 1, 1) := by decide +kernel
theorem dX6_signIn_39 : decode cX6_signIn 39 = .ok (.iadd, 1) := by decide +kernel
theorem dX6_signIn_40 : decode cX6_signIn 40 = .ok (.goto 4, 3) := by decide +kernel
theorem dX6_signIn_43 : decode cX6_signIn 43 = .ok (.iconst (-1), 1) := by decide +kernel
theorem dX6_signIn_44 : decode cX6_signIn 44 = .ok (.ireturn, 1) := by decide +kernel
set_option maxRecDepth 20000 in
theorem ggX6_ofRow_X6_rowsOf : GoodIn wsX6_ofRow wsX6_rowsOf := goodIn_r _ [12, 2, 6, 1, 7, 3, 13, 14, 15, 11, 16, 17, 18, 19, 20, 21, 22, 23, 24, 25, 26, 27, 28, 29, 30, 31, 32, 33, 34, 35, 36, 37, 38, 39, 40, 41, 42, 43, 44, 45, 46, 47, 48, 49, 50, 51, 52, 53, 54, 55, 56, 57, 58, 59, 60, 61, 62, 63, 64, 65, 66, 67, 68, 69, 70, 71, 72, 73, 74, 75, 76, 84, 85, 86, 87, 88, 89, 90, 91, 92, 93, 94, 95, 96, 97, 98, 99, 100, 101, 102, 103, 104, 105, 106, 107, 108, 109, 110, 111, 112, 113] (by decide +kernel) (by decide +kernel)
set_option maxRecDepth 20000 in
theorem gX6_ofRow_X6_rowsOf : GoodIn wsX6_ofRow (wsV RX6 223 RX6 yX6_rowsOf wsX6_rowsOf) := goodIn_app (goodIn_of _ (by decide +kernel)) ggX6_ofRow_X6_rowsOf
set_option maxRecDepth 20000 in
theorem ggX6_ofRow_X6_in : GoodIn wsX6_ofRow wsX6_in := goodIn_r _ [79] (by decide +kernel) (by decide +kernel)
set_option maxRecDepth 20000 in
theorem gX6_ofRow_X6_in : GoodIn wsX6_ofRow (va_wsS RX6 78 yX6_in wsX6_in) := goodIn_app (goodIn_of _ (by decide +kernel)) ggX6_ofRow_X6_in
set_option maxRecDepth 20000 in
theorem ggX6_ofRow_X6_noPolynomial : GoodIn wsX6_ofRow wsX6_noPolynomial := goodIn_r _ [83, 1, 77, 78, 11, 79, 84, 85, 86, 87, 88, 89, 90, 91, 92, 93, 94, 95, 96, 97, 98, 99, 100, 101, 102, 103, 104, 105, 106, 107, 108, 109, 110, 111, 112, 113] (by decide +kernel) (by decide +kernel)
set_option maxRecDepth 20000 in
theorem gX6_ofRow_X6_noPolynomial : GoodIn wsX6_ofRow (wsV RX6 193 RX6 yX6_noPolynomial wsX6_noPolynomial) := goodIn_app (goodIn_of _ (by decide +kernel)) ggX6_ofRow_X6_noPolynomial
set_option maxRecDepth 20000 in
theorem ggX6_ofRow_X6_signInSpot : GoodIn wsX6_ofRow wsX6_signInSpot := goodIn_r _ [64, 27, 21, 22, 23, 11, 24, 25, 26, 54, 55, 56, 65, 66, 67, 68, 48, 37, 49, 39, 50, 40, 47, 38, 69, 70, 71, 72, 73, 74, 75, 76, 51, 52, 53, 84, 85, 86, 87, 88, 89, 90, 91, 92, 93, 94, 95, 96, 97, 98, 99, 100, 101, 102, 103, 104, 105, 106, 107, 108, 109, 110, 111, 112, 113] (by decide +kernel) (by decide +kernel)
set_option maxRecDepth 20000 in
theorem gX6_ofRow_X6_signInSpot : GoodIn wsX6_ofRow (wsV RX6 216 RX6 yX6_signInSpot wsX6_signInSpot) := goodIn_app (goodIn_of _ (by decide +kernel)) ggX6_ofRow_X6_signInSpot
theorem dX6_ofRow_0 : decode cX6_ofRow 0 = .ok (.aload_n 0, 1) := by decide +kernel
theorem dX6_ofRow_1 : decode cX6_ofRow 1 = .ok (.getfield 75, 3) := by decide +kernel
theorem dX6_ofRow_4 : decode cX6_ofRow 4 = .ok (.ifCond .ne 5, 3) := by decide +kernel
theorem dX6_ofRow_7 : decode cX6_ofRow 7 = .ok (.iconst (-1), 1) := by decide +kernel
theorem dX6_ofRow_8 : decode cX6_ofRow 8 = .ok (.ireturn, 1) := by decide +kernel
theorem dX6_ofRow_9 : decode cX6_ofRow 9 = .ok (.aload_n 0, 1) := by decide +kernel
theorem dX6_ofRow_10 : decode cX6_ofRow 10 = .ok (.invokevirtual 223, 3) := by decide +kernel
theorem dX6_ofRow_13 : decode cX6_ofRow 13 = .ok (.iload_n 1, 1) := by decide +kernel
theorem dX6_ofRow_14 : decode cX6_ofRow 14 = .ok (.i2l, 1) := by decide +kernel
theorem dX6_ofRow_15 : decode cX6_ofRow 15 = .ok (.lconst 0, 1) := by decide +kernel
theorem dX6_ofRow_16 : decode cX6_ofRow 16 = .ok (.aload_n 0, 1) := by decide +kernel
theorem dX6_ofRow_17 : decode cX6_ofRow 17 = .ok (.getfield 213, 3) := by decide +kernel
theorem dX6_ofRow_20 : decode cX6_ofRow 20 = .ok (.i2l, 1) := by decide +kernel
theorem dX6_ofRow_21 : decode cX6_ofRow 21 = .ok (.lconst 1, 1) := by decide +kernel
theorem dX6_ofRow_22 : decode cX6_ofRow 22 = .ok (.lsub, 1) := by decide +kernel
theorem dX6_ofRow_23 : decode cX6_ofRow 23 = .ok (.invokestatic 78, 3) := by decide +kernel
theorem dX6_ofRow_26 : decode cX6_ofRow 26 = .ok (.ifCond .ne 5, 3) := by decide +kernel
theorem dX6_ofRow_29 : decode cX6_ofRow 29 = .ok (.iconst (-1), 1) := by decide +kernel
theorem dX6_ofRow_30 : decode cX6_ofRow 30 = .ok (.ireturn, 1) := by decide +kernel
theorem dX6_ofRow_31 : decode cX6_ofRow 31 = .ok (.aload_n 0, 1) := by decide +kernel
theorem dX6_ofRow_32 : decode cX6_ofRow 32 = .ok (.getfield 41, 3) := by decide +kernel
theorem dX6_ofRow_35 : decode cX6_ofRow 35 = .ok (.iload_n 1, 1) := by decide +kernel
theorem dX6_ofRow_36 : decode cX6_ofRow 36 = .ok (.iaload, 1) := by decide +kernel
theorem dX6_ofRow_37 : decode cX6_ofRow 37 = .ok (.istore_n 3, 1) := by decide +kernel
theorem dX6_ofRow_38 : decode cX6_ofRow 38 = .ok (.iload_n 2, 1) := by decide +kernel
theorem dX6_ofRow_39 : decode cX6_ofRow 39 = .ok (.i2l, 1) := by decide +kernel
theorem dX6_ofRow_40 : decode cX6_ofRow 40 = .ok (.ldc2_w 196, 3) := by decide +kernel
theorem dX6_ofRow_43 : decode cX6_ofRow 43 = .ok (.ldc2_w 233, 3) := by decide +kernel
theorem dX6_ofRow_46 : decode cX6_ofRow 46 = .ok (.invokestatic 78, 3) := by decide +kernel
theorem dX6_ofRow_49 : decode cX6_ofRow 49 = .ok (.ifCond .eq 31, 3) := by decide +kernel
theorem dX6_ofRow_52 : decode cX6_ofRow 52 = .ok (.aload_n 0, 1) := by decide +kernel
theorem dX6_ofRow_53 : decode cX6_ofRow 53 = .ok (.iload_n 2, 1) := by decide +kernel
theorem dX6_ofRow_54 : decode cX6_ofRow 54 = .ok (.bipush 10, 2) := by decide +kernel
theorem dX6_ofRow_56 : decode cX6_ofRow 56 = .ok (.isub, 1) := by decide +kernel
theorem dX6_ofRow_57 : decode cX6_ofRow 57 = .ok (.invokevirtual 193, 3) := by decide +kernel
theorem dX6_ofRow_60 : decode cX6_ofRow 60 = .ok (.ifCond .eq 8, 3) := by decide +kernel
theorem dX6_ofRow_63 : decode cX6_ofRow 63 = .ok (.bipush (-9), 2) := by decide +kernel
theorem dX6_ofRow_65 : decode cX6_ofRow 65 = .ok (.goto 14, 3) := by decide +kernel
theorem dX6_ofRow_68 : decode cX6_ofRow 68 = .ok (.aload_n 0, 1) := by decide +kernel
theorem dX6_ofRow_69 : decode cX6_ofRow 69 = .ok (.iload_n 3, 1) := by decide +kernel
theorem dX6_ofRow_70 : decode cX6_ofRow 70 = .ok (.iload_n 2, 1) := by decide +kernel
theorem dX6_ofRow_71 : decode cX6_ofRow 71 = .ok (.bipush 10, 2) := by decide +kernel
theorem dX6_ofRow_73 : decode cX6_ofRow 73 = .ok (.isub, 1) := by decide +kernel
theorem dX6_ofRow_74 : decode cX6_ofRow 74 = .ok (.invokevirtual 216, 3) := by decide +kernel
theorem dX6_ofRow_77 : decode cX6_ofRow 77 = .ok (.iconst 1, 1) := by decide +kernel
theorem dX6_ofRow_78 : decode cX6_ofRow 78 = .ok (.iadd, 1) := by decide +kernel
theorem dX6_ofRow_79 : decode cX6_ofRow 79 = .ok (.ireturn, 1) := by decide +kernel
theorem dX6_ofRow_80 : decode cX6_ofRow 80 = .ok (.iconst 0, 1) := by decide +kernel
theorem dX6_ofRow_81 : decode cX6_ofRow 81 = .ok (.istore 4, 2) := by decide +kernel
theorem dX6_ofRow_83 : decode cX6_ofRow 83 = .ok (.iconst 0, 1) := by decide +kernel
theorem dX6_ofRow_84 : decode cX6_ofRow 84 = .ok (.istore 5, 2) := by decide +kernel
theorem dX6_ofRow_86 : decode cX6_ofRow 86 = .ok (.iload 5, 2) := by decide +kernel
theorem dX6_ofRow_88 : decode cX6_ofRow 88 = .ok (.iconst 2, 1) := by decide +kernel
theorem dX6_ofRow_89 : decode cX6_ofRow 89 = .ok (.aload_n 0, 1) := by decide +kernel
theorem dX6_ofRow_90 : decode cX6_ofRow 90 = .ok (.getfield 167, 3) := by decide +kernel
theorem dX6_ofRow_93 : decode cX6_ofRow 93 = .ok (.imul, 1) := by decide +kernel
theorem dX6_ofRow_94 : decode cX6_ofRow 94 = .ok (.if_icmp .gt 35, 3) := by decide +kernel
theorem dX6_ofRow_97 : decode cX6_ofRow 97 = .ok (.iload 4, 2) := by decide +kernel
theorem dX6_ofRow_99 : decode cX6_ofRow 99 = .ok (.aload_n 0, 1) := by decide +kernel
theorem dX6_ofRow_100 : decode cX6_ofRow 100 = .ok (.getfield 38, 3) := by decide +kernel
theorem dX6_ofRow_103 : decode cX6_ofRow 103 = .ok (.iload 5, 2) := by decide +kernel
theorem dX6_ofRow_105 : decode cX6_ofRow 105 = .ok (.iaload, 1) := by decide +kernel
theorem dX6_ofRow_106 : decode cX6_ofRow 106 = .ok (.aload_n 0, 1) := by decide +kernel
theorem dX6_ofRow_107 : decode cX6_ofRow 107 = .ok (.getfield 38, 3) := by decide +kernel
theorem dX6_ofRow_110 : decode cX6_ofRow 110 = .ok (.iload_n 3, 1) := by decide +kernel
theorem dX6_ofRow_111 : decode cX6_ofRow 111 = .ok (.iaload, 1) := by decide +kernel
theorem dX6_ofRow_112 : decode cX6_ofRow 112 = .ok (.if_icmp .ne 7, 3) := by decide +kernel
theorem dX6_ofRow_115 : decode cX6_ofRow 115 = .ok (.iconst 1, 1) := by decide +kernel
theorem dX6_ofRow_116 : decode cX6_ofRow 116 = .ok (.goto 4, 3) := by decide +kernel
theorem dX6_ofRow_119 : decode cX6_ofRow 119 = .ok (.iconst 0, 1) := by decide +kernel
theorem dX6_ofRow_120 : decode cX6_ofRow 120 = .ok (.iadd, 1) := by decide +kernel
theorem dX6_ofRow_121 : decode cX6_ofRow 121 = .ok (.istore 4, 2) := by decide +kernel
theorem dX6_ofRow_123 : decode cX6_ofRow 123 = .ok (.iinc 5 1, 3) := by decide +kernel
theorem dX6_ofRow_126 : decode cX6_ofRow 126 = .ok (.goto (-40), 3) := by decide +kernel
theorem dX6_ofRow_129 : decode cX6_ofRow 129 = .ok (.iload_n 2, 1) := by decide +kernel
theorem dX6_ofRow_130 : decode cX6_ofRow 130 = .ok (.ifCond .ne 7, 3) := by decide +kernel
theorem dX6_ofRow_133 : decode cX6_ofRow 133 = .ok (.iload_n 3, 1) := by decide +kernel
theorem dX6_ofRow_134 : decode cX6_ofRow 134 = .ok (.goto 15, 3) := by decide +kernel
theorem dX6_ofRow_137 : decode cX6_ofRow 137 = .ok (.iload_n 2, 1) := by decide +kernel
theorem dX6_ofRow_138 : decode cX6_ofRow 138 = .ok (.iconst 1, 1) := by decide +kernel
theorem dX6_ofRow_139 : decode cX6_ofRow 139 = .ok (.if_icmp .ne 8, 3) := by decide +kernel
theorem dX6_ofRow_142 : decode cX6_ofRow 142 = .ok (.iload 4, 2) := by decide +kernel
theorem dX6_ofRow_144 : decode cX6_ofRow 144 = .ok (.goto 5, 3) := by decide +kernel
theorem dX6_ofRow_147 : decode cX6_ofRow 147 = .ok (.bipush (-2), 2) := by decide +kernel
theorem dX6_ofRow_149 : decode cX6_ofRow 149 = .ok (.ireturn, 1) := by decide +kernel
set_option maxRecDepth 20000 in
theorem ggX6_meets_X6_signInSpot : GoodIn wsX6_meets wsX6_signInSpot := goodIn_r _ [7, 8, 9, 10, 11, 6, 12, 13, 14, 15, 16, 17, 18, 19, 20, 21, 22, 23, 24, 25, 26, 27, 28, 29, 30, 31, 32, 33, 34, 35, 36, 37, 38, 39, 40, 41, 42, 43, 44, 45, 46, 47, 48, 49, 50, 51, 52, 53, 54, 55, 56, 57, 58, 59, 60, 61, 62, 63, 64, 65, 66, 67, 68, 69, 70] (by decide +kernel) (by decide +kernel)
set_option maxRecDepth 20000 in
theorem gX6_meets_X6_signInSpot : GoodIn wsX6_meets (wsV RX6 216 RX6 yX6_signInSpot wsX6_signInSpot) := goodIn_app (goodIn_of _ (by decide +kernel)) ggX6_meets_X6_signInSpot
theorem dX6_meets_0 : decode cX6_meets 0 = .ok (.iconst 1, 1) := by decide +kernel
theorem dX6_meets_1 : decode cX6_meets 1 = .ok (.istore_n 3, 1) := by decide +kernel
theorem dX6_meets_2 : decode cX6_meets 2 = .ok (.iconst 0, 1) := by decide +kernel
theorem dX6_meets_3 : decode cX6_meets 3 = .ok (.istore 4, 2) := by decide +kernel
theorem dX6_meets_5 : decode cX6_meets 5 = .ok (.iload 4, 2) := by decide +kernel
theorem dX6_meets_7 : decode cX6_meets 7 = .ok (.aload_n 0, 1) := by decide +kernel
theorem dX6_meets_8 : decode cX6_meets 8 = .ok (.getfield 75, 3) := by decide +kernel
theorem dX6_meets_11 : decode cX6_meets 11 = .ok (.if_icmp .ge 53, 3) := by decide +kernel
theorem dX6_meets_14 : decode cX6_meets 14 = .ok (.iload_n 3, 1) := by decide +kernel
theorem dX6_meets_15 : decode cX6_meets 15 = .ok (.ifCond .eq 41, 3) := by decide +kernel
theorem dX6_meets_18 : decode cX6_meets 18 = .ok (.aload_n 0, 1) := by decide +kernel
theorem dX6_meets_19 : decode cX6_meets 19 = .ok (.getfield 59, 3) := by decide +kernel
theorem dX6_meets_22 : decode cX6_meets 22 = .ok (.iload_n 2, 1) := by decide +kernel
theorem dX6_meets_23 : decode cX6_meets 23 = .ok (.iload 4, 2) := by decide +kernel
theorem dX6_meets_25 : decode cX6_meets 25 = .ok (.iadd, 1) := by decide +kernel
theorem dX6_meets_26 : decode cX6_meets 26 = .ok (.iaload, 1) := by decide +kernel
theorem dX6_meets_27 : decode cX6_meets 27 = .ok (.iconst 3, 1) := by decide +kernel
theorem dX6_meets_28 : decode cX6_meets 28 = .ok (.if_icmp .eq 24, 3) := by decide +kernel
theorem dX6_meets_31 : decode cX6_meets 31 = .ok (.aload_n 0, 1) := by decide +kernel
theorem dX6_meets_32 : decode cX6_meets 32 = .ok (.getfield 59, 3) := by decide +kernel
theorem dX6_meets_35 : decode cX6_meets 35 = .ok (.iload_n 2, 1) := by decide +kernel
theorem dX6_meets_36 : decode cX6_meets 36 = .ok (.iload 4, 2) := by decide +kernel
theorem dX6_meets_38 : decode cX6_meets 38 = .ok (.iadd, 1) := by decide +kernel
theorem dX6_meets_39 : decode cX6_meets 39 = .ok (.iaload, 1) := by decide +kernel
theorem dX6_meets_40 : decode cX6_meets 40 = .ok (.aload_n 0, 1) := by decide +kernel
theorem dX6_meets_41 : decode cX6_meets 41 = .ok (.iload_n 1, 1) := by decide +kernel
theorem dX6_meets_42 : decode cX6_meets 42 = .ok (.iload 4, 2) := by decide +kernel
theorem dX6_meets_44 : decode cX6_meets 44 = .ok (.invokevirtual 216, 3) := by decide +kernel
theorem dX6_meets_47 : decode cX6_meets 47 = .ok (.iconst 1, 1) := by decide +kernel
theorem dX6_meets_48 : decode cX6_meets 48 = .ok (.iadd, 1) := by decide +kernel
theorem dX6_meets_49 : decode cX6_meets 49 = .ok (.if_icmp .ne 7, 3) := by decide +kernel
theorem dX6_meets_52 : decode cX6_meets 52 = .ok (.iconst 1, 1) := by decide +kernel
theorem dX6_meets_53 : decode cX6_meets 53 = .ok (.goto 4, 3) := by decide +kernel
theorem dX6_meets_56 : decode cX6_meets 56 = .ok (.iconst 0, 1) := by decide +kernel
theorem dX6_meets_57 : decode cX6_meets 57 = .ok (.istore_n 3, 1) := by decide +kernel
theorem dX6_meets_58 : decode cX6_meets 58 = .ok (.iinc 4 1, 3) := by decide +kernel
theorem dX6_meets_61 : decode cX6_meets 61 = .ok (.goto (-56), 3) := by decide +kernel
theorem dX6_meets_64 : decode cX6_meets 64 = .ok (.iload_n 3, 1) := by decide +kernel
theorem dX6_meets_65 : decode cX6_meets 65 = .ok (.ireturn, 1) := by decide +kernel
set_option maxRecDepth 20000 in
theorem ggX6_wish_X6_refused : GoodIn wsX6_wish wsX6_refused := goodIn_r _ [10, 11, 98, 99, 100, 101, 102, 103, 104, 105, 106, 107, 108, 109, 110, 111, 112, 113, 114, 115, 116, 117, 118, 119, 120, 121, 122, 123, 124, 125, 126, 127] (by decide +kernel) (by decide +kernel)
set_option maxRecDepth 20000 in
theorem gX6_wish_X6_refused : GoodIn wsX6_wish (wsV RX6 114 RX6 yX6_refused wsX6_refused) := goodIn_app (goodIn_of _ (by decide +kernel)) ggX6_wish_X6_refused
set_option maxRecDepth 20000 in
theorem ggX6_wish_X6_noSheet : GoodIn wsX6_wish wsX6_noSheet := goodIn_r _ [14, 4, 15, 16, 9, 17] (by decide +kernel) (by decide +kernel)
set_option maxRecDepth 20000 in
theorem gX6_wish_X6_noSheet : GoodIn wsX6_wish (va_wsS RX6 110 yX6_noSheet wsX6_noSheet) := goodIn_app (goodIn_of _ (by decide +kernel)) ggX6_wish_X6_noSheet
set_option maxRecDepth 20000 in
theorem ggX6_wish_X6_in : GoodIn wsX6_wish wsX6_in := goodIn_r _ [17] (by decide +kernel) (by decide +kernel)
set_option maxRecDepth 20000 in
theorem gX6_wish_X6_in : GoodIn wsX6_wish (va_wsS RX6 78 yX6_in wsX6_in) := goodIn_app (goodIn_of _ (by decide +kernel)) ggX6_wish_X6_in
set_option maxRecDepth 20000 in
theorem ggX6_wish_X6_cellsBarred : GoodIn wsX6_wish wsX6_cellsBarred := goodIn_r _ [21, 22, 23, 24, 25, 26, 9, 27, 11, 28, 29, 30, 98, 99, 100, 101, 102, 103, 104, 105, 106, 107, 108, 109, 110, 111, 112, 113, 114, 115, 116, 117, 118, 119, 120, 121, 122, 123, 124, 125, 126, 127] (by decide +kernel) (by decide +kernel)
set_option maxRecDepth 20000 in
theorem gX6_wish_X6_cellsBarred : GoodIn wsX6_wish (wsV RX6 119 RX6 yX6_cellsBarred wsX6_cellsBarred) := goodIn_app (goodIn_of _ (by decide +kernel)) ggX6_wish_X6_cellsBarred
set_option maxRecDepth 20000 in
theorem ggX6_wish_X6_gathers : GoodIn wsX6_wish wsX6_gathers := goodIn_r _ [34, 5, 1, 35, 36, 37, 9, 38, 39, 40, 41, 42, 43, 44, 2, 45, 46, 47, 48, 49, 50, 51, 52, 53, 54, 55, 56, 57, 58, 59, 60, 61, 62, 63, 64, 65, 66, 67, 68, 69, 70, 71, 72, 73, 74, 75, 76, 77, 98, 99, 100, 101, 102, 103, 104, 105, 106, 107, 108, 109, 110, 111, 112, 113, 114, 115, 116, 117, 118, 119, 120, 121, 122, 123, 124, 125, 126, 127] (by decide +kernel) (by decide +kernel)
set_option maxRecDepth 20000 in
theorem gX6_wish_X6_gathers : GoodIn wsX6_wish (wsV RX6 184 RX6 yX6_gathers wsX6_gathers) := goodIn_app (goodIn_of _ (by decide +kernel)) ggX6_wish_X6_gathers
set_option maxRecDepth 20000 in
theorem ggX6_wish_X6_meets : GoodIn wsX6_wish wsX6_meets := goodIn_r _ [81, 1, 3, 82, 83, 84, 9, 85, 2, 39, 40, 41, 42, 43, 44, 71, 72, 73, 86, 87, 88, 89, 65, 54, 66, 56, 67, 57, 64, 55, 90, 91, 92, 93, 94, 95, 96, 97, 68, 69, 70, 98, 99, 100, 101, 102, 103, 104, 105, 106, 107, 108, 109, 110, 111, 112, 113, 114, 115, 116, 117, 118, 119, 120, 121, 122, 123, 124, 125, 126, 127] (by decide +kernel) (by decide +kernel)
set_option maxRecDepth 20000 in
theorem gX6_wish_X6_meets : GoodIn wsX6_wish (wsV RX6 257 RX6 yX6_meets wsX6_meets) := goodIn_app (goodIn_of _ (by decide +kernel)) ggX6_wish_X6_meets
theorem dX6_wish_0 : decode cX6_wish 0 = .ok (.aload_n 0, 1) := by decide +kernel
theorem dX6_wish_1 : decode cX6_wish 1 = .ok (.getfield 75, 3) := by decide +kernel
theorem dX6_wish_4 : decode cX6_wish 4 = .ok (.ifCond .ne 10, 3) := by decide +kernel
theorem dX6_wish_7 : decode cX6_wish 7 = .ok (.aload_n 0, 1) := by decide +kernel
theorem dX6_wish_8 : decode cX6_wish 8 = .ok (.bipush (-3), 2) := by decide +kernel
theorem dX6_wish_10 : decode cX6_wish 10 = .ok (.invokevirtual 114, 3) := by decide +kernel
theorem dX6_wish_13 : decode cX6_wish 13 = .ok (.ireturn, 1) := by decide +kernel
theorem dX6_wish_14 : decode cX6_wish 14 = .ok (.iload_n 1, 1) := by decide +kernel
theorem dX6_wish_15 : decode cX6_wish 15 = .ok (.invokestatic 110, 3) := by decide +kernel
theorem dX6_wish_18 : decode cX6_wish 18 = .ok (.ifCond .eq 9, 3) := by decide +kernel
theorem dX6_wish_21 : decode cX6_wish 21 = .ok (.aload_n 0, 1) := by decide +kernel
theorem dX6_wish_22 : decode cX6_wish 22 = .ok (.iconst (-1), 1) := by decide +kernel
theorem dX6_wish_23 : decode cX6_wish 23 = .ok (.invokevirtual 114, 3) := by decide +kernel
theorem dX6_wish_26 : decode cX6_wish 26 = .ok (.ireturn, 1) := by decide +kernel
theorem dX6_wish_27 : decode cX6_wish 27 = .ok (.iload_n 2, 1) := by decide +kernel
theorem dX6_wish_28 : decode cX6_wish 28 = .ok (.i2l, 1) := by decide +kernel
theorem dX6_wish_29 : decode cX6_wish 29 = .ok (.lconst 0, 1) := by decide +kernel
theorem dX6_wish_30 : decode cX6_wish 30 = .ok (.ldc2_w 117, 3) := by decide +kernel
theorem dX6_wish_33 : decode cX6_wish 33 = .ok (.invokestatic 78, 3) := by decide +kernel
theorem dX6_wish_36 : decode cX6_wish 36 = .ok (.ifCond .ne 10, 3) := by decide +kernel
theorem dX6_wish_39 : decode cX6_wish 39 = .ok (.aload_n 0, 1) := by decide +kernel
theorem dX6_wish_40 : decode cX6_wish 40 = .ok (.bipush (-2), 2) := by decide +kernel
theorem dX6_wish_42 : decode cX6_wish 42 = .ok (.invokevirtual 114, 3) := by decide +kernel
theorem dX6_wish_45 : decode cX6_wish 45 = .ok (.ireturn, 1) := by decide +kernel
theorem dX6_wish_46 : decode cX6_wish 46 = .ok (.aload_n 0, 1) := by decide +kernel
theorem dX6_wish_47 : decode cX6_wish 47 = .ok (.iload_n 1, 1) := by decide +kernel
theorem dX6_wish_48 : decode cX6_wish 48 = .ok (.iload_n 2, 1) := by decide +kernel
theorem dX6_wish_49 : decode cX6_wish 49 = .ok (.iload_n 3, 1) := by decide +kernel
theorem dX6_wish_50 : decode cX6_wish 50 = .ok (.aload_n 0, 1) := by decide +kernel
theorem dX6_wish_51 : decode cX6_wish 51 = .ok (.getfield 75, 3) := by decide +kernel
theorem dX6_wish_54 : decode cX6_wish 54 = .ok (.i2l, 1) := by decide +kernel
theorem dX6_wish_55 : decode cX6_wish 55 = .ok (.invokevirtual 119, 3) := by decide +kernel
theorem dX6_wish_58 : decode cX6_wish 58 = .ok (.istore 4, 2) := by decide +kernel
theorem dX6_wish_60 : decode cX6_wish 60 = .ok (.iload 4, 2) := by decide +kernel
theorem dX6_wish_62 : decode cX6_wish 62 = .ok (.ifCond .ge 6, 3) := by decide +kernel
theorem dX6_wish_65 : decode cX6_wish 65 = .ok (.iload 4, 2) := by decide +kernel
theorem dX6_wish_67 : decode cX6_wish 67 = .ok (.ireturn, 1) := by decide +kernel
theorem dX6_wish_68 : decode cX6_wish 68 = .ok (.bipush 60, 2) := by decide +kernel
theorem dX6_wish_70 : decode cX6_wish 70 = .ok (.iload_n 1, 1) := by decide +kernel
theorem dX6_wish_71 : decode cX6_wish 71 = .ok (.imul, 1) := by decide +kernel
theorem dX6_wish_72 : decode cX6_wish 72 = .ok (.iload_n 3, 1) := by decide +kernel
theorem dX6_wish_73 : decode cX6_wish 73 = .ok (.iadd, 1) := by decide +kernel
theorem dX6_wish_74 : decode cX6_wish 74 = .ok (.istore 5, 2) := by decide +kernel
theorem dX6_wish_76 : decode cX6_wish 76 = .ok (.iconst 0, 1) := by decide +kernel
theorem dX6_wish_77 : decode cX6_wish 77 = .ok (.istore 6, 2) := by decide +kernel
theorem dX6_wish_79 : decode cX6_wish 79 = .ok (.iload 6, 2) := by decide +kernel
theorem dX6_wish_81 : decode cX6_wish 81 = .ok (.aload_n 0, 1) := by decide +kernel
theorem dX6_wish_82 : decode cX6_wish 82 = .ok (.getfield 75, 3) := by decide +kernel
theorem dX6_wish_85 : decode cX6_wish 85 = .ok (.if_icmp .ge 37, 3) := by decide +kernel
theorem dX6_wish_88 : decode cX6_wish 88 = .ok (.aload_n 0, 1) := by decide +kernel
theorem dX6_wish_89 : decode cX6_wish 89 = .ok (.getfield 59, 3) := by decide +kernel
theorem dX6_wish_92 : decode cX6_wish 92 = .ok (.iload 5, 2) := by decide +kernel
theorem dX6_wish_94 : decode cX6_wish 94 = .ok (.iload 6, 2) := by decide +kernel
theorem dX6_wish_96 : decode cX6_wish 96 = .ok (.iadd, 1) := by decide +kernel
theorem dX6_wish_97 : decode cX6_wish 97 = .ok (.iaload, 1) := by decide +kernel
theorem dX6_wish_98 : decode cX6_wish 98 = .ok (.i2l, 1) := by decide +kernel
theorem dX6_wish_99 : decode cX6_wish 99 = .ok (.lconst 0, 1) := by decide +kernel
theorem dX6_wish_100 : decode cX6_wish 100 = .ok (.ldc2_w 235, 3) := by decide +kernel
theorem dX6_wish_103 : decode cX6_wish 103 = .ok (.invokestatic 78, 3) := by decide +kernel
theorem dX6_wish_106 : decode cX6_wish 106 = .ok (.ifCond .ne 10, 3) := by decide +kernel
theorem dX6_wish_109 : decode cX6_wish 109 = .ok (.aload_n 0, 1) := by decide +kernel
theorem dX6_wish_110 : decode cX6_wish 110 = .ok (.bipush (-2), 2) := by decide +kernel
theorem dX6_wish_112 : decode cX6_wish 112 = .ok (.invokevirtual 114, 3) := by decide +kernel
theorem dX6_wish_115 : decode cX6_wish 115 = .ok (.ireturn, 1) := by decide +kernel
theorem dX6_wish_116 : decode cX6_wish 116 = .ok (.iinc 6 1, 3) := by decide +kernel
theorem dX6_wish_119 : decode cX6_wish 119 = .ok (.goto (-40), 3) := by decide +kernel
theorem dX6_wish_122 : decode cX6_wish 122 = .ok (.aload_n 0, 1) := by decide +kernel
theorem dX6_wish_123 : decode cX6_wish 123 = .ok (.invokevirtual 184, 3) := by decide +kernel
theorem dX6_wish_126 : decode cX6_wish 126 = .ok (.bipush (-9), 2) := by decide +kernel
theorem dX6_wish_128 : decode cX6_wish 128 = .ok (.istore 6, 2) := by decide +kernel
theorem dX6_wish_130 : decode cX6_wish 130 = .ok (.iconst 2, 1) := by decide +kernel
theorem dX6_wish_131 : decode cX6_wish 131 = .ok (.aload_n 0, 1) := by decide +kernel
theorem dX6_wish_132 : decode cX6_wish 132 = .ok (.getfield 167, 3) := by decide +kernel
theorem dX6_wish_135 : decode cX6_wish 135 = .ok (.imul, 1) := by decide +kernel
theorem dX6_wish_136 : decode cX6_wish 136 = .ok (.istore 7, 2) := by decide +kernel
theorem dX6_wish_138 : decode cX6_wish 138 = .ok (.iload 7, 2) := by decide +kernel
theorem dX6_wish_140 : decode cX6_wish 140 = .ok (.ifCond .lt 29, 3) := by decide +kernel
theorem dX6_wish_143 : decode cX6_wish 143 = .ok (.aload_n 0, 1) := by decide +kernel
theorem dX6_wish_144 : decode cX6_wish 144 = .ok (.iload 7, 2) := by decide +kernel
theorem dX6_wish_146 : decode cX6_wish 146 = .ok (.iload 5, 2) := by decide +kernel
theorem dX6_wish_148 : decode cX6_wish 148 = .ok (.invokevirtual 257, 3) := by decide +kernel
theorem dX6_wish_151 : decode cX6_wish 151 = .ok (.ifCond .eq 8, 3) := by decide +kernel
theorem dX6_wish_154 : decode cX6_wish 154 = .ok (.iload 7, 2) := by decide +kernel
theorem dX6_wish_156 : decode cX6_wish 156 = .ok (.goto 5, 3) := by decide +kernel
theorem dX6_wish_159 : decode cX6_wish 159 = .ok (.iload 6, 2) := by decide +kernel
theorem dX6_wish_161 : decode cX6_wish 161 = .ok (.istore 6, 2) := by decide +kernel
theorem dX6_wish_163 : decode cX6_wish 163 = .ok (.iinc 7 (-1), 3) := by decide +kernel
theorem dX6_wish_166 : decode cX6_wish 166 = .ok (.goto (-28), 3) := by decide +kernel
theorem dX6_wish_169 : decode cX6_wish 169 = .ok (.aload_n 0, 1) := by decide +kernel
theorem dX6_wish_170 : decode cX6_wish 170 = .ok (.iload 6, 2) := by decide +kernel
theorem dX6_wish_172 : decode cX6_wish 172 = .ok (.invokevirtual 114, 3) := by decide +kernel
theorem dX6_wish_175 : decode cX6_wish 175 = .ok (.ireturn, 1) := by decide +kernel
set_option maxRecDepth 20000 in
theorem ggX6_reading_X6_noPolynomial : GoodIn wsX6_reading wsX6_noPolynomial := goodIn_r _ [11, 12, 13, 14, 10, 15, 16, 17, 18, 19, 20, 21, 22, 23, 24, 25, 26, 27, 28, 29, 30, 31, 32, 33, 34, 35, 36, 37, 38, 39, 40, 41, 42, 43, 44, 45] (by decide +kernel) (by decide +kernel)
set_option maxRecDepth 20000 in
theorem gX6_reading_X6_noPolynomial : GoodIn wsX6_reading (wsV RX6 193 RX6 yX6_noPolynomial wsX6_noPolynomial) := goodIn_app (goodIn_of _ (by decide +kernel)) ggX6_reading_X6_noPolynomial
set_option maxRecDepth 20000 in
theorem ggX6_reading_X6_in : GoodIn wsX6_reading wsX6_in := goodIn_r _ [15] (by decide +kernel) (by decide +kernel)
set_option maxRecDepth 20000 in
theorem gX6_reading_X6_in : GoodIn wsX6_reading (va_wsS RX6 78 yX6_in wsX6_in) := goodIn_app (goodIn_of _ (by decide +kernel)) ggX6_reading_X6_in
theorem dX6_reading_0 : decode cX6_reading 0 = .ok (.aload_n 0, 1) := by decide +kernel
theorem dX6_reading_1 : decode cX6_reading 1 = .ok (.iload_n 2, 1) := by decide +kernel
theorem dX6_reading_2 : decode cX6_reading 2 = .ok (.invokevirtual 193, 3) := by decide +kernel
theorem dX6_reading_5 : decode cX6_reading 5 = .ok (.ifCond .eq 5, 3) := by decide +kernel
theorem dX6_reading_8 : decode cX6_reading 8 = .ok (.iconst (-1), 1) := by decide +kernel
theorem dX6_reading_9 : decode cX6_reading 9 = .ok (.ireturn, 1) := by decide +kernel
theorem dX6_reading_10 : decode cX6_reading 10 = .ok (.iload_n 1, 1) := by decide +kernel
theorem dX6_reading_11 : decode cX6_reading 11 = .ok (.i2l, 1) := by decide +kernel
theorem dX6_reading_12 : decode cX6_reading 12 = .ok (.lconst 0, 1) := by decide +kernel
theorem dX6_reading_13 : decode cX6_reading 13 = .ok (.ldc2_w 200, 3) := by decide +kernel
theorem dX6_reading_16 : decode cX6_reading 16 = .ok (.invokestatic 78, 3) := by decide +kernel
theorem dX6_reading_19 : decode cX6_reading 19 = .ok (.ifCond .eq 15, 3) := by decide +kernel
theorem dX6_reading_22 : decode cX6_reading 22 = .ok (.iload_n 3, 1) := by decide +kernel
theorem dX6_reading_23 : decode cX6_reading 23 = .ok (.i2l, 1) := by decide +kernel
theorem dX6_reading_24 : decode cX6_reading 24 = .ok (.lconst 0, 1) := by decide +kernel
theorem dX6_reading_25 : decode cX6_reading 25 = .ok (.ldc2_w 117, 3) := by decide +kernel
theorem dX6_reading_28 : decode cX6_reading 28 = .ok (.invokestatic 78, 3) := by decide +kernel
theorem dX6_reading_31 : decode cX6_reading 31 = .ok (.ifCond .ne 6, 3) := by decide +kernel
theorem dX6_reading_34 : decode cX6_reading 34 = .ok (.bipush (-2), 2) := by decide +kernel
theorem dX6_reading_36 : decode cX6_reading 36 = .ok (.ireturn, 1) := by decide +kernel
theorem dX6_reading_37 : decode cX6_reading 37 = .ok (.aload_n 0, 1) := by decide +kernel
theorem dX6_reading_38 : decode cX6_reading 38 = .ok (.getfield 126, 3) := by decide +kernel
theorem dX6_reading_41 : decode cX6_reading 41 = .ok (.bipush 8, 2) := by decide +kernel
theorem dX6_reading_43 : decode cX6_reading 43 = .ok (.if_icmp .ne 6, 3) := by decide +kernel
theorem dX6_reading_46 : decode cX6_reading 46 = .ok (.bipush (-4), 2) := by decide +kernel
theorem dX6_reading_48 : decode cX6_reading 48 = .ok (.ireturn, 1) := by decide +kernel
theorem dX6_reading_49 : decode cX6_reading 49 = .ok (.aload_n 0, 1) := by decide +kernel
theorem dX6_reading_50 : decode cX6_reading 50 = .ok (.getfield 44, 3) := by decide +kernel
theorem dX6_reading_53 : decode cX6_reading 53 = .ok (.aload_n 0, 1) := by decide +kernel
theorem dX6_reading_54 : decode cX6_reading 54 = .ok (.getfield 126, 3) := by decide +kernel
theorem dX6_reading_57 : decode cX6_reading 57 = .ok (.iload_n 1, 1) := by decide +kernel
theorem dX6_reading_58 : decode cX6_reading 58 = .ok (.iastore, 1) := by decide +kernel
theorem dX6_reading_59 : decode cX6_reading 59 = .ok (.aload_n 0, 1) := by decide +kernel
theorem dX6_reading_60 : decode cX6_reading 60 = .ok (.getfield 47, 3) := by decide +kernel
theorem dX6_reading_63 : decode cX6_reading 63 = .ok (.aload_n 0, 1) := by decide +kernel
theorem dX6_reading_64 : decode cX6_reading 64 = .ok (.getfield 126, 3) := by decide +kernel
theorem dX6_reading_67 : decode cX6_reading 67 = .ok (.iload_n 2, 1) := by decide +kernel
theorem dX6_reading_68 : decode cX6_reading 68 = .ok (.iastore, 1) := by decide +kernel
theorem dX6_reading_69 : decode cX6_reading 69 = .ok (.aload_n 0, 1) := by decide +kernel
theorem dX6_reading_70 : decode cX6_reading 70 = .ok (.getfield 50, 3) := by decide +kernel
theorem dX6_reading_73 : decode cX6_reading 73 = .ok (.aload_n 0, 1) := by decide +kernel
theorem dX6_reading_74 : decode cX6_reading 74 = .ok (.getfield 126, 3) := by decide +kernel
theorem dX6_reading_77 : decode cX6_reading 77 = .ok (.iload_n 3, 1) := by decide +kernel
theorem dX6_reading_78 : decode cX6_reading 78 = .ok (.iastore, 1) := by decide +kernel
theorem dX6_reading_79 : decode cX6_reading 79 = .ok (.aload_n 0, 1) := by decide +kernel
theorem dX6_reading_80 : decode cX6_reading 80 = .ok (.dup, 1) := by decide +kernel
theorem dX6_reading_81 : decode cX6_reading 81 = .ok (.getfield 126, 3) := by decide +kernel
theorem dX6_reading_84 : decode cX6_reading 84 = .ok (.iconst 1, 1) := by decide +kernel
theorem dX6_reading_85 : decode cX6_reading 85 = .ok (.iadd, 1) := by decide +kernel
theorem dX6_reading_86 : decode cX6_reading 86 = .ok (.putfield 126, 3) := by decide +kernel
theorem dX6_reading_89 : decode cX6_reading 89 = .ok (.aload_n 0, 1) := by decide +kernel
theorem dX6_reading_90 : decode cX6_reading 90 = .ok (.getfield 126, 3) := by decide +kernel
theorem dX6_reading_93 : decode cX6_reading 93 = .ok (.iconst 1, 1) := by decide +kernel
theorem dX6_reading_94 : decode cX6_reading 94 = .ok (.isub, 1) := by decide +kernel
theorem dX6_reading_95 : decode cX6_reading 95 = .ok (.ireturn, 1) := by decide +kernel
set_option maxRecDepth 20000 in
theorem ggX6_back_X6_in : GoodIn wsX6_back wsX6_in := goodIn_r _ [5] (by decide +kernel) (by decide +kernel)
set_option maxRecDepth 20000 in
theorem gX6_back_X6_in : GoodIn wsX6_back (va_wsS RX6 78 yX6_in wsX6_in) := goodIn_app (goodIn_of _ (by decide +kernel)) ggX6_back_X6_in
theorem dX6_back_0 : decode cX6_back 0 = .ok (.iload_n 1, 1) := by decide +kernel
theorem dX6_back_1 : decode cX6_back 1 = .ok (.i2l, 1) := by decide +kernel
theorem dX6_back_2 : decode cX6_back 2 = .ok (.lconst 0, 1) := by decide +kernel
theorem dX6_back_3 : decode cX6_back 3 = .ok (.aload_n 0, 1) := by decide +kernel
theorem dX6_back_4 : decode cX6_back 4 = .ok (.getfield 126, 3) := by decide +kernel
theorem dX6_back_7 : decode cX6_back 7 = .ok (.i2l, 1) := by decide +kernel
theorem dX6_back_8 : decode cX6_back 8 = .ok (.invokestatic 78, 3) := by decide +kernel
theorem dX6_back_11 : decode cX6_back 11 = .ok (.ifCond .ne 6, 3) := by decide +kernel
theorem dX6_back_14 : decode cX6_back 14 = .ok (.bipush (-2), 2) := by decide +kernel
theorem dX6_back_16 : decode cX6_back 16 = .ok (.ireturn, 1) := by decide +kernel
theorem dX6_back_17 : decode cX6_back 17 = .ok (.aload_n 0, 1) := by decide +kernel
theorem dX6_back_18 : decode cX6_back 18 = .ok (.dup, 1) := by decide +kernel
theorem dX6_back_19 : decode cX6_back 19 = .ok (.getfield 126, 3) := by decide +kernel
theorem dX6_back_22 : decode cX6_back 22 = .ok (.iload_n 1, 1) := by decide +kernel
theorem dX6_back_23 : decode cX6_back 23 = .ok (.isub, 1) := by decide +kernel
theorem dX6_back_24 : decode cX6_back 24 = .ok (.putfield 126, 3) := by decide +kernel
theorem dX6_back_27 : decode cX6_back 27 = .ok (.aload_n 0, 1) := by decide +kernel
theorem dX6_back_28 : decode cX6_back 28 = .ok (.getfield 126, 3) := by decide +kernel
theorem dX6_back_31 : decode cX6_back 31 = .ok (.ireturn, 1) := by decide +kernel
set_option maxRecDepth 20000 in
theorem ggX6_areSo_X6_gathers : GoodIn wsX6_areSo wsX6_gathers := goodIn_r _ [10, 3, 11, 12, 13, 14, 9, 15, 16, 17, 18, 19, 20, 21, 22, 23, 24, 25, 26, 27, 28, 29, 30, 31, 32, 33, 34, 35, 36, 37, 38, 39, 40, 41, 42, 43, 44, 45, 46, 47, 48, 49, 50, 51, 52, 53, 54, 55, 72, 73, 74, 75, 76, 77, 78, 79, 80, 81, 82, 83, 84, 85, 86, 87, 88, 89, 90, 91, 92, 93, 94, 95, 96, 97, 98, 99, 100, 101] (by decide +kernel) (by decide +kernel)
set_option maxRecDepth 20000 in
theorem gX6_areSo_X6_gathers : GoodIn wsX6_areSo (wsV RX6 184 RX6 yX6_gathers wsX6_gathers) := goodIn_app (goodIn_of _ (by decide +kernel)) ggX6_areSo_X6_gathers
set_option maxRecDepth 20000 in
theorem ggX6_areSo_X6_signInSpot : GoodIn wsX6_areSo wsX6_signInSpot := goodIn_r _ [59, 22, 16, 17, 18, 9, 19, 20, 21, 49, 50, 51, 60, 61, 62, 63, 43, 32, 44, 34, 45, 35, 42, 33, 64, 65, 66, 67, 68, 69, 70, 71, 46, 47, 48, 72, 73, 74, 75, 76, 77, 78, 79, 80, 81, 82, 83, 84, 85, 86, 87, 88, 89, 90, 91, 92, 93, 94, 95, 96, 97, 98, 99, 100, 101] (by decide +kernel) (by decide +kernel)
set_option maxRecDepth 20000 in
theorem gX6_areSo_X6_signInSpot : GoodIn wsX6_areSo (wsV RX6 216 RX6 yX6_signInSpot wsX6_signInSpot) := goodIn_app (goodIn_of _ (by decide +kernel)) ggX6_areSo_X6_signInSpot
theorem dX6_areSo_0 : decode cX6_areSo 0 = .ok (.aload_n 0, 1) := by decide +kernel
theorem dX6_areSo_1 : decode cX6_areSo 1 = .ok (.invokevirtual 184, 3) := by decide +kernel
theorem dX6_areSo_4 : decode cX6_areSo 4 = .ok (.iconst 1, 1) := by decide +kernel
theorem dX6_areSo_5 : decode cX6_areSo 5 = .ok (.istore_n 1, 1) := by decide +kernel
theorem dX6_areSo_6 : decode cX6_areSo 6 = .ok (.iconst 0, 1) := by decide +kernel
theorem dX6_areSo_7 : decode cX6_areSo 7 = .ok (.istore_n 2, 1) := by decide +kernel
theorem dX6_areSo_8 : decode cX6_areSo 8 = .ok (.iload_n 2, 1) := by decide +kernel
theorem dX6_areSo_9 : decode cX6_areSo 9 = .ok (.aload_n 0, 1) := by decide +kernel
theorem dX6_areSo_10 : decode cX6_areSo 10 = .ok (.getfield 126, 3) := by decide +kernel
theorem dX6_areSo_13 : decode cX6_areSo 13 = .ok (.if_icmp .ge 71, 3) := by decide +kernel
theorem dX6_areSo_16 : decode cX6_areSo 16 = .ok (.aload_n 0, 1) := by decide +kernel
theorem dX6_areSo_17 : decode cX6_areSo 17 = .ok (.getfield 44, 3) := by decide +kernel
theorem dX6_areSo_20 : decode cX6_areSo 20 = .ok (.iload_n 2, 1) := by decide +kernel
theorem dX6_areSo_21 : decode cX6_areSo 21 = .ok (.iaload, 1) := by decide +kernel
theorem dX6_areSo_22 : decode cX6_areSo 22 = .ok (.iconst 2, 1) := by decide +kernel
theorem dX6_areSo_23 : decode cX6_areSo 23 = .ok (.aload_n 0, 1) := by decide +kernel
theorem dX6_areSo_24 : decode cX6_areSo 24 = .ok (.getfield 167, 3) := by decide +kernel
theorem dX6_areSo_27 : decode cX6_areSo 27 = .ok (.imul, 1) := by decide +kernel
theorem dX6_areSo_28 : decode cX6_areSo 28 = .ok (.if_icmp .gt 7, 3) := by decide +kernel
theorem dX6_areSo_31 : decode cX6_areSo 31 = .ok (.iconst 1, 1) := by decide +kernel
theorem dX6_areSo_32 : decode cX6_areSo 32 = .ok (.goto 4, 3) := by decide +kernel
theorem dX6_areSo_35 : decode cX6_areSo 35 = .ok (.iconst 0, 1) := by decide +kernel
theorem dX6_areSo_36 : decode cX6_areSo 36 = .ok (.istore_n 3, 1) := by decide +kernel
theorem dX6_areSo_37 : decode cX6_areSo 37 = .ok (.iload_n 1, 1) := by decide +kernel
theorem dX6_areSo_38 : decode cX6_areSo 38 = .ok (.ifCond .eq 38, 3) := by decide +kernel
theorem dX6_areSo_41 : decode cX6_areSo 41 = .ok (.iload_n 3, 1) := by decide +kernel
theorem dX6_areSo_42 : decode cX6_areSo 42 = .ok (.ifCond .eq 34, 3) := by decide +kernel
theorem dX6_areSo_45 : decode cX6_areSo 45 = .ok (.aload_n 0, 1) := by decide +kernel
theorem dX6_areSo_46 : decode cX6_areSo 46 = .ok (.aload_n 0, 1) := by decide +kernel
theorem dX6_areSo_47 : decode cX6_areSo 47 = .ok (.getfield 44, 3) := by decide +kernel
theorem dX6_areSo_50 : decode cX6_areSo 50 = .ok (.iload_n 2, 1) := by decide +kernel
theorem dX6_areSo_51 : decode cX6_areSo 51 = .ok (.iaload, 1) := by decide +kernel
theorem dX6_areSo_52 : decode cX6_areSo 52 = .ok (.aload_n 0, 1) := by decide +kernel
theorem dX6_areSo_53 : decode cX6_areSo 53 = .ok (.getfield 47, 3) := by decide +kernel
theorem dX6_areSo_56 : decode cX6_areSo 56 = .ok (.iload_n 2, 1) := by decide +kernel
theorem dX6_areSo_57 : decode cX6_areSo 57 = .ok (.iaload, 1) := by decide +kernel
theorem dX6_areSo_58 : decode cX6_areSo 58 = .ok (.invokevirtual 216, 3) := by decide +kernel
theorem dX6_areSo_61 : decode cX6_areSo 61 = .ok (.iconst 1, 1) := by decide +kernel
theorem dX6_areSo_62 : decode cX6_areSo 62 = .ok (.iadd, 1) := by decide +kernel
theorem dX6_areSo_63 : decode cX6_areSo 63 = .ok (.aload_n 0, 1) := by decide +kernel
theorem dX6_areSo_64 : decode cX6_areSo 64 = .ok (.getfield 50, 3) := by decide +kernel
theorem dX6_areSo_67 : decode cX6_areSo 67 = .ok (.iload_n 2, 1) := by decide +kernel
theorem dX6_areSo_68 : decode cX6_areSo 68 = .ok (.iaload, 1) := by decide +kernel
theorem dX6_areSo_69 : decode cX6_areSo 69 = .ok (.if_icmp .ne 7, 3) := by decide +kernel
theorem dX6_areSo_72 : decode cX6_areSo 72 = .ok (.iconst 1, 1) := by decide +kernel
theorem dX6_areSo_73 : decode cX6_areSo 73 = .ok (.goto 4, 3) := by decide +kernel
theorem dX6_areSo_76 : decode cX6_areSo 76 = .ok (.iconst 0, 1) := by decide +kernel
theorem dX6_areSo_77 : decode cX6_areSo 77 = .ok (.istore_n 1, 1) := by decide +kernel
theorem dX6_areSo_78 : decode cX6_areSo 78 = .ok (.iinc 2 1, 3) := by decide +kernel
theorem dX6_areSo_81 : decode cX6_areSo 81 = .ok (.goto (-73), 3) := by decide +kernel
theorem dX6_areSo_84 : decode cX6_areSo 84 = .ok (.iload_n 1, 1) := by decide +kernel
theorem dX6_areSo_85 : decode cX6_areSo 85 = .ok (.ireturn, 1) := by decide +kernel
set_option maxRecDepth 20000 in
theorem ggX6_kinds_X6_noPolynomial : GoodIn wsX6_kinds wsX6_noPolynomial := goodIn_r _ [6, 7, 8, 9, 5, 10, 83, 84, 85, 86, 87, 88, 89, 90, 91, 92, 93, 94, 95, 96, 97, 98, 99, 100, 101, 102, 103, 104, 105, 106, 107, 108, 109, 110, 111, 112] (by decide +kernel) (by decide +kernel)
set_option maxRecDepth 20000 in
theorem gX6_kinds_X6_noPolynomial : GoodIn wsX6_kinds (wsV RX6 193 RX6 yX6_noPolynomial wsX6_noPolynomial) := goodIn_app (goodIn_of _ (by decide +kernel)) ggX6_kinds_X6_noPolynomial
set_option maxRecDepth 20000 in
theorem ggX6_kinds_X6_areSo : GoodIn wsX6_kinds wsX6_areSo := goodIn_r _ [14, 15, 16, 17, 18, 19, 20, 21, 22, 5, 23, 7, 24, 25, 26, 27, 28, 29, 30, 31, 32, 1, 33, 34, 35, 36, 37, 38, 39, 40, 41, 42, 43, 44, 45, 46, 47, 48, 49, 50, 51, 52, 53, 54, 55, 56, 57, 58, 59, 60, 61, 62, 63, 64, 65, 66, 67, 68, 69, 70, 71, 72, 73, 74, 75, 76, 77, 78, 79, 80, 81, 82, 83, 84, 85, 86, 87, 88, 89, 90, 91, 92, 93, 94, 95, 96, 97, 98, 99, 100, 101, 102, 103, 104, 105, 106, 107, 108, 109, 110, 111, 112] (by decide +kernel) (by decide +kernel)
set_option maxRecDepth 20000 in
theorem gX6_kinds_X6_areSo : GoodIn wsX6_kinds (wsV RX6 260 RX6 yX6_areSo wsX6_areSo) := goodIn_app (goodIn_of _ (by decide +kernel)) ggX6_kinds_X6_areSo
theorem dX6_kinds_0 : decode cX6_kinds 0 = .ok (.aload_n 0, 1) := by decide +kernel
theorem dX6_kinds_1 : decode cX6_kinds 1 = .ok (.iload_n 1, 1) := by decide +kernel
theorem dX6_kinds_2 : decode cX6_kinds 2 = .ok (.invokevirtual 193, 3) := by decide +kernel
theorem dX6_kinds_5 : decode cX6_kinds 5 = .ok (.ifCond .eq 5, 3) := by decide +kernel
theorem dX6_kinds_8 : decode cX6_kinds 8 = .ok (.iconst (-1), 1) := by decide +kernel
theorem dX6_kinds_9 : decode cX6_kinds 9 = .ok (.ireturn, 1) := by decide +kernel
theorem dX6_kinds_10 : decode cX6_kinds 10 = .ok (.aload_n 0, 1) := by decide +kernel
theorem dX6_kinds_11 : decode cX6_kinds 11 = .ok (.getfield 7, 3) := by decide +kernel
theorem dX6_kinds_14 : decode cX6_kinds 14 = .ok (.iload_n 1, 1) := by decide +kernel
theorem dX6_kinds_15 : decode cX6_kinds 15 = .ok (.iaload, 1) := by decide +kernel
theorem dX6_kinds_16 : decode cX6_kinds 16 = .ok (.istore_n 2, 1) := by decide +kernel
theorem dX6_kinds_17 : decode cX6_kinds 17 = .ok (.iconst 0, 1) := by decide +kernel
theorem dX6_kinds_18 : decode cX6_kinds 18 = .ok (.istore_n 3, 1) := by decide +kernel
theorem dX6_kinds_19 : decode cX6_kinds 19 = .ok (.iconst 0, 1) := by decide +kernel
theorem dX6_kinds_20 : decode cX6_kinds 20 = .ok (.istore 4, 2) := by decide +kernel
theorem dX6_kinds_22 : decode cX6_kinds 22 = .ok (.iload 4, 2) := by decide +kernel
theorem dX6_kinds_24 : decode cX6_kinds 24 = .ok (.iconst 3, 1) := by decide +kernel
theorem dX6_kinds_25 : decode cX6_kinds 25 = .ok (.if_icmp .ge 35, 3) := by decide +kernel
theorem dX6_kinds_28 : decode cX6_kinds 28 = .ok (.aload_n 0, 1) := by decide +kernel
theorem dX6_kinds_29 : decode cX6_kinds 29 = .ok (.getfield 7, 3) := by decide +kernel
theorem dX6_kinds_32 : decode cX6_kinds 32 = .ok (.iload_n 1, 1) := by decide +kernel
theorem dX6_kinds_33 : decode cX6_kinds 33 = .ok (.iload 4, 2) := by decide +kernel
theorem dX6_kinds_35 : decode cX6_kinds 35 = .ok (.iastore, 1) := by decide +kernel
theorem dX6_kinds_36 : decode cX6_kinds 36 = .ok (.iload_n 3, 1) := by decide +kernel
theorem dX6_kinds_37 : decode cX6_kinds 37 = .ok (.aload_n 0, 1) := by decide +kernel
theorem dX6_kinds_38 : decode cX6_kinds 38 = .ok (.invokevirtual 260, 3) := by decide +kernel
theorem dX6_kinds_41 : decode cX6_kinds 41 = .ok (.ifCond .eq 10, 3) := by decide +kernel
theorem dX6_kinds_44 : decode cX6_kinds 44 = .ok (.iconst 1, 1) := by decide +kernel
theorem dX6_kinds_45 : decode cX6_kinds 45 = .ok (.iload 4, 2) := by decide +kernel
theorem dX6_kinds_47 : decode cX6_kinds 47 = .ok (.ishl, 1) := by decide +kernel
theorem dX6_kinds_48 : decode cX6_kinds 48 = .ok (.goto 4, 3) := by decide +kernel
theorem dX6_kinds_51 : decode cX6_kinds 51 = .ok (.iconst 0, 1) := by decide +kernel
theorem dX6_kinds_52 : decode cX6_kinds 52 = .ok (.ior, 1) := by decide +kernel
theorem dX6_kinds_53 : decode cX6_kinds 53 = .ok (.istore_n 3, 1) := by decide +kernel
theorem dX6_kinds_54 : decode cX6_kinds 54 = .ok (.iinc 4 1, 3) := by decide +kernel
theorem dX6_kinds_57 : decode cX6_kinds 57 = .ok (.goto (-35), 3) := by decide +kernel
theorem dX6_kinds_60 : decode cX6_kinds 60 = .ok (.aload_n 0, 1) := by decide +kernel
theorem dX6_kinds_61 : decode cX6_kinds 61 = .ok (.getfield 7, 3) := by decide +kernel
theorem dX6_kinds_64 : decode cX6_kinds 64 = .ok (.iload_n 1, 1) := by decide +kernel
theorem dX6_kinds_65 : decode cX6_kinds 65 = .ok (.iload_n 2, 1) := by decide +kernel
theorem dX6_kinds_66 : decode cX6_kinds 66 = .ok (.iastore, 1) := by decide +kernel
theorem dX6_kinds_67 : decode cX6_kinds 67 = .ok (.iload_n 3, 1) := by decide +kernel
theorem dX6_kinds_68 : decode cX6_kinds 68 = .ok (.ireturn, 1) := by decide +kernel
set_option maxRecDepth 20000 in
theorem ggX6_lows_X6_noPolynomial : GoodIn wsX6_lows wsX6_noPolynomial := goodIn_r _ [6, 7, 8, 9, 5, 10, 83, 84, 85, 86, 87, 88, 89, 90, 91, 92, 93, 94, 95, 96, 97, 98, 99, 100, 101, 102, 103, 104, 105, 106, 107, 108, 109, 110, 111, 112] (by decide +kernel) (by decide +kernel)
set_option maxRecDepth 20000 in
theorem gX6_lows_X6_noPolynomial : GoodIn wsX6_lows (wsV RX6 193 RX6 yX6_noPolynomial wsX6_noPolynomial) := goodIn_app (goodIn_of _ (by decide +kernel)) ggX6_lows_X6_noPolynomial
set_option maxRecDepth 20000 in
theorem ggX6_lows_X6_areSo : GoodIn wsX6_lows wsX6_areSo := goodIn_r _ [14, 15, 16, 17, 18, 19, 20, 21, 22, 5, 23, 7, 24, 25, 26, 27, 28, 29, 30, 31, 1, 32, 33, 34, 35, 36, 37, 38, 39, 40, 41, 42, 43, 44, 45, 46, 47, 48, 49, 50, 51, 52, 53, 54, 55, 56, 57, 58, 59, 60, 61, 62, 63, 64, 65, 66, 67, 68, 69, 70, 71, 72, 73, 74, 75, 76, 77, 78, 79, 80, 81, 82, 83, 84, 85, 86, 87, 88, 89, 90, 91, 92, 93, 94, 95, 96, 97, 98, 99, 100, 101, 102, 103, 104, 105, 106, 107, 108, 109, 110, 111, 112] (by decide +kernel) (by decide +kernel)
set_option maxRecDepth 20000 in
theorem gX6_lows_X6_areSo : GoodIn wsX6_lows (wsV RX6 260 RX6 yX6_areSo wsX6_areSo) := goodIn_app (goodIn_of _ (by decide +kernel)) ggX6_lows_X6_areSo
theorem dX6_lows_0 : decode cX6_lows 0 = .ok (.aload_n 0, 1) := by decide +kernel
theorem dX6_lows_1 : decode cX6_lows 1 = .ok (.iload_n 1, 1) := by decide +kernel
theorem dX6_lows_2 : decode cX6_lows 2 = .ok (.invokevirtual 193, 3) := by decide +kernel
theorem dX6_lows_5 : decode cX6_lows 5 = .ok (.ifCond .eq 5, 3) := by decide +kernel
theorem dX6_lows_8 : decode cX6_lows 8 = .ok (.iconst (-1), 1) := by decide +kernel
theorem dX6_lows_9 : decode cX6_lows 9 = .ok (.ireturn, 1) := by decide +kernel
theorem dX6_lows_10 : decode cX6_lows 10 = .ok (.aload_n 0, 1) := by decide +kernel
theorem dX6_lows_11 : decode cX6_lows 11 = .ok (.getfield 13, 3) := by decide +kernel
theorem dX6_lows_14 : decode cX6_lows 14 = .ok (.iconst 3, 1) := by decide +kernel
theorem dX6_lows_15 : decode cX6_lows 15 = .ok (.iload_n 1, 1) := by decide +kernel
theorem dX6_lows_16 : decode cX6_lows 16 = .ok (.imul, 1) := by decide +kernel
theorem dX6_lows_17 : decode cX6_lows 17 = .ok (.iaload, 1) := by decide +kernel
theorem dX6_lows_18 : decode cX6_lows 18 = .ok (.istore_n 2, 1) := by decide +kernel
theorem dX6_lows_19 : decode cX6_lows 19 = .ok (.iconst 0, 1) := by decide +kernel
theorem dX6_lows_20 : decode cX6_lows 20 = .ok (.istore_n 3, 1) := by decide +kernel
theorem dX6_lows_21 : decode cX6_lows 21 = .ok (.bipush (-9), 2) := by decide +kernel
theorem dX6_lows_23 : decode cX6_lows 23 = .ok (.istore 4, 2) := by decide +kernel
theorem dX6_lows_25 : decode cX6_lows 25 = .ok (.iload 4, 2) := by decide +kernel
theorem dX6_lows_27 : decode cX6_lows 27 = .ok (.bipush 9, 2) := by decide +kernel
theorem dX6_lows_29 : decode cX6_lows 29 = .ok (.if_icmp .gt 40, 3) := by decide +kernel
theorem dX6_lows_32 : decode cX6_lows 32 = .ok (.aload_n 0, 1) := by decide +kernel
theorem dX6_lows_33 : decode cX6_lows 33 = .ok (.getfield 13, 3) := by decide +kernel
theorem dX6_lows_36 : decode cX6_lows 36 = .ok (.iconst 3, 1) := by decide +kernel
theorem dX6_lows_37 : decode cX6_lows 37 = .ok (.iload_n 1, 1) := by decide +kernel
theorem dX6_lows_38 : decode cX6_lows 38 = .ok (.imul, 1) := by decide +kernel
theorem dX6_lows_39 : decode cX6_lows 39 = .ok (.iload 4, 2) := by decide +kernel
theorem dX6_lows_41 : decode cX6_lows 41 = .ok (.iastore, 1) := by decide +kernel
theorem dX6_lows_42 : decode cX6_lows 42 = .ok (.iload_n 3, 1) := by decide +kernel
theorem dX6_lows_43 : decode cX6_lows 43 = .ok (.aload_n 0, 1) := by decide +kernel
theorem dX6_lows_44 : decode cX6_lows 44 = .ok (.invokevirtual 260, 3) := by decide +kernel
theorem dX6_lows_47 : decode cX6_lows 47 = .ok (.ifCond .eq 13, 3) := by decide +kernel
theorem dX6_lows_50 : decode cX6_lows 50 = .ok (.iconst 1, 1) := by decide +kernel
theorem dX6_lows_51 : decode cX6_lows 51 = .ok (.iload 4, 2) := by decide +kernel
theorem dX6_lows_53 : decode cX6_lows 53 = .ok (.bipush 9, 2) := by decide +kernel
theorem dX6_lows_55 : decode cX6_lows 55 = .ok (.iadd, 1) := by decide +kernel
theorem dX6_lows_56 : decode cX6_lows 56 = .ok (.ishl, 1) := by decide +kernel
theorem dX6_lows_57 : decode cX6_lows 57 = .ok (.goto 4, 3) := by decide +kernel
theorem dX6_lows_60 : decode cX6_lows 60 = .ok (.iconst 0, 1) := by decide +kernel
theorem dX6_lows_61 : decode cX6_lows 61 = .ok (.ior, 1) := by decide +kernel
theorem dX6_lows_62 : decode cX6_lows 62 = .ok (.istore_n 3, 1) := by decide +kernel
theorem dX6_lows_63 : decode cX6_lows 63 = .ok (.iinc 4 1, 3) := by decide +kernel
theorem dX6_lows_66 : decode cX6_lows 66 = .ok (.goto (-41), 3) := by decide +kernel
theorem dX6_lows_69 : decode cX6_lows 69 = .ok (.aload_n 0, 1) := by decide +kernel
theorem dX6_lows_70 : decode cX6_lows 70 = .ok (.getfield 13, 3) := by decide +kernel
theorem dX6_lows_73 : decode cX6_lows 73 = .ok (.iconst 3, 1) := by decide +kernel
theorem dX6_lows_74 : decode cX6_lows 74 = .ok (.iload_n 1, 1) := by decide +kernel
theorem dX6_lows_75 : decode cX6_lows 75 = .ok (.imul, 1) := by decide +kernel
theorem dX6_lows_76 : decode cX6_lows 76 = .ok (.iload_n 2, 1) := by decide +kernel
theorem dX6_lows_77 : decode cX6_lows 77 = .ok (.iastore, 1) := by decide +kernel
theorem dX6_lows_78 : decode cX6_lows 78 = .ok (.iload_n 3, 1) := by decide +kernel
theorem dX6_lows_79 : decode cX6_lows 79 = .ok (.ireturn, 1) := by decide +kernel
set_option maxRecDepth 20000 in
theorem ggX6_odds_X6_noPolynomial : GoodIn wsX6_odds wsX6_noPolynomial := goodIn_r _ [7, 8, 9, 10, 6, 11, 82, 83, 84, 85, 86, 87, 88, 89, 90, 91, 92, 93, 94, 95, 96, 97, 98, 99, 100, 101, 102, 103, 104, 105, 106, 107, 108, 109, 110, 111] (by decide +kernel) (by decide +kernel)
set_option maxRecDepth 20000 in
theorem gX6_odds_X6_noPolynomial : GoodIn wsX6_odds (wsV RX6 193 RX6 yX6_noPolynomial wsX6_noPolynomial) := goodIn_app (goodIn_of _ (by decide +kernel)) ggX6_odds_X6_noPolynomial
set_option maxRecDepth 20000 in
theorem ggX6_odds_X6_in : GoodIn wsX6_odds wsX6_in := goodIn_r _ [11] (by decide +kernel) (by decide +kernel)
set_option maxRecDepth 20000 in
theorem gX6_odds_X6_in : GoodIn wsX6_odds (va_wsS RX6 78 yX6_in wsX6_in) := goodIn_app (goodIn_of _ (by decide +kernel)) ggX6_odds_X6_in
set_option maxRecDepth 20000 in
theorem ggX6_odds_X6_lost : GoodIn wsX6_odds wsX6_lost := goodIn_r _ [14, 15] (by decide +kernel) (by decide +kernel)
set_option maxRecDepth 20000 in
theorem gX6_odds_X6_lost : GoodIn wsX6_odds (va_wsS RX6 71 yX6_lost wsX6_lost) := goodIn_app (goodIn_of _ (by decide +kernel)) ggX6_odds_X6_lost
set_option maxRecDepth 20000 in
theorem ggX6_odds_X6_gathers : GoodIn wsX6_odds wsX6_gathers := goodIn_r _ [19, 2, 8, 20, 21, 22, 6, 23, 24, 25, 26, 27, 28, 29, 1, 30, 31, 32, 33, 34, 35, 36, 37, 38, 39, 40, 41, 42, 43, 44, 45, 46, 47, 48, 49, 50, 51, 52, 53, 54, 55, 56, 57, 58, 59, 60, 61, 62, 82, 83, 84, 85, 86, 87, 88, 89, 90, 91, 92, 93, 94, 95, 96, 97, 98, 99, 100, 101, 102, 103, 104, 105, 106, 107, 108, 109, 110, 111] (by decide +kernel) (by decide +kernel)
set_option maxRecDepth 20000 in
theorem gX6_odds_X6_gathers : GoodIn wsX6_odds (wsV RX6 184 RX6 yX6_gathers wsX6_gathers) := goodIn_app (goodIn_of _ (by decide +kernel)) ggX6_odds_X6_gathers
set_option maxRecDepth 20000 in
theorem ggX6_odds_X6_signInSpot : GoodIn wsX6_odds wsX6_signInSpot := goodIn_r _ [66, 1, 24, 25, 26, 6, 27, 28, 29, 56, 57, 58, 67, 68, 69, 70, 50, 39, 51, 41, 52, 42, 49, 40, 71, 72, 73, 74, 75, 76, 77, 78, 53, 54, 55, 82, 83, 84, 85, 86, 87, 88, 89, 90, 91, 92, 93, 94, 95, 96, 97, 98, 99, 100, 101, 102, 103, 104, 105, 106, 107, 108, 109, 110, 111] (by decide +kernel) (by decide +kernel)
set_option maxRecDepth 20000 in
theorem gX6_odds_X6_signInSpot : GoodIn wsX6_odds (wsV RX6 216 RX6 yX6_signInSpot wsX6_signInSpot) := goodIn_app (goodIn_of _ (by decide +kernel)) ggX6_odds_X6_signInSpot
set_option maxRecDepth 20000 in
theorem ggX6_odds_X6_share : GoodIn wsX6_odds wsX6_share := goodIn_r _ [81] (by decide +kernel) (by decide +kernel)
set_option maxRecDepth 20000 in
theorem gX6_odds_X6_share : GoodIn wsX6_odds (va_wsS RX6 264 yX6_share wsX6_share) := goodIn_app (goodIn_of _ (by decide +kernel)) ggX6_odds_X6_share
theorem dX6_odds_0 : decode cX6_odds 0 = .ok (.aload_n 0, 1) := by decide +kernel
theorem dX6_odds_1 : decode cX6_odds 1 = .ok (.iload_n 1, 1) := by decide +kernel
theorem dX6_odds_2 : decode cX6_odds 2 = .ok (.invokevirtual 193, 3) := by decide +kernel
theorem dX6_odds_5 : decode cX6_odds 5 = .ok (.ifCond .ne 25, 3) := by decide +kernel
theorem dX6_odds_8 : decode cX6_odds 8 = .ok (.iload_n 2, 1) := by decide +kernel
theorem dX6_odds_9 : decode cX6_odds 9 = .ok (.i2l, 1) := by decide +kernel
theorem dX6_odds_10 : decode cX6_odds 10 = .ok (.lconst 0, 1) := by decide +kernel
theorem dX6_odds_11 : decode cX6_odds 11 = .ok (.ldc2_w 117, 3) := by decide +kernel
theorem dX6_odds_14 : decode cX6_odds 14 = .ok (.invokestatic 78, 3) := by decide +kernel
theorem dX6_odds_17 : decode cX6_odds 17 = .ok (.ifCond .eq 13, 3) := by decide +kernel
theorem dX6_odds_20 : decode cX6_odds 20 = .ok (.iload_n 3, 1) := by decide +kernel
theorem dX6_odds_21 : decode cX6_odds 21 = .ok (.i2l, 1) := by decide +kernel
theorem dX6_odds_22 : decode cX6_odds 22 = .ok (.lconst 0, 1) := by decide +kernel
theorem dX6_odds_23 : decode cX6_odds 23 = .ok (.lconst 1, 1) := by decide +kernel
theorem dX6_odds_24 : decode cX6_odds 24 = .ok (.invokestatic 78, 3) := by decide +kernel
theorem dX6_odds_27 : decode cX6_odds 27 = .ok (.ifCond .ne 7, 3) := by decide +kernel
theorem dX6_odds_30 : decode cX6_odds 30 = .ok (.invokestatic 71, 3) := by decide +kernel
theorem dX6_odds_33 : decode cX6_odds 33 = .ok (.lreturn, 1) := by decide +kernel
theorem dX6_odds_34 : decode cX6_odds 34 = .ok (.aload_n 0, 1) := by decide +kernel
theorem dX6_odds_35 : decode cX6_odds 35 = .ok (.invokevirtual 184, 3) := by decide +kernel
theorem dX6_odds_38 : decode cX6_odds 38 = .ok (.iconst 0, 1) := by decide +kernel
theorem dX6_odds_39 : decode cX6_odds 39 = .ok (.istore 4, 2) := by decide +kernel
theorem dX6_odds_41 : decode cX6_odds 41 = .ok (.iconst 0, 1) := by decide +kernel
theorem dX6_odds_42 : decode cX6_odds 42 = .ok (.istore 5, 2) := by decide +kernel
theorem dX6_odds_44 : decode cX6_odds 44 = .ok (.iload 5, 2) := by decide +kernel
theorem dX6_odds_46 : decode cX6_odds 46 = .ok (.iconst 2, 1) := by decide +kernel
theorem dX6_odds_47 : decode cX6_odds 47 = .ok (.aload_n 0, 1) := by decide +kernel
theorem dX6_odds_48 : decode cX6_odds 48 = .ok (.getfield 167, 3) := by decide +kernel
theorem dX6_odds_51 : decode cX6_odds 51 = .ok (.imul, 1) := by decide +kernel
theorem dX6_odds_52 : decode cX6_odds 52 = .ok (.if_icmp .gt 32, 3) := by decide +kernel
theorem dX6_odds_55 : decode cX6_odds 55 = .ok (.iload 4, 2) := by decide +kernel
theorem dX6_odds_57 : decode cX6_odds 57 = .ok (.aload_n 0, 1) := by decide +kernel
theorem dX6_odds_58 : decode cX6_odds 58 = .ok (.iload 5, 2) := by decide +kernel
theorem dX6_odds_60 : decode cX6_odds 60 = .ok (.iload_n 1, 1) := by decide +kernel
theorem dX6_odds_61 : decode cX6_odds 61 = .ok (.invokevirtual 216, 3) := by decide +kernel
theorem dX6_odds_64 : decode cX6_odds 64 = .ok (.iconst 1, 1) := by decide +kernel
theorem dX6_odds_65 : decode cX6_odds 65 = .ok (.iadd, 1) := by decide +kernel
theorem dX6_odds_66 : decode cX6_odds 66 = .ok (.iload_n 2, 1) := by decide +kernel
theorem dX6_odds_67 : decode cX6_odds 67 = .ok (.if_icmp .ne 7, 3) := by decide +kernel
theorem dX6_odds_70 : decode cX6_odds 70 = .ok (.iconst 1, 1) := by decide +kernel
theorem dX6_odds_71 : decode cX6_odds 71 = .ok (.goto 4, 3) := by decide +kernel
theorem dX6_odds_74 : decode cX6_odds 74 = .ok (.iconst 0, 1) := by decide +kernel
theorem dX6_odds_75 : decode cX6_odds 75 = .ok (.iadd, 1) := by decide +kernel
theorem dX6_odds_76 : decode cX6_odds 76 = .ok (.istore 4, 2) := by decide +kernel
theorem dX6_odds_78 : decode cX6_odds 78 = .ok (.iinc 5 1, 3) := by decide +kernel
theorem dX6_odds_81 : decode cX6_odds 81 = .ok (.goto (-37), 3) := by decide +kernel
theorem dX6_odds_84 : decode cX6_odds 84 = .ok (.iload 4, 2) := by decide +kernel
theorem dX6_odds_86 : decode cX6_odds 86 = .ok (.i2l, 1) := by decide +kernel
theorem dX6_odds_87 : decode cX6_odds 87 = .ok (.ldc2_w 117, 3) := by decide +kernel
theorem dX6_odds_90 : decode cX6_odds 90 = .ok (.aload_n 0, 1) := by decide +kernel
theorem dX6_odds_91 : decode cX6_odds 91 = .ok (.getfield 167, 3) := by decide +kernel
theorem dX6_odds_94 : decode cX6_odds 94 = .ok (.i2l, 1) := by decide +kernel
theorem dX6_odds_95 : decode cX6_odds 95 = .ok (.lmul, 1) := by decide +kernel
theorem dX6_odds_96 : decode cX6_odds 96 = .ok (.lconst 1, 1) := by decide +kernel
theorem dX6_odds_97 : decode cX6_odds 97 = .ok (.ladd, 1) := by decide +kernel
theorem dX6_odds_98 : decode cX6_odds 98 = .ok (.iload_n 3, 1) := by decide +kernel
theorem dX6_odds_99 : decode cX6_odds 99 = .ok (.invokestatic 264, 3) := by decide +kernel
theorem dX6_odds_102 : decode cX6_odds 102 = .ok (.lreturn, 1) := by decide +kernel
set_option maxRecDepth 20000 in
theorem ggX6_noSheet_X6_in : GoodIn wsX6_noSheet wsX6_in := goodIn_r _ [5] (by decide +kernel) (by decide +kernel)
set_option maxRecDepth 20000 in
theorem gX6_noSheet_X6_in : GoodIn wsX6_noSheet (va_wsS RX6 78 yX6_in wsX6_in) := goodIn_app (goodIn_of _ (by decide +kernel)) ggX6_noSheet_X6_in
theorem dX6_noSheet_0 : decode cX6_noSheet 0 = .ok (.iload_n 0, 1) := by decide +kernel
theorem dX6_noSheet_1 : decode cX6_noSheet 1 = .ok (.i2l, 1) := by decide +kernel
theorem dX6_noSheet_2 : decode cX6_noSheet 2 = .ok (.lconst 0, 1) := by decide +kernel
theorem dX6_noSheet_3 : decode cX6_noSheet 3 = .ok (.ldc2_w 235, 3) := by decide +kernel
theorem dX6_noSheet_6 : decode cX6_noSheet 6 = .ok (.invokestatic 78, 3) := by decide +kernel
theorem dX6_noSheet_9 : decode cX6_noSheet 9 = .ok (.ifCond .ne 7, 3) := by decide +kernel
theorem dX6_noSheet_12 : decode cX6_noSheet 12 = .ok (.iconst 1, 1) := by decide +kernel
theorem dX6_noSheet_13 : decode cX6_noSheet 13 = .ok (.goto 4, 3) := by decide +kernel
theorem dX6_noSheet_16 : decode cX6_noSheet 16 = .ok (.iconst 0, 1) := by decide +kernel
theorem dX6_noSheet_17 : decode cX6_noSheet 17 = .ok (.ireturn, 1) := by decide +kernel
set_option maxRecDepth 20000 in
theorem ggX6_sheet_X6_noSheet : GoodIn wsX6_sheet wsX6_noSheet := goodIn_r _ [8, 9, 10, 11, 7, 12] (by decide +kernel) (by decide +kernel)
set_option maxRecDepth 20000 in
theorem gX6_sheet_X6_noSheet : GoodIn wsX6_sheet (va_wsS RX6 110 yX6_noSheet wsX6_noSheet) := goodIn_app (goodIn_of _ (by decide +kernel)) ggX6_sheet_X6_noSheet
set_option maxRecDepth 20000 in
theorem ggX6_sheet_X6_refused : GoodIn wsX6_sheet wsX6_refused := goodIn_r _ [16, 17, 22, 23, 24, 25, 26, 27, 28, 29, 30, 31, 32, 33, 34, 35, 36, 37, 38, 39, 40, 41, 42, 43, 44, 45, 46, 47, 48, 49, 50, 51] (by decide +kernel) (by decide +kernel)
set_option maxRecDepth 20000 in
theorem gX6_sheet_X6_refused : GoodIn wsX6_sheet (wsV RX6 114 RX6 yX6_refused wsX6_refused) := goodIn_app (goodIn_of _ (by decide +kernel)) ggX6_sheet_X6_refused
set_option maxRecDepth 20000 in
theorem ggX6_sheet_X6_in : GoodIn wsX6_sheet wsX6_in := goodIn_r _ [12] (by decide +kernel) (by decide +kernel)
set_option maxRecDepth 20000 in
theorem gX6_sheet_X6_in : GoodIn wsX6_sheet (va_wsS RX6 78 yX6_in wsX6_in) := goodIn_app (goodIn_of _ (by decide +kernel)) ggX6_sheet_X6_in
set_option maxRecDepth 20000 in
theorem ggX6_sheet_X6_failed : GoodIn wsX6_sheet wsX6_failed := goodIn_r _ [21, 17, 22, 23, 24, 25, 26, 27, 28, 29, 30, 31, 32, 33, 34, 35, 36, 37, 38, 39, 40, 41, 42, 43, 44, 45, 46, 47, 48, 49, 50, 51] (by decide +kernel) (by decide +kernel)
set_option maxRecDepth 20000 in
theorem gX6_sheet_X6_failed : GoodIn wsX6_sheet (wsV RX6 102 RX6 yX6_failed wsX6_failed) := goodIn_app (goodIn_of _ (by decide +kernel)) ggX6_sheet_X6_failed
theorem dX6_sheet_0 : decode cX6_sheet 0 = .ok (.iload_n 1, 1) := by decide +kernel
theorem dX6_sheet_1 : decode cX6_sheet 1 = .ok (.invokestatic 110, 3) := by decide +kernel
theorem dX6_sheet_4 : decode cX6_sheet 4 = .ok (.ifCond .eq 9, 3) := by decide +kernel
theorem dX6_sheet_7 : decode cX6_sheet 7 = .ok (.aload_n 0, 1) := by decide +kernel
theorem dX6_sheet_8 : decode cX6_sheet 8 = .ok (.iconst (-1), 1) := by decide +kernel
theorem dX6_sheet_9 : decode cX6_sheet 9 = .ok (.invokevirtual 114, 3) := by decide +kernel
theorem dX6_sheet_12 : decode cX6_sheet 12 = .ok (.ireturn, 1) := by decide +kernel
theorem dX6_sheet_13 : decode cX6_sheet 13 = .ok (.iload_n 2, 1) := by decide +kernel
theorem dX6_sheet_14 : decode cX6_sheet 14 = .ok (.i2l, 1) := by decide +kernel
theorem dX6_sheet_15 : decode cX6_sheet 15 = .ok (.lconst 0, 1) := by decide +kernel
theorem dX6_sheet_16 : decode cX6_sheet 16 = .ok (.ldc2_w 117, 3) := by decide +kernel
theorem dX6_sheet_19 : decode cX6_sheet 19 = .ok (.invokestatic 78, 3) := by decide +kernel
theorem dX6_sheet_22 : decode cX6_sheet 22 = .ok (.ifCond .eq 9, 3) := by decide +kernel
theorem dX6_sheet_25 : decode cX6_sheet 25 = .ok (.iload_n 3, 1) := by decide +kernel
theorem dX6_sheet_26 : decode cX6_sheet 26 = .ok (.bipush 60, 2) := by decide +kernel
theorem dX6_sheet_28 : decode cX6_sheet 28 = .ok (.if_icmp .le 10, 3) := by decide +kernel
theorem dX6_sheet_31 : decode cX6_sheet 31 = .ok (.aload_n 0, 1) := by decide +kernel
theorem dX6_sheet_32 : decode cX6_sheet 32 = .ok (.bipush (-2), 2) := by decide +kernel
theorem dX6_sheet_34 : decode cX6_sheet 34 = .ok (.invokevirtual 114, 3) := by decide +kernel
theorem dX6_sheet_37 : decode cX6_sheet 37 = .ok (.ireturn, 1) := by decide +kernel
theorem dX6_sheet_38 : decode cX6_sheet 38 = .ok (.iload_n 3, 1) := by decide +kernel
theorem dX6_sheet_39 : decode cX6_sheet 39 = .ok (.ifCond .ge 9, 3) := by decide +kernel
theorem dX6_sheet_42 : decode cX6_sheet 42 = .ok (.aload_n 0, 1) := by decide +kernel
theorem dX6_sheet_43 : decode cX6_sheet 43 = .ok (.iconst 4, 1) := by decide +kernel
theorem dX6_sheet_44 : decode cX6_sheet 44 = .ok (.invokevirtual 102, 3) := by decide +kernel
theorem dX6_sheet_47 : decode cX6_sheet 47 = .ok (.ireturn, 1) := by decide +kernel
theorem dX6_sheet_48 : decode cX6_sheet 48 = .ok (.aload_n 0, 1) := by decide +kernel
theorem dX6_sheet_49 : decode cX6_sheet 49 = .ok (.getfield 53, 3) := by decide +kernel
theorem dX6_sheet_52 : decode cX6_sheet 52 = .ok (.iload_n 1, 1) := by decide +kernel
theorem dX6_sheet_53 : decode cX6_sheet 53 = .ok (.iload_n 3, 1) := by decide +kernel
theorem dX6_sheet_54 : decode cX6_sheet 54 = .ok (.iastore, 1) := by decide +kernel
theorem dX6_sheet_55 : decode cX6_sheet 55 = .ok (.aload_n 0, 1) := by decide +kernel
theorem dX6_sheet_56 : decode cX6_sheet 56 = .ok (.getfield 56, 3) := by decide +kernel
theorem dX6_sheet_59 : decode cX6_sheet 59 = .ok (.iload_n 1, 1) := by decide +kernel
theorem dX6_sheet_60 : decode cX6_sheet 60 = .ok (.iload_n 2, 1) := by decide +kernel
theorem dX6_sheet_61 : decode cX6_sheet 61 = .ok (.iastore, 1) := by decide +kernel
theorem dX6_sheet_62 : decode cX6_sheet 62 = .ok (.iconst 0, 1) := by decide +kernel
theorem dX6_sheet_63 : decode cX6_sheet 63 = .ok (.istore 4, 2) := by decide +kernel
theorem dX6_sheet_65 : decode cX6_sheet 65 = .ok (.iload 4, 2) := by decide +kernel
theorem dX6_sheet_67 : decode cX6_sheet 67 = .ok (.iload_n 3, 1) := by decide +kernel
theorem dX6_sheet_68 : decode cX6_sheet 68 = .ok (.if_icmp .ge 22, 3) := by decide +kernel
theorem dX6_sheet_71 : decode cX6_sheet 71 = .ok (.aload_n 0, 1) := by decide +kernel
theorem dX6_sheet_72 : decode cX6_sheet 72 = .ok (.getfield 59, 3) := by decide +kernel
theorem dX6_sheet_75 : decode cX6_sheet 75 = .ok (.bipush 60, 2) := by decide +kernel
theorem dX6_sheet_77 : decode cX6_sheet 77 = .ok (.iload_n 1, 1) := by decide +kernel
theorem dX6_sheet_78 : decode cX6_sheet 78 = .ok (.imul, 1) := by decide +kernel
theorem dX6_sheet_79 : decode cX6_sheet 79 = .ok (.iload 4, 2) := by decide +kernel
theorem dX6_sheet_81 : decode cX6_sheet 81 = .ok (.iadd, 1) := by decide +kernel
theorem dX6_sheet_82 : decode cX6_sheet 82 = .ok (.iconst 0, 1) := by decide +kernel
theorem dX6_sheet_83 : decode cX6_sheet 83 = .ok (.iastore, 1) := by decide +kernel
theorem dX6_sheet_84 : decode cX6_sheet 84 = .ok (.iinc 4 1, 3) := by decide +kernel
theorem dX6_sheet_87 : decode cX6_sheet 87 = .ok (.goto (-22), 3) := by decide +kernel
theorem dX6_sheet_90 : decode cX6_sheet 90 = .ok (.aload_n 0, 1) := by decide +kernel
theorem dX6_sheet_91 : decode cX6_sheet 91 = .ok (.iconst 1, 1) := by decide +kernel
theorem dX6_sheet_92 : decode cX6_sheet 92 = .ok (.invokevirtual 114, 3) := by decide +kernel
theorem dX6_sheet_95 : decode cX6_sheet 95 = .ok (.ireturn, 1) := by decide +kernel
set_option maxRecDepth 20000 in
theorem ggX6_lose_X6_noSheet : GoodIn wsX6_lose wsX6_noSheet := goodIn_r _ [5, 6, 7, 8, 4, 9] (by decide +kernel) (by decide +kernel)
set_option maxRecDepth 20000 in
theorem gX6_lose_X6_noSheet : GoodIn wsX6_lose (va_wsS RX6 110 yX6_noSheet wsX6_noSheet) := goodIn_app (goodIn_of _ (by decide +kernel)) ggX6_lose_X6_noSheet
theorem dX6_lose_0 : decode cX6_lose 0 = .ok (.iload_n 1, 1) := by decide +kernel
theorem dX6_lose_1 : decode cX6_lose 1 = .ok (.invokestatic 110, 3) := by decide +kernel
theorem dX6_lose_4 : decode cX6_lose 4 = .ok (.ifCond .eq 5, 3) := by decide +kernel
theorem dX6_lose_7 : decode cX6_lose 7 = .ok (.iconst (-1), 1) := by decide +kernel
theorem dX6_lose_8 : decode cX6_lose 8 = .ok (.ireturn, 1) := by decide +kernel
theorem dX6_lose_9 : decode cX6_lose 9 = .ok (.aload_n 0, 1) := by decide +kernel
theorem dX6_lose_10 : decode cX6_lose 10 = .ok (.getfield 53, 3) := by decide +kernel
theorem dX6_lose_13 : decode cX6_lose 13 = .ok (.iload_n 1, 1) := by decide +kernel
theorem dX6_lose_14 : decode cX6_lose 14 = .ok (.iaload, 1) := by decide +kernel
theorem dX6_lose_15 : decode cX6_lose 15 = .ok (.ifCond .ge 7, 3) := by decide +kernel
theorem dX6_lose_18 : decode cX6_lose 18 = .ok (.iconst 0, 1) := by decide +kernel
theorem dX6_lose_19 : decode cX6_lose 19 = .ok (.goto 4, 3) := by decide +kernel
theorem dX6_lose_22 : decode cX6_lose 22 = .ok (.iconst 1, 1) := by decide +kernel
theorem dX6_lose_23 : decode cX6_lose 23 = .ok (.istore_n 2, 1) := by decide +kernel
theorem dX6_lose_24 : decode cX6_lose 24 = .ok (.aload_n 0, 1) := by decide +kernel
theorem dX6_lose_25 : decode cX6_lose 25 = .ok (.getfield 53, 3) := by decide +kernel
theorem dX6_lose_28 : decode cX6_lose 28 = .ok (.iload_n 1, 1) := by decide +kernel
theorem dX6_lose_29 : decode cX6_lose 29 = .ok (.iconst (-1), 1) := by decide +kernel
theorem dX6_lose_30 : decode cX6_lose 30 = .ok (.iastore, 1) := by decide +kernel
theorem dX6_lose_31 : decode cX6_lose 31 = .ok (.iload_n 2, 1) := by decide +kernel
theorem dX6_lose_32 : decode cX6_lose 32 = .ok (.ireturn, 1) := by decide +kernel
set_option maxRecDepth 20000 in
theorem ggX6_noCell_X6_in : GoodIn wsX6_noCell wsX6_in := goodIn_r _ [5] (by decide +kernel) (by decide +kernel)
set_option maxRecDepth 20000 in
theorem gX6_noCell_X6_in : GoodIn wsX6_noCell (va_wsS RX6 78 yX6_in wsX6_in) := goodIn_app (goodIn_of _ (by decide +kernel)) ggX6_noCell_X6_in
theorem dX6_noCell_0 : decode cX6_noCell 0 = .ok (.aload_n 0, 1) := by decide +kernel
theorem dX6_noCell_1 : decode cX6_noCell 1 = .ok (.getfield 53, 3) := by decide +kernel
theorem dX6_noCell_4 : decode cX6_noCell 4 = .ok (.iload_n 1, 1) := by decide +kernel
theorem dX6_noCell_5 : decode cX6_noCell 5 = .ok (.iaload, 1) := by decide +kernel
theorem dX6_noCell_6 : decode cX6_noCell 6 = .ok (.ifCond .ge 7, 3) := by decide +kernel
theorem dX6_noCell_9 : decode cX6_noCell 9 = .ok (.iconst 1, 1) := by decide +kernel
theorem dX6_noCell_10 : decode cX6_noCell 10 = .ok (.goto 26, 3) := by decide +kernel
theorem dX6_noCell_13 : decode cX6_noCell 13 = .ok (.iload_n 2, 1) := by decide +kernel
theorem dX6_noCell_14 : decode cX6_noCell 14 = .ok (.i2l, 1) := by decide +kernel
theorem dX6_noCell_15 : decode cX6_noCell 15 = .ok (.lconst 0, 1) := by decide +kernel
theorem dX6_noCell_16 : decode cX6_noCell 16 = .ok (.aload_n 0, 1) := by decide +kernel
theorem dX6_noCell_17 : decode cX6_noCell 17 = .ok (.getfield 53, 3) := by decide +kernel
theorem dX6_noCell_20 : decode cX6_noCell 20 = .ok (.iload_n 1, 1) := by decide +kernel
