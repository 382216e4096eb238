theorem dX5_many_56 : decode cX5_many 56 = .ok (.aload_n 0, 1) := by decide +kernel
theorem dX5_many_57 : decode cX5_many 57 = .ok (.getfield 47, 3) := by decide +kernel
theorem dX5_many_60 : decode cX5_many 60 = .ok (.getfield 86, 3) := by decide +kernel
theorem dX5_many_63 : decode cX5_many 63 = .ok (.ireturn, 1) := by decide +kernel
theorem dX5_many_64 : decode cX5_many 64 = .ok (.bipush (-2), 2) := by decide +kernel
theorem dX5_many_66 : decode cX5_many 66 = .ok (.ireturn, 1) := by decide +kernel
theorem dX5_isBelow_0 : decode cX5_isBelow 0 = .ok (.iload_n 0, 1) := by decide +kernel
theorem dX5_isBelow_1 : decode cX5_isBelow 1 = .ok (.ifCond .lt 12, 3) := by decide +kernel
theorem dX5_isBelow_4 : decode cX5_isBelow 4 = .ok (.iload_n 0, 1) := by decide +kernel
theorem dX5_isBelow_5 : decode cX5_isBelow 5 = .ok (.iload_n 1, 1) := by decide +kernel
theorem dX5_isBelow_6 : decode cX5_isBelow 6 = .ok (.if_icmp .ge 7, 3) := by decide +kernel
theorem dX5_isBelow_9 : decode cX5_isBelow 9 = .ok (.iconst 1, 1) := by decide +kernel
theorem dX5_isBelow_10 : decode cX5_isBelow 10 = .ok (.goto 4, 3) := by decide +kernel
theorem dX5_isBelow_13 : decode cX5_isBelow 13 = .ok (.iconst 0, 1) := by decide +kernel
theorem dX5_isBelow_14 : decode cX5_isBelow 14 = .ok (.ireturn, 1) := by decide +kernel
set_option maxRecDepth 20000 in
theorem ggX5_isSheet_X5_isBelow : GoodIn wsX5_isSheet wsX5_isBelow := goodIn_r _ [4] (by decide +kernel) (by decide +kernel)
set_option maxRecDepth 20000 in
theorem gX5_isSheet_X5_isBelow : GoodIn wsX5_isSheet (va_wsS RX5 59 yX5_isBelow wsX5_isBelow) := goodIn_app (goodIn_of _ (by decide +kernel)) ggX5_isSheet_X5_isBelow
theorem dX5_isSheet_0 : decode cX5_isSheet 0 = .ok (.iload_n 0, 1) := by decide +kernel
theorem dX5_isSheet_1 : decode cX5_isSheet 1 = .ok (.iconst 4, 1) := by decide +kernel
theorem dX5_isSheet_2 : decode cX5_isSheet 2 = .ok (.invokestatic 59, 3) := by decide +kernel
theorem dX5_isSheet_5 : decode cX5_isSheet 5 = .ok (.ireturn, 1) := by decide +kernel
theorem dX5_isNumber_0 : decode cX5_isNumber 0 = .ok (.iload_n 0, 1) := by decide +kernel
theorem dX5_isNumber_1 : decode cX5_isNumber 1 = .ok (.bipush (-9), 2) := by decide +kernel
theorem dX5_isNumber_3 : decode cX5_isNumber 3 = .ok (.if_icmp .lt 13, 3) := by decide +kernel
theorem dX5_isNumber_6 : decode cX5_isNumber 6 = .ok (.iload_n 0, 1) := by decide +kernel
theorem dX5_isNumber_7 : decode cX5_isNumber 7 = .ok (.bipush 9, 2) := by decide +kernel
theorem dX5_isNumber_9 : decode cX5_isNumber 9 = .ok (.if_icmp .gt 7, 3) := by decide +kernel
theorem dX5_isNumber_12 : decode cX5_isNumber 12 = .ok (.iconst 1, 1) := by decide +kernel
theorem dX5_isNumber_13 : decode cX5_isNumber 13 = .ok (.goto 4, 3) := by decide +kernel
theorem dX5_isNumber_16 : decode cX5_isNumber 16 = .ok (.iconst 0, 1) := by decide +kernel
theorem dX5_isNumber_17 : decode cX5_isNumber 17 = .ok (.ireturn, 1) := by decide +kernel
set_option maxRecDepth 20000 in
theorem ggX5_isPolynomial_X5_isBelow : GoodIn wsX5_isPolynomial wsX5_isBelow := goodIn_r _ [6] (by decide +kernel) (by decide +kernel)
set_option maxRecDepth 20000 in
theorem gX5_isPolynomial_X5_isBelow : GoodIn wsX5_isPolynomial (va_wsS RX5 59 yX5_isBelow wsX5_isBelow) := goodIn_app (goodIn_of _ (by decide +kernel)) ggX5_isPolynomial_X5_isBelow
theorem dX5_isPolynomial_0 : decode cX5_isPolynomial 0 = .ok (.iload_n 1, 1) := by decide +kernel
theorem dX5_isPolynomial_1 : decode cX5_isPolynomial 1 = .ok (.aload_n 0, 1) := by decide +kernel
theorem dX5_isPolynomial_2 : decode cX5_isPolynomial 2 = .ok (.getfield 20, 3) := by decide +kernel
theorem dX5_isPolynomial_5 : decode cX5_isPolynomial 5 = .ok (.getfield 92, 3) := by decide +kernel
theorem dX5_isPolynomial_8 : decode cX5_isPolynomial 8 = .ok (.invokestatic 59, 3) := by decide +kernel
theorem dX5_isPolynomial_11 : decode cX5_isPolynomial 11 = .ok (.ireturn, 1) := by decide +kernel
set_option maxRecDepth 20000 in
theorem ggX5_isRoot_X5_isPolynomial : GoodIn wsX5_isRoot wsX5_isPolynomial := goodIn_r _ [7, 8, 9, 10, 11, 6, 12, 13, 14, 15, 16, 17, 18, 19, 20, 21, 36, 37, 38] (by decide +kernel) (by decide +kernel)
set_option maxRecDepth 20000 in
theorem gX5_isRoot_X5_isPolynomial : GoodIn wsX5_isRoot (wsV RX5 93 RX5 yX5_isPolynomial wsX5_isPolynomial) := goodIn_app (goodIn_of _ (by decide +kernel)) ggX5_isRoot_X5_isPolynomial
set_option maxRecDepth 20000 in
theorem ggX5_isRoot_X5_isBelow : GoodIn wsX5_isRoot wsX5_isBelow := goodIn_r _ [12] (by decide +kernel) (by decide +kernel)
set_option maxRecDepth 20000 in
theorem gX5_isRoot_X5_isBelow : GoodIn wsX5_isRoot (va_wsS RX5 59 yX5_isBelow wsX5_isBelow) := goodIn_app (goodIn_of _ (by decide +kernel)) ggX5_isRoot_X5_isBelow
theorem dX5_isRoot_0 : decode cX5_isRoot 0 = .ok (.aload_n 0, 1) := by decide +kernel
theorem dX5_isRoot_1 : decode cX5_isRoot 1 = .ok (.iload_n 1, 1) := by decide +kernel
theorem dX5_isRoot_2 : decode cX5_isRoot 2 = .ok (.invokevirtual 93, 3) := by decide +kernel
theorem dX5_isRoot_5 : decode cX5_isRoot 5 = .ok (.ifCond .eq 23, 3) := by decide +kernel
theorem dX5_isRoot_8 : decode cX5_isRoot 8 = .ok (.iload_n 2, 1) := by decide +kernel
theorem dX5_isRoot_9 : decode cX5_isRoot 9 = .ok (.aload_n 0, 1) := by decide +kernel
theorem dX5_isRoot_10 : decode cX5_isRoot 10 = .ok (.getfield 27, 3) := by decide +kernel
theorem dX5_isRoot_13 : decode cX5_isRoot 13 = .ok (.getfield 99, 3) := by decide +kernel
theorem dX5_isRoot_16 : decode cX5_isRoot 16 = .ok (.iload_n 1, 1) := by decide +kernel
theorem dX5_isRoot_17 : decode cX5_isRoot 17 = .ok (.iaload, 1) := by decide +kernel
theorem dX5_isRoot_18 : decode cX5_isRoot 18 = .ok (.invokestatic 59, 3) := by decide +kernel
theorem dX5_isRoot_21 : decode cX5_isRoot 21 = .ok (.ifCond .eq 7, 3) := by decide +kernel
theorem dX5_isRoot_24 : decode cX5_isRoot 24 = .ok (.iconst 1, 1) := by decide +kernel
theorem dX5_isRoot_25 : decode cX5_isRoot 25 = .ok (.goto 4, 3) := by decide +kernel
theorem dX5_isRoot_28 : decode cX5_isRoot 28 = .ok (.iconst 0, 1) := by decide +kernel
theorem dX5_isRoot_29 : decode cX5_isRoot 29 = .ok (.ireturn, 1) := by decide +kernel
theorem dX5_failed_0 : decode cX5_failed 0 = .ok (.aload_n 0, 1) := by decide +kernel
theorem dX5_failed_1 : decode cX5_failed 1 = .ok (.iload_n 1, 1) := by decide +kernel
theorem dX5_failed_2 : decode cX5_failed 2 = .ok (.putfield 51, 3) := by decide +kernel
theorem dX5_failed_5 : decode cX5_failed 5 = .ok (.bipush (-10), 2) := by decide +kernel
theorem dX5_failed_7 : decode cX5_failed 7 = .ok (.iload_n 1, 1) := by decide +kernel
theorem dX5_failed_8 : decode cX5_failed 8 = .ok (.isub, 1) := by decide +kernel
theorem dX5_failed_9 : decode cX5_failed 9 = .ok (.ireturn, 1) := by decide +kernel
set_option maxRecDepth 20000 in
theorem ggX5_faultOfCells_X2_hasCells : GoodIn wsX5_faultOfCells wsX2_hasCells := goodIn_r _ [6, 7, 8, 9] (by decide +kernel) (by decide +kernel)
set_option maxRecDepth 20000 in
theorem gX5_faultOfCells_X2_hasCells : GoodIn wsX5_faultOfCells (wsV RX5 200 RX2 yX2_hasCells wsX2_hasCells) := goodIn_app (goodIn_of _ (by decide +kernel)) ggX5_faultOfCells_X2_hasCells
theorem dX5_faultOfCells_0 : decode cX5_faultOfCells 0 = .ok (.aload_n 0, 1) := by decide +kernel
theorem dX5_faultOfCells_1 : decode cX5_faultOfCells 1 = .ok (.ifnonnull 5, 3) := by decide +kernel
theorem dX5_faultOfCells_4 : decode cX5_faultOfCells 4 = .ok (.iconst 1, 1) := by decide +kernel
theorem dX5_faultOfCells_5 : decode cX5_faultOfCells 5 = .ok (.ireturn, 1) := by decide +kernel
theorem dX5_faultOfCells_6 : decode cX5_faultOfCells 6 = .ok (.aload_n 0, 1) := by decide +kernel
theorem dX5_faultOfCells_7 : decode cX5_faultOfCells 7 = .ok (.getfield 197, 3) := by decide +kernel
theorem dX5_faultOfCells_10 : decode cX5_faultOfCells 10 = .ok (.iload_n 1, 1) := by decide +kernel
theorem dX5_faultOfCells_11 : decode cX5_faultOfCells 11 = .ok (.if_icmp .eq 5, 3) := by decide +kernel
theorem dX5_faultOfCells_14 : decode cX5_faultOfCells 14 = .ok (.iconst 2, 1) := by decide +kernel
theorem dX5_faultOfCells_15 : decode cX5_faultOfCells 15 = .ok (.ireturn, 1) := by decide +kernel
theorem dX5_faultOfCells_16 : decode cX5_faultOfCells 16 = .ok (.iload_n 3, 1) := by decide +kernel
theorem dX5_faultOfCells_17 : decode cX5_faultOfCells 17 = .ok (.ifCond .ge 5, 3) := by decide +kernel
theorem dX5_faultOfCells_20 : decode cX5_faultOfCells 20 = .ok (.iconst 4, 1) := by decide +kernel
theorem dX5_faultOfCells_21 : decode cX5_faultOfCells 21 = .ok (.ireturn, 1) := by decide +kernel
theorem dX5_faultOfCells_22 : decode cX5_faultOfCells 22 = .ok (.aload_n 0, 1) := by decide +kernel
theorem dX5_faultOfCells_23 : decode cX5_faultOfCells 23 = .ok (.iload_n 2, 1) := by decide +kernel
theorem dX5_faultOfCells_24 : decode cX5_faultOfCells 24 = .ok (.iload_n 3, 1) := by decide +kernel
theorem dX5_faultOfCells_25 : decode cX5_faultOfCells 25 = .ok (.invokevirtual 200, 3) := by decide +kernel
theorem dX5_faultOfCells_28 : decode cX5_faultOfCells 28 = .ok (.ifCond .eq 7, 3) := by decide +kernel
theorem dX5_faultOfCells_31 : decode cX5_faultOfCells 31 = .ok (.iconst 0, 1) := by decide +kernel
theorem dX5_faultOfCells_32 : decode cX5_faultOfCells 32 = .ok (.goto 4, 3) := by decide +kernel
theorem dX5_faultOfCells_35 : decode cX5_faultOfCells 35 = .ok (.iconst 3, 1) := by decide +kernel
theorem dX5_faultOfCells_36 : decode cX5_faultOfCells 36 = .ok (.ireturn, 1) := by decide +kernel
theorem dX6_init_0 : decode cX6_init 0 = .ok (.aload_n 0, 1) := by decide +kernel
theorem dX6_init_1 : decode cX6_init 1 = .ok (.invokespecial 1, 3) := by decide +kernel
theorem dX6_init_4 : decode cX6_init 4 = .ok (.aload_n 0, 1) := by decide +kernel
theorem dX6_init_5 : decode cX6_init 5 = .ok (.iconst 4, 1) := by decide +kernel
theorem dX6_init_6 : decode cX6_init 6 = .ok (.newarray .int, 2) := by decide +kernel
theorem dX6_init_8 : decode cX6_init 8 = .ok (.putfield 7, 3) := by decide +kernel
theorem dX6_init_11 : decode cX6_init 11 = .ok (.aload_n 0, 1) := by decide +kernel
theorem dX6_init_12 : decode cX6_init 12 = .ok (.bipush 12, 2) := by decide +kernel
theorem dX6_init_14 : decode cX6_init 14 = .ok (.newarray .int, 2) := by decide +kernel
theorem dX6_init_16 : decode cX6_init 16 = .ok (.putfield 13, 3) := by decide +kernel
theorem dX6_init_19 : decode cX6_init 19 = .ok (.aload_n 0, 1) := by decide +kernel
theorem dX6_init_20 : decode cX6_init 20 = .ok (.iconst 4, 1) := by decide +kernel
theorem dX6_init_21 : decode cX6_init 21 = .ok (.newarray .int, 2) := by decide +kernel
theorem dX6_init_23 : decode cX6_init 23 = .ok (.putfield 16, 3) := by decide +kernel
theorem dX6_init_26 : decode cX6_init 26 = .ok (.aload_n 0, 1) := by decide +kernel
theorem dX6_init_27 : decode cX6_init 27 = .ok (.bipush 12, 2) := by decide +kernel
theorem dX6_init_29 : decode cX6_init 29 = .ok (.newarray .int, 2) := by decide +kernel
theorem dX6_init_31 : decode cX6_init 31 = .ok (.putfield 19, 3) := by decide +kernel
theorem dX6_init_34 : decode cX6_init 34 = .ok (.aload_n 0, 1) := by decide +kernel
theorem dX6_init_35 : decode cX6_init 35 = .ok (.bipush 8, 2) := by decide +kernel
theorem dX6_init_37 : decode cX6_init 37 = .ok (.newarray .long, 2) := by decide +kernel
theorem dX6_init_39 : decode cX6_init 39 = .ok (.putfield 22, 3) := by decide +kernel
theorem dX6_init_42 : decode cX6_init 42 = .ok (.aload_n 0, 1) := by decide +kernel
theorem dX6_init_43 : decode cX6_init 43 = .ok (.bipush 8, 2) := by decide +kernel
theorem dX6_init_45 : decode cX6_init 45 = .ok (.newarray .long, 2) := by decide +kernel
theorem dX6_init_47 : decode cX6_init 47 = .ok (.putfield 26, 3) := by decide +kernel
theorem dX6_init_50 : decode cX6_init 50 = .ok (.aload_n 0, 1) := by decide +kernel
theorem dX6_init_51 : decode cX6_init 51 = .ok (.bipush 8, 2) := by decide +kernel
theorem dX6_init_53 : decode cX6_init 53 = .ok (.newarray .long, 2) := by decide +kernel
theorem dX6_init_55 : decode cX6_init 55 = .ok (.putfield 29, 3) := by decide +kernel
theorem dX6_init_58 : decode cX6_init 58 = .ok (.aload_n 0, 1) := by decide +kernel
theorem dX6_init_59 : decode cX6_init 59 = .ok (.bipush 8, 2) := by decide +kernel
theorem dX6_init_61 : decode cX6_init 61 = .ok (.newarray .long, 2) := by decide +kernel
theorem dX6_init_63 : decode cX6_init 63 = .ok (.putfield 32, 3) := by decide +kernel
theorem dX6_init_66 : decode cX6_init 66 = .ok (.aload_n 0, 1) := by decide +kernel
theorem dX6_init_67 : decode cX6_init 67 = .ok (.bipush 12, 2) := by decide +kernel
theorem dX6_init_69 : decode cX6_init 69 = .ok (.newarray .int, 2) := by decide +kernel
theorem dX6_init_71 : decode cX6_init 71 = .ok (.putfield 35, 3) := by decide +kernel
theorem dX6_init_74 : decode cX6_init 74 = .ok (.aload_n 0, 1) := by decide +kernel
theorem dX6_init_75 : decode cX6_init 75 = .ok (.bipush 17, 2) := by decide +kernel
theorem dX6_init_77 : decode cX6_init 77 = .ok (.newarray .int, 2) := by decide +kernel
theorem dX6_init_79 : decode cX6_init 79 = .ok (.putfield 38, 3) := by decide +kernel
theorem dX6_init_82 : decode cX6_init 82 = .ok (.aload_n 0, 1) := by decide +kernel
theorem dX6_init_83 : decode cX6_init 83 = .ok (.bipush 17, 2) := by decide +kernel
theorem dX6_init_85 : decode cX6_init 85 = .ok (.newarray .int, 2) := by decide +kernel
theorem dX6_init_87 : decode cX6_init 87 = .ok (.putfield 41, 3) := by decide +kernel
theorem dX6_init_90 : decode cX6_init 90 = .ok (.aload_n 0, 1) := by decide +kernel
theorem dX6_init_91 : decode cX6_init 91 = .ok (.bipush 8, 2) := by decide +kernel
theorem dX6_init_93 : decode cX6_init 93 = .ok (.newarray .int, 2) := by decide +kernel
theorem dX6_init_95 : decode cX6_init 95 = .ok (.putfield 44, 3) := by decide +kernel
theorem dX6_init_98 : decode cX6_init 98 = .ok (.aload_n 0, 1) := by decide +kernel
theorem dX6_init_99 : decode cX6_init 99 = .ok (.bipush 8, 2) := by decide +kernel
theorem dX6_init_101 : decode cX6_init 101 = .ok (.newarray .int, 2) := by decide +kernel
theorem dX6_init_103 : decode cX6_init 103 = .ok (.putfield 47, 3) := by decide +kernel
theorem dX6_init_106 : decode cX6_init 106 = .ok (.aload_n 0, 1) := by decide +kernel
theorem dX6_init_107 : decode cX6_init 107 = .ok (.bipush 8, 2) := by decide +kernel
theorem dX6_init_109 : decode cX6_init 109 = .ok (.newarray .int, 2) := by decide +kernel
theorem dX6_init_111 : decode cX6_init 111 = .ok (.putfield 50, 3) := by decide +kernel
theorem dX6_init_114 : decode cX6_init 114 = .ok (.aload_n 0, 1) := by decide +kernel
theorem dX6_init_115 : decode cX6_init 115 = .ok (.iconst 4, 1) := by decide +kernel
theorem dX6_init_116 : decode cX6_init 116 = .ok (.newarray .int, 2) := by decide +kernel
theorem dX6_init_118 : decode cX6_init 118 = .ok (.putfield 53, 3) := by decide +kernel
theorem dX6_init_121 : decode cX6_init 121 = .ok (.aload_n 0, 1) := by decide +kernel
theorem dX6_init_122 : decode cX6_init 122 = .ok (.iconst 4, 1) := by decide +kernel
theorem dX6_init_123 : decode cX6_init 123 = .ok (.newarray .int, 2) := by decide +kernel
theorem dX6_init_125 : decode cX6_init 125 = .ok (.putfield 56, 3) := by decide +kernel
theorem dX6_init_128 : decode cX6_init 128 = .ok (.aload_n 0, 1) := by decide +kernel
theorem dX6_init_129 : decode cX6_init 129 = .ok (.sipush 240, 3) := by decide +kernel
theorem dX6_init_132 : decode cX6_init 132 = .ok (.newarray .int, 2) := by decide +kernel
theorem dX6_init_134 : decode cX6_init 134 = .ok (.putfield 59, 3) := by decide +kernel
theorem dX6_init_137 : decode cX6_init 137 = .ok (.aload_n 0, 1) := by decide +kernel
theorem dX6_init_138 : decode cX6_init 138 = .ok (.bipush 60, 2) := by decide +kernel
theorem dX6_init_140 : decode cX6_init 140 = .ok (.newarray .int, 2) := by decide +kernel
theorem dX6_init_142 : decode cX6_init 142 = .ok (.putfield 62, 3) := by decide +kernel
theorem dX6_init_145 : decode cX6_init 145 = .ok (.iconst 0, 1) := by decide +kernel
theorem dX6_init_146 : decode cX6_init 146 = .ok (.istore_n 1, 1) := by decide +kernel
theorem dX6_init_147 : decode cX6_init 147 = .ok (.iload_n 1, 1) := by decide +kernel
theorem dX6_init_148 : decode cX6_init 148 = .ok (.iconst 4, 1) := by decide +kernel
theorem dX6_init_149 : decode cX6_init 149 = .ok (.if_icmp .ge 16, 3) := by decide +kernel
theorem dX6_init_152 : decode cX6_init 152 = .ok (.aload_n 0, 1) := by decide +kernel
theorem dX6_init_153 : decode cX6_init 153 = .ok (.getfield 53, 3) := by decide +kernel
theorem dX6_init_156 : decode cX6_init 156 = .ok (.iload_n 1, 1) := by decide +kernel
theorem dX6_init_157 : decode cX6_init 157 = .ok (.iconst (-1), 1) := by decide +kernel
theorem dX6_init_158 : decode cX6_init 158 = .ok (.iastore, 1) := by decide +kernel
theorem dX6_init_159 : decode cX6_init 159 = .ok (.iinc 1 1, 3) := by decide +kernel
theorem dX6_init_162 : decode cX6_init 162 = .ok (.goto (-15), 3) := by decide +kernel
theorem dX6_init_165 : decode cX6_init 165 = .ok (.return_, 1) := by decide +kernel
theorem dX6_in_0 : decode cX6_in 0 = .ok (.lload_n 0, 1) := by decide +kernel
theorem dX6_in_1 : decode cX6_in 1 = .ok (.lload_n 2, 1) := by decide +kernel
theorem dX6_in_2 : decode cX6_in 2 = .ok (.lcmp, 1) := by decide +kernel
theorem dX6_in_3 : decode cX6_in 3 = .ok (.ifCond .lt 14, 3) := by decide +kernel
theorem dX6_in_6 : decode cX6_in 6 = .ok (.lload_n 0, 1) := by decide +kernel
theorem dX6_in_7 : decode cX6_in 7 = .ok (.lload 4, 2) := by decide +kernel
theorem dX6_in_9 : decode cX6_in 9 = .ok (.lcmp, 1) := by decide +kernel
theorem dX6_in_10 : decode cX6_in 10 = .ok (.ifCond .gt 7, 3) := by decide +kernel
theorem dX6_in_13 : decode cX6_in 13 = .ok (.iconst 1, 1) := by decide +kernel
theorem dX6_in_14 : decode cX6_in 14 = .ok (.goto 4, 3) := by decide +kernel
theorem dX6_in_17 : decode cX6_in 17 = .ok (.iconst 0, 1) := by decide +kernel
theorem dX6_in_18 : decode cX6_in 18 = .ok (.ireturn, 1) := by decide +kernel
theorem dX6_lost_0 : decode cX6_lost 0 = .ok (.ldc2_w 65, 3) := by decide +kernel
theorem dX6_lost_3 : decode cX6_lost 3 = .ok (.lreturn, 1) := by decide +kernel
theorem dX6_share_0 : decode cX6_share 0 = .ok (.lload_n 0, 1) := by decide +kernel
theorem dX6_share_1 : decode cX6_share 1 = .ok (.lstore 5, 2) := by decide +kernel
theorem dX6_share_3 : decode cX6_share 3 = .ok (.lload_n 2, 1) := by decide +kernel
theorem dX6_share_4 : decode cX6_share 4 = .ok (.lstore 7, 2) := by decide +kernel
theorem dX6_share_6 : decode cX6_share 6 = .ok (.lload 7, 2) := by decide +kernel
theorem dX6_share_8 : decode cX6_share 8 = .ok (.lconst 0, 1) := by decide +kernel
theorem dX6_share_9 : decode cX6_share 9 = .ok (.lcmp, 1) := by decide +kernel
theorem dX6_share_10 : decode cX6_share 10 = .ok (.ifCond .eq 21, 3) := by decide +kernel
theorem dX6_share_13 : decode cX6_share 13 = .ok (.lload 5, 2) := by decide +kernel
theorem dX6_share_15 : decode cX6_share 15 = .ok (.lload 7, 2) := by decide +kernel
theorem dX6_share_17 : decode cX6_share 17 = .ok (.lrem, 1) := by decide +kernel
theorem dX6_share_18 : decode cX6_share 18 = .ok (.lstore 9, 2) := by decide +kernel
theorem dX6_share_20 : decode cX6_share 20 = .ok (.lload 7, 2) := by decide +kernel
theorem dX6_share_22 : decode cX6_share 22 = .ok (.lstore 5, 2) := by decide +kernel
theorem dX6_share_24 : decode cX6_share 24 = .ok (.lload 9, 2) := by decide +kernel
theorem dX6_share_26 : decode cX6_share 26 = .ok (.lstore 7, 2) := by decide +kernel
theorem dX6_share_28 : decode cX6_share 28 = .ok (.goto (-22), 3) := by decide +kernel
theorem dX6_share_31 : decode cX6_share 31 = .ok (.iload 4, 2) := by decide +kernel
theorem dX6_share_33 : decode cX6_share 33 = .ok (.ifCond .ne 7, 3) := by decide +kernel
theorem dX6_share_36 : decode cX6_share 36 = .ok (.lload_n 0, 1) := by decide +kernel
theorem dX6_share_37 : decode cX6_share 37 = .ok (.goto 4, 3) := by decide +kernel
theorem dX6_share_40 : decode cX6_share 40 = .ok (.lload_n 2, 1) := by decide +kernel
theorem dX6_share_41 : decode cX6_share 41 = .ok (.lload 5, 2) := by decide +kernel
theorem dX6_share_43 : decode cX6_share 43 = .ok (.ldiv, 1) := by decide +kernel
theorem dX6_share_44 : decode cX6_share 44 = .ok (.lreturn, 1) := by decide +kernel
theorem dX6_refused_0 : decode cX6_refused 0 = .ok (.aload_n 0, 1) := by decide +kernel
theorem dX6_refused_1 : decode cX6_refused 1 = .ok (.iconst 0, 1) := by decide +kernel
theorem dX6_refused_2 : decode cX6_refused 2 = .ok (.putfield 67, 3) := by decide +kernel
theorem dX6_refused_5 : decode cX6_refused 5 = .ok (.iload_n 1, 1) := by decide +kernel
theorem dX6_refused_6 : decode cX6_refused 6 = .ok (.ireturn, 1) := by decide +kernel
theorem dX6_failed_0 : decode cX6_failed 0 = .ok (.aload_n 0, 1) := by decide +kernel
theorem dX6_failed_1 : decode cX6_failed 1 = .ok (.iload_n 1, 1) := by decide +kernel
theorem dX6_failed_2 : decode cX6_failed 2 = .ok (.putfield 67, 3) := by decide +kernel
theorem dX6_failed_5 : decode cX6_failed 5 = .ok (.bipush (-10), 2) := by decide +kernel
theorem dX6_failed_7 : decode cX6_failed 7 = .ok (.iload_n 1, 1) := by decide +kernel
theorem dX6_failed_8 : decode cX6_failed 8 = .ok (.isub, 1) := by decide +kernel
theorem dX6_failed_9 : decode cX6_failed 9 = .ok (.ireturn, 1) := by decide +kernel
set_option maxRecDepth 20000 in
theorem ggX6_failedLong_X6_lost : GoodIn wsX6_failedLong wsX6_lost := goodIn_r _ [5, 6] (by decide +kernel) (by decide +kernel)
set_option maxRecDepth 20000 in
theorem gX6_failedLong_X6_lost : GoodIn wsX6_failedLong (va_wsS RX6 71 yX6_lost wsX6_lost) := goodIn_app (goodIn_of _ (by decide +kernel)) ggX6_failedLong_X6_lost
theorem dX6_failedLong_0 : decode cX6_failedLong 0 = .ok (.aload_n 0, 1) := by decide +kernel
theorem dX6_failedLong_1 : decode cX6_failedLong 1 = .ok (.iload_n 1, 1) := by decide +kernel
theorem dX6_failedLong_2 : decode cX6_failedLong 2 = .ok (.putfield 67, 3) := by decide +kernel
theorem dX6_failedLong_5 : decode cX6_failedLong 5 = .ok (.invokestatic 71, 3) := by decide +kernel
theorem dX6_failedLong_8 : decode cX6_failedLong 8 = .ok (.lreturn, 1) := by decide +kernel
set_option maxRecDepth 20000 in
theorem ggX6_noPolynomial_X6_in : GoodIn wsX6_noPolynomial wsX6_in := goodIn_r _ [5] (by decide +kernel) (by decide +kernel)
set_option maxRecDepth 20000 in
theorem gX6_noPolynomial_X6_in : GoodIn wsX6_noPolynomial (va_wsS RX6 78 yX6_in wsX6_in) := goodIn_app (goodIn_of _ (by decide +kernel)) ggX6_noPolynomial_X6_in
theorem dX6_noPolynomial_0 : decode cX6_noPolynomial 0 = .ok (.iload_n 1, 1) := by decide +kernel
theorem dX6_noPolynomial_1 : decode cX6_noPolynomial 1 = .ok (.i2l, 1) := by decide +kernel
theorem dX6_noPolynomial_2 : decode cX6_noPolynomial 2 = .ok (.lconst 0, 1) := by decide +kernel
theorem dX6_noPolynomial_3 : decode cX6_noPolynomial 3 = .ok (.aload_n 0, 1) := by decide +kernel
theorem dX6_noPolynomial_4 : decode cX6_noPolynomial 4 = .ok (.getfield 75, 3) := by decide +kernel
theorem dX6_noPolynomial_7 : decode cX6_noPolynomial 7 = .ok (.i2l, 1) := by decide +kernel
theorem dX6_noPolynomial_8 : decode cX6_noPolynomial 8 = .ok (.lconst 1, 1) := by decide +kernel
theorem dX6_noPolynomial_9 : decode cX6_noPolynomial 9 = .ok (.lsub, 1) := by decide +kernel
theorem dX6_noPolynomial_10 : decode cX6_noPolynomial 10 = .ok (.invokestatic 78, 3) := by decide +kernel
theorem dX6_noPolynomial_13 : decode cX6_noPolynomial 13 = .ok (.ifCond .ne 7, 3) := by decide +kernel
theorem dX6_noPolynomial_16 : decode cX6_noPolynomial 16 = .ok (.iconst 1, 1) := by decide +kernel
theorem dX6_noPolynomial_17 : decode cX6_noPolynomial 17 = .ok (.goto 4, 3) := by decide +kernel
theorem dX6_noPolynomial_20 : decode cX6_noPolynomial 20 = .ok (.iconst 0, 1) := by decide +kernel
theorem dX6_noPolynomial_21 : decode cX6_noPolynomial 21 = .ok (.ireturn, 1) := by decide +kernel
theorem dX6_codeAt_0 : decode cX6_codeAt 0 = .ok (.aload_n 0, 1) := by decide +kernel
theorem dX6_codeAt_1 : decode cX6_codeAt 1 = .ok (.getfield 82, 3) := by decide +kernel
theorem dX6_codeAt_4 : decode cX6_codeAt 4 = .ok (.iload_n 2, 1) := by decide +kernel
theorem dX6_codeAt_5 : decode cX6_codeAt 5 = .ok (.if_icmp .ge 17, 3) := by decide +kernel
theorem dX6_codeAt_8 : decode cX6_codeAt 8 = .ok (.aload_n 0, 1) := by decide +kernel
theorem dX6_codeAt_9 : decode cX6_codeAt 9 = .ok (.getfield 59, 3) := by decide +kernel
theorem dX6_codeAt_12 : decode cX6_codeAt 12 = .ok (.iload_n 1, 1) := by decide +kernel
theorem dX6_codeAt_13 : decode cX6_codeAt 13 = .ok (.aload_n 0, 1) := by decide +kernel
theorem dX6_codeAt_14 : decode cX6_codeAt 14 = .ok (.getfield 82, 3) := by decide +kernel
theorem dX6_codeAt_17 : decode cX6_codeAt 17 = .ok (.iadd, 1) := by decide +kernel
theorem dX6_codeAt_18 : decode cX6_codeAt 18 = .ok (.iaload, 1) := by decide +kernel
theorem dX6_codeAt_19 : decode cX6_codeAt 19 = .ok (.goto 5, 3) := by decide +kernel
theorem dX6_codeAt_22 : decode cX6_codeAt 22 = .ok (.bipush (-9), 2) := by decide +kernel
theorem dX6_codeAt_24 : decode cX6_codeAt 24 = .ok (.ireturn, 1) := by decide +kernel
set_option maxRecDepth 20000 in
theorem ggX6_readsNumber_X6_codeAt : GoodIn wsX6_readsNumber wsX6_codeAt := goodIn_r _ [9, 1, 10, 14, 15, 16, 17, 18, 19, 20, 21, 22, 23, 24, 25, 26, 27, 28, 29, 30, 31, 32, 33, 34, 35, 36, 37, 38, 39, 40, 41, 42, 43] (by decide +kernel) (by decide +kernel)
set_option maxRecDepth 20000 in
theorem gX6_readsNumber_X6_codeAt : GoodIn wsX6_readsNumber (wsV RX6 85 RX6 yX6_codeAt wsX6_codeAt) := goodIn_app (goodIn_of _ (by decide +kernel)) ggX6_readsNumber_X6_codeAt
set_option maxRecDepth 20000 in
theorem ggX6_readsNumber_X6_in : GoodIn wsX6_readsNumber wsX6_in := goodIn_r _ [13] (by decide +kernel) (by decide +kernel)
set_option maxRecDepth 20000 in
theorem gX6_readsNumber_X6_in : GoodIn wsX6_readsNumber (va_wsS RX6 78 yX6_in wsX6_in) := goodIn_app (goodIn_of _ (by decide +kernel)) ggX6_readsNumber_X6_in
theorem dX6_readsNumber_0 : decode cX6_readsNumber 0 = .ok (.aload_n 0, 1) := by decide +kernel
theorem dX6_readsNumber_1 : decode cX6_readsNumber 1 = .ok (.iload_n 1, 1) := by decide +kernel
theorem dX6_readsNumber_2 : decode cX6_readsNumber 2 = .ok (.iload_n 2, 1) := by decide +kernel
theorem dX6_readsNumber_3 : decode cX6_readsNumber 3 = .ok (.invokevirtual 85, 3) := by decide +kernel
theorem dX6_readsNumber_6 : decode cX6_readsNumber 6 = .ok (.bipush 45, 2) := by decide +kernel
theorem dX6_readsNumber_8 : decode cX6_readsNumber 8 = .ok (.if_icmp .ne 7, 3) := by decide +kernel
theorem dX6_readsNumber_11 : decode cX6_readsNumber 11 = .ok (.iconst 1, 1) := by decide +kernel
theorem dX6_readsNumber_12 : decode cX6_readsNumber 12 = .ok (.goto 4, 3) := by decide +kernel
theorem dX6_readsNumber_15 : decode cX6_readsNumber 15 = .ok (.iconst 0, 1) := by decide +kernel
theorem dX6_readsNumber_16 : decode cX6_readsNumber 16 = .ok (.istore 4, 2) := by decide +kernel
theorem dX6_readsNumber_18 : decode cX6_readsNumber 18 = .ok (.aload_n 0, 1) := by decide +kernel
theorem dX6_readsNumber_19 : decode cX6_readsNumber 19 = .ok (.dup, 1) := by decide +kernel
theorem dX6_readsNumber_20 : decode cX6_readsNumber 20 = .ok (.getfield 82, 3) := by decide +kernel
theorem dX6_readsNumber_23 : decode cX6_readsNumber 23 = .ok (.iload 4, 2) := by decide +kernel
theorem dX6_readsNumber_25 : decode cX6_readsNumber 25 = .ok (.ifCond .eq 7, 3) := by decide +kernel
theorem dX6_readsNumber_28 : decode cX6_readsNumber 28 = .ok (.iconst 1, 1) := by decide +kernel
theorem dX6_readsNumber_29 : decode cX6_readsNumber 29 = .ok (.goto 4, 3) := by decide +kernel
theorem dX6_readsNumber_32 : decode cX6_readsNumber 32 = .ok (.iconst 0, 1) := by decide +kernel
theorem dX6_readsNumber_33 : decode cX6_readsNumber 33 = .ok (.iadd, 1) := by decide +kernel
theorem dX6_readsNumber_34 : decode cX6_readsNumber 34 = .ok (.putfield 82, 3) := by decide +kernel
theorem dX6_readsNumber_37 : decode cX6_readsNumber 37 = .ok (.aload_n 0, 1) := by decide +kernel
theorem dX6_readsNumber_38 : decode cX6_readsNumber 38 = .ok (.iload_n 1, 1) := by decide +kernel
theorem dX6_readsNumber_39 : decode cX6_readsNumber 39 = .ok (.iload_n 2, 1) := by decide +kernel
theorem dX6_readsNumber_40 : decode cX6_readsNumber 40 = .ok (.invokevirtual 85, 3) := by decide +kernel
theorem dX6_readsNumber_43 : decode cX6_readsNumber 43 = .ok (.bipush 48, 2) := by decide +kernel
theorem dX6_readsNumber_45 : decode cX6_readsNumber 45 = .ok (.isub, 1) := by decide +kernel
theorem dX6_readsNumber_46 : decode cX6_readsNumber 46 = .ok (.istore 5, 2) := by decide +kernel
theorem dX6_readsNumber_48 : decode cX6_readsNumber 48 = .ok (.iload 5, 2) := by decide +kernel
theorem dX6_readsNumber_50 : decode cX6_readsNumber 50 = .ok (.i2l, 1) := by decide +kernel
theorem dX6_readsNumber_51 : decode cX6_readsNumber 51 = .ok (.lconst 0, 1) := by decide +kernel
theorem dX6_readsNumber_52 : decode cX6_readsNumber 52 = .ok (.ldc2_w 89, 3) := by decide +kernel
theorem dX6_readsNumber_55 : decode cX6_readsNumber 55 = .ok (.invokestatic 78, 3) := by decide +kernel
theorem dX6_readsNumber_58 : decode cX6_readsNumber 58 = .ok (.ifCond .ne 5, 3) := by decide +kernel
theorem dX6_readsNumber_61 : decode cX6_readsNumber 61 = .ok (.iconst 0, 1) := by decide +kernel
theorem dX6_readsNumber_62 : decode cX6_readsNumber 62 = .ok (.ireturn, 1) := by decide +kernel
theorem dX6_readsNumber_63 : decode cX6_readsNumber 63 = .ok (.aload_n 0, 1) := by decide +kernel
theorem dX6_readsNumber_64 : decode cX6_readsNumber 64 = .ok (.getfield 19, 3) := by decide +kernel
theorem dX6_readsNumber_67 : decode cX6_readsNumber 67 = .ok (.iconst 3, 1) := by decide +kernel
theorem dX6_readsNumber_68 : decode cX6_readsNumber 68 = .ok (.aload_n 0, 1) := by decide +kernel
theorem dX6_readsNumber_69 : decode cX6_readsNumber 69 = .ok (.getfield 91, 3) := by decide +kernel
theorem dX6_readsNumber_72 : decode cX6_readsNumber 72 = .ok (.imul, 1) := by decide +kernel
theorem dX6_readsNumber_73 : decode cX6_readsNumber 73 = .ok (.iload_n 3, 1) := by decide +kernel
theorem dX6_readsNumber_74 : decode cX6_readsNumber 74 = .ok (.iadd, 1) := by decide +kernel
theorem dX6_readsNumber_75 : decode cX6_readsNumber 75 = .ok (.iload 4, 2) := by decide +kernel
theorem dX6_readsNumber_77 : decode cX6_readsNumber 77 = .ok (.ifCond .eq 9, 3) := by decide +kernel
theorem dX6_readsNumber_80 : decode cX6_readsNumber 80 = .ok (.iload 5, 2) := by decide +kernel
theorem dX6_readsNumber_82 : decode cX6_readsNumber 82 = .ok (.ineg, 1) := by decide +kernel
theorem dX6_readsNumber_83 : decode cX6_readsNumber 83 = .ok (.goto 5, 3) := by decide +kernel
theorem dX6_readsNumber_86 : decode cX6_readsNumber 86 = .ok (.iload 5, 2) := by decide +kernel
theorem dX6_readsNumber_88 : decode cX6_readsNumber 88 = .ok (.iastore, 1) := by decide +kernel
theorem dX6_readsNumber_89 : decode cX6_readsNumber 89 = .ok (.aload_n 0, 1) := by decide +kernel
theorem dX6_readsNumber_90 : decode cX6_readsNumber 90 = .ok (.dup, 1) := by decide +kernel
theorem dX6_readsNumber_91 : decode cX6_readsNumber 91 = .ok (.getfield 82, 3) := by decide +kernel
theorem dX6_readsNumber_94 : decode cX6_readsNumber 94 = .ok (.iconst 1, 1) := by decide +kernel
theorem dX6_readsNumber_95 : decode cX6_readsNumber 95 = .ok (.iadd, 1) := by decide +kernel
theorem dX6_readsNumber_96 : decode cX6_readsNumber 96 = .ok (.putfield 82, 3) := by decide +kernel
theorem dX6_readsNumber_99 : decode cX6_readsNumber 99 = .ok (.iconst 1, 1) := by decide +kernel
theorem dX6_readsNumber_100 : decode cX6_readsNumber 100 = .ok (.ireturn, 1) := by decide +kernel
set_option maxRecDepth 20000 in
theorem ggX6_readsOne_X6_codeAt : GoodIn wsX6_readsOne wsX6_codeAt := goodIn_r _ [8, 2, 9, 19, 20, 21, 22, 23, 24, 25, 26, 27, 28, 29, 30, 31, 32, 33, 34, 35, 36, 37, 38, 39, 40, 41, 42, 43, 44, 45, 46, 47, 48] (by decide +kernel) (by decide +kernel)
set_option maxRecDepth 20000 in
theorem gX6_readsOne_X6_codeAt : GoodIn wsX6_readsOne (wsV RX6 85 RX6 yX6_codeAt wsX6_codeAt) := goodIn_app (goodIn_of _ (by decide +kernel)) ggX6_readsOne_X6_codeAt
set_option maxRecDepth 20000 in
theorem ggX6_readsOne_X6_readsNumber : GoodIn wsX6_readsOne wsX6_readsNumber := goodIn_r _ [13, 2, 14, 15, 1, 4, 5, 6, 7, 8, 9, 16, 17, 18, 19, 20, 21, 22, 23, 24, 25, 26, 27, 28, 29, 30, 31, 32, 33, 34, 35, 36, 37, 38, 39, 40, 41, 42, 43, 44, 45, 46, 47, 48] (by decide +kernel) (by decide +kernel)
set_option maxRecDepth 20000 in
theorem gX6_readsOne_X6_readsNumber : GoodIn wsX6_readsOne (wsV RX6 94 RX6 yX6_readsNumber wsX6_readsNumber) := goodIn_app (goodIn_of _ (by decide +kernel)) ggX6_readsOne_X6_readsNumber
theorem dX6_readsOne_0 : decode cX6_readsOne 0 = .ok (.aload_n 0, 1) := by decide +kernel
theorem dX6_readsOne_1 : decode cX6_readsOne 1 = .ok (.getfield 91, 3) := by decide +kernel
theorem dX6_readsOne_4 : decode cX6_readsOne 4 = .ok (.iconst 4, 1) := by decide +kernel
theorem dX6_readsOne_5 : decode cX6_readsOne 5 = .ok (.if_icmp .eq 14, 3) := by decide +kernel
theorem dX6_readsOne_8 : decode cX6_readsOne 8 = .ok (.aload_n 0, 1) := by decide +kernel
theorem dX6_readsOne_9 : decode cX6_readsOne 9 = .ok (.iload_n 1, 1) := by decide +kernel
theorem dX6_readsOne_10 : decode cX6_readsOne 10 = .ok (.iload_n 2, 1) := by decide +kernel
theorem dX6_readsOne_11 : decode cX6_readsOne 11 = .ok (.invokevirtual 85, 3) := by decide +kernel
theorem dX6_readsOne_14 : decode cX6_readsOne 14 = .ok (.bipush 59, 2) := by decide +kernel
theorem dX6_readsOne_16 : decode cX6_readsOne 16 = .ok (.if_icmp .eq 5, 3) := by decide +kernel
theorem dX6_readsOne_19 : decode cX6_readsOne 19 = .ok (.iconst 0, 1) := by decide +kernel
theorem dX6_readsOne_20 : decode cX6_readsOne 20 = .ok (.ireturn, 1) := by decide +kernel
theorem dX6_readsOne_21 : decode cX6_readsOne 21 = .ok (.aload_n 0, 1) := by decide +kernel
theorem dX6_readsOne_22 : decode cX6_readsOne 22 = .ok (.dup, 1) := by decide +kernel
theorem dX6_readsOne_23 : decode cX6_readsOne 23 = .ok (.getfield 82, 3) := by decide +kernel
theorem dX6_readsOne_26 : decode cX6_readsOne 26 = .ok (.iconst 1, 1) := by decide +kernel
theorem dX6_readsOne_27 : decode cX6_readsOne 27 = .ok (.iadd, 1) := by decide +kernel
theorem dX6_readsOne_28 : decode cX6_readsOne 28 = .ok (.putfield 82, 3) := by decide +kernel
theorem dX6_readsOne_31 : decode cX6_readsOne 31 = .ok (.aload_n 0, 1) := by decide +kernel
theorem dX6_readsOne_32 : decode cX6_readsOne 32 = .ok (.iload_n 1, 1) := by decide +kernel
theorem dX6_readsOne_33 : decode cX6_readsOne 33 = .ok (.iload_n 2, 1) := by decide +kernel
theorem dX6_readsOne_34 : decode cX6_readsOne 34 = .ok (.invokevirtual 85, 3) := by decide +kernel
theorem dX6_readsOne_37 : decode cX6_readsOne 37 = .ok (.istore_n 3, 1) := by decide +kernel
theorem dX6_readsOne_38 : decode cX6_readsOne 38 = .ok (.iload_n 3, 1) := by decide +kernel
theorem dX6_readsOne_39 : decode cX6_readsOne 39 = .ok (.bipush 112, 2) := by decide +kernel
theorem dX6_readsOne_41 : decode cX6_readsOne 41 = .ok (.if_icmp .eq 17, 3) := by decide +kernel
theorem dX6_readsOne_44 : decode cX6_readsOne 44 = .ok (.iload_n 3, 1) := by decide +kernel
theorem dX6_readsOne_45 : decode cX6_readsOne 45 = .ok (.bipush 109, 2) := by decide +kernel
theorem dX6_readsOne_47 : decode cX6_readsOne 47 = .ok (.if_icmp .eq 11, 3) := by decide +kernel
theorem dX6_readsOne_50 : decode cX6_readsOne 50 = .ok (.iload_n 3, 1) := by decide +kernel
theorem dX6_readsOne_51 : decode cX6_readsOne 51 = .ok (.bipush 115, 2) := by decide +kernel
theorem dX6_readsOne_53 : decode cX6_readsOne 53 = .ok (.if_icmp .eq 5, 3) := by decide +kernel
theorem dX6_readsOne_56 : decode cX6_readsOne 56 = .ok (.iconst 0, 1) := by decide +kernel
theorem dX6_readsOne_57 : decode cX6_readsOne 57 = .ok (.ireturn, 1) := by decide +kernel
theorem dX6_readsOne_58 : decode cX6_readsOne 58 = .ok (.aload_n 0, 1) := by decide +kernel
theorem dX6_readsOne_59 : decode cX6_readsOne 59 = .ok (.dup, 1) := by decide +kernel
theorem dX6_readsOne_60 : decode cX6_readsOne 60 = .ok (.getfield 82, 3) := by decide +kernel
theorem dX6_readsOne_63 : decode cX6_readsOne 63 = .ok (.iconst 1, 1) := by decide +kernel
theorem dX6_readsOne_64 : decode cX6_readsOne 64 = .ok (.iadd, 1) := by decide +kernel
theorem dX6_readsOne_65 : decode cX6_readsOne 65 = .ok (.putfield 82, 3) := by decide +kernel
theorem dX6_readsOne_68 : decode cX6_readsOne 68 = .ok (.iconst 1, 1) := by decide +kernel
theorem dX6_readsOne_69 : decode cX6_readsOne 69 = .ok (.istore 4, 2) := by decide +kernel
theorem dX6_readsOne_71 : decode cX6_readsOne 71 = .ok (.iconst 0, 1) := by decide +kernel
theorem dX6_readsOne_72 : decode cX6_readsOne 72 = .ok (.istore 5, 2) := by decide +kernel
theorem dX6_readsOne_74 : decode cX6_readsOne 74 = .ok (.iload 5, 2) := by decide +kernel
theorem dX6_readsOne_76 : decode cX6_readsOne 76 = .ok (.iconst 3, 1) := by decide +kernel
theorem dX6_readsOne_77 : decode cX6_readsOne 77 = .ok (.if_icmp .ge 24, 3) := by decide +kernel
theorem dX6_readsOne_80 : decode cX6_readsOne 80 = .ok (.iload 4, 2) := by decide +kernel
theorem dX6_readsOne_82 : decode cX6_readsOne 82 = .ok (.ifCond .eq 19, 3) := by decide +kernel
theorem dX6_readsOne_85 : decode cX6_readsOne 85 = .ok (.aload_n 0, 1) := by decide +kernel
theorem dX6_readsOne_86 : decode cX6_readsOne 86 = .ok (.iload_n 1, 1) := by decide +kernel
theorem dX6_readsOne_87 : decode cX6_readsOne 87 = .ok (.iload_n 2, 1) := by decide +kernel
theorem dX6_readsOne_88 : decode cX6_readsOne 88 = .ok (.iload 5, 2) := by decide +kernel
theorem dX6_readsOne_90 : decode cX6_readsOne 90 = .ok (.invokevirtual 94, 3) := by decide +kernel
theorem dX6_readsOne_93 : decode cX6_readsOne 93 = .ok (.istore 4, 2) := by decide +kernel
theorem dX6_readsOne_95 : decode cX6_readsOne 95 = .ok (.iinc 5 1, 3) := by decide +kernel
theorem dX6_readsOne_98 : decode cX6_readsOne 98 = .ok (.goto (-24), 3) := by decide +kernel
theorem dX6_readsOne_101 : decode cX6_readsOne 101 = .ok (.aload_n 0, 1) := by decide +kernel
theorem dX6_readsOne_102 : decode cX6_readsOne 102 = .ok (.getfield 16, 3) := by decide +kernel
theorem dX6_readsOne_105 : decode cX6_readsOne 105 = .ok (.aload_n 0, 1) := by decide +kernel
theorem dX6_readsOne_106 : decode cX6_readsOne 106 = .ok (.getfield 91, 3) := by decide +kernel
theorem dX6_readsOne_109 : decode cX6_readsOne 109 = .ok (.iload_n 3, 1) := by decide +kernel
theorem dX6_readsOne_110 : decode cX6_readsOne 110 = .ok (.bipush 112, 2) := by decide +kernel
theorem dX6_readsOne_112 : decode cX6_readsOne 112 = .ok (.if_icmp .ne 7, 3) := by decide +kernel
theorem dX6_readsOne_115 : decode cX6_readsOne 115 = .ok (.iconst 0, 1) := by decide +kernel
theorem dX6_readsOne_116 : decode cX6_readsOne 116 = .ok (.goto 14, 3) := by decide +kernel
theorem dX6_readsOne_119 : decode cX6_readsOne 119 = .ok (.iload_n 3, 1) := by decide +kernel
theorem dX6_readsOne_120 : decode cX6_readsOne 120 = .ok (.bipush 109, 2) := by decide +kernel
theorem dX6_readsOne_122 : decode cX6_readsOne 122 = .ok (.if_icmp .ne 7, 3) := by decide +kernel
theorem dX6_readsOne_125 : decode cX6_readsOne 125 = .ok (.iconst 1, 1) := by decide +kernel
theorem dX6_readsOne_126 : decode cX6_readsOne 126 = .ok (.goto 4, 3) := by decide +kernel
theorem dX6_readsOne_129 : decode cX6_readsOne 129 = .ok (.iconst 2, 1) := by decide +kernel
theorem dX6_readsOne_130 : decode cX6_readsOne 130 = .ok (.iastore, 1) := by decide +kernel
theorem dX6_readsOne_131 : decode cX6_readsOne 131 = .ok (.aload_n 0, 1) := by decide +kernel
theorem dX6_readsOne_132 : decode cX6_readsOne 132 = .ok (.dup, 1) := by decide +kernel
theorem dX6_readsOne_133 : decode cX6_readsOne 133 = .ok (.getfield 91, 3) := by decide +kernel
theorem dX6_readsOne_136 : decode cX6_readsOne 136 = .ok (.iload 4, 2) := by decide +kernel
theorem dX6_readsOne_138 : decode cX6_readsOne 138 = .ok (.ifCond .eq 7, 3) := by decide +kernel
theorem dX6_readsOne_141 : decode cX6_readsOne 141 = .ok (.iconst 1, 1) := by decide +kernel
theorem dX6_readsOne_142 : decode cX6_readsOne 142 = .ok (.goto 4, 3) := by decide +kernel
theorem dX6_readsOne_145 : decode cX6_readsOne 145 = .ok (.iconst 0, 1) := by decide +kernel
theorem dX6_readsOne_146 : decode cX6_readsOne 146 = .ok (.iadd, 1) := by decide +kernel
theorem dX6_readsOne_147 : decode cX6_readsOne 147 = .ok (.putfield 91, 3) := by decide +kernel
theorem dX6_readsOne_150 : decode cX6_readsOne 150 = .ok (.iload 4, 2) := by decide +kernel
theorem dX6_readsOne_152 : decode cX6_readsOne 152 = .ok (.ireturn, 1) := by decide +kernel
set_option maxRecDepth 20000 in
theorem ggX6_readsAll_X6_codeAt : GoodIn wsX6_readsAll wsX6_codeAt := goodIn_r _ [7, 1, 8, 23, 24, 25, 26, 27, 28, 29, 30, 31, 32, 33, 34, 35, 36, 37, 38, 39, 40, 41, 42, 43, 44, 45, 46, 47, 48, 49, 50, 51, 52] (by decide +kernel) (by decide +kernel)
set_option maxRecDepth 20000 in
theorem gX6_readsAll_X6_codeAt : GoodIn wsX6_readsAll (wsV RX6 85 RX6 yX6_codeAt wsX6_codeAt) := goodIn_app (goodIn_of _ (by decide +kernel)) ggX6_readsAll_X6_codeAt
set_option maxRecDepth 20000 in
theorem ggX6_readsAll_X6_readsOne : GoodIn wsX6_readsAll wsX6_readsOne := goodIn_r _ [12, 2, 1, 13, 3, 4, 5, 6, 7, 8, 14, 15, 16, 17, 18, 19, 20, 21, 22, 23, 24, 25, 26, 27, 28, 29, 30, 31, 32, 33, 34, 35, 36, 37, 38, 39, 40, 41, 42, 43, 44, 45, 46, 47, 48, 49, 50, 51, 52] (by decide +kernel) (by decide +kernel)
set_option maxRecDepth 20000 in
theorem gX6_readsAll_X6_readsOne : GoodIn wsX6_readsAll (wsV RX6 98 RX6 yX6_readsOne wsX6_readsOne) := goodIn_app (goodIn_of _ (by decide +kernel)) ggX6_readsAll_X6_readsOne
theorem dX6_readsAll_0 : decode cX6_readsAll 0 = .ok (.aload_n 0, 1) := by decide +kernel
theorem dX6_readsAll_1 : decode cX6_readsAll 1 = .ok (.iconst 0, 1) := by decide +kernel
theorem dX6_readsAll_2 : decode cX6_readsAll 2 = .ok (.putfield 82, 3) := by decide +kernel
theorem dX6_readsAll_5 : decode cX6_readsAll 5 = .ok (.aload_n 0, 1) := by decide +kernel
theorem dX6_readsAll_6 : decode cX6_readsAll 6 = .ok (.iconst 0, 1) := by decide +kernel
theorem dX6_readsAll_7 : decode cX6_readsAll 7 = .ok (.putfield 91, 3) := by decide +kernel
theorem dX6_readsAll_10 : decode cX6_readsAll 10 = .ok (.aload_n 0, 1) := by decide +kernel
theorem dX6_readsAll_11 : decode cX6_readsAll 11 = .ok (.iload_n 1, 1) := by decide +kernel
theorem dX6_readsAll_12 : decode cX6_readsAll 12 = .ok (.iload_n 2, 1) := by decide +kernel
theorem dX6_readsAll_13 : decode cX6_readsAll 13 = .ok (.invokevirtual 85, 3) := by decide +kernel
theorem dX6_readsAll_16 : decode cX6_readsAll 16 = .ok (.bipush 112, 2) := by decide +kernel
theorem dX6_readsAll_18 : decode cX6_readsAll 18 = .ok (.if_icmp .eq 5, 3) := by decide +kernel
theorem dX6_readsAll_21 : decode cX6_readsAll 21 = .ok (.iconst 0, 1) := by decide +kernel
theorem dX6_readsAll_22 : decode cX6_readsAll 22 = .ok (.ireturn, 1) := by decide +kernel
theorem dX6_readsAll_23 : decode cX6_readsAll 23 = .ok (.aload_n 0, 1) := by decide +kernel
theorem dX6_readsAll_24 : decode cX6_readsAll 24 = .ok (.dup, 1) := by decide +kernel
theorem dX6_readsAll_25 : decode cX6_readsAll 25 = .ok (.getfield 82, 3) := by decide +kernel
theorem dX6_readsAll_28 : decode cX6_readsAll 28 = .ok (.iconst 1, 1) := by decide +kernel
theorem dX6_readsAll_29 : decode cX6_readsAll 29 = .ok (.iadd, 1) := by decide +kernel
theorem dX6_readsAll_30 : decode cX6_readsAll 30 = .ok (.putfield 82, 3) := by decide +kernel
theorem dX6_readsAll_33 : decode cX6_readsAll 33 = .ok (.iconst 1, 1) := by decide +kernel
theorem dX6_readsAll_34 : decode cX6_readsAll 34 = .ok (.istore_n 3, 1) := by decide +kernel
theorem dX6_readsAll_35 : decode cX6_readsAll 35 = .ok (.iload_n 3, 1) := by decide +kernel
theorem dX6_readsAll_36 : decode cX6_readsAll 36 = .ok (.ifCond .eq 29, 3) := by decide +kernel
theorem dX6_readsAll_39 : decode cX6_readsAll 39 = .ok (.aload_n 0, 1) := by decide +kernel
theorem dX6_readsAll_40 : decode cX6_readsAll 40 = .ok (.getfield 91, 3) := by decide +kernel
theorem dX6_readsAll_43 : decode cX6_readsAll 43 = .ok (.iconst 1, 1) := by decide +kernel
theorem dX6_readsAll_44 : decode cX6_readsAll 44 = .ok (.if_icmp .lt 11, 3) := by decide +kernel
theorem dX6_readsAll_47 : decode cX6_readsAll 47 = .ok (.aload_n 0, 1) := by decide +kernel
theorem dX6_readsAll_48 : decode cX6_readsAll 48 = .ok (.getfield 82, 3) := by decide +kernel
theorem dX6_readsAll_51 : decode cX6_readsAll 51 = .ok (.iload_n 2, 1) := by decide +kernel
theorem dX6_readsAll_52 : decode cX6_readsAll 52 = .ok (.if_icmp .ge 13, 3) := by decide +kernel
theorem dX6_readsAll_55 : decode cX6_readsAll 55 = .ok (.aload_n 0, 1) := by decide +kernel
theorem dX6_readsAll_56 : decode cX6_readsAll 56 = .ok (.iload_n 1, 1) := by decide +kernel
theorem dX6_readsAll_57 : decode cX6_readsAll 57 = .ok (.iload_n 2, 1) := by decide +kernel
theorem dX6_readsAll_58 : decode cX6_readsAll 58 = .ok (.invokevirtual 98, 3) := by decide +kernel
theorem dX6_readsAll_61 : decode cX6_readsAll 61 = .ok (.istore_n 3, 1) := by decide +kernel
theorem dX6_readsAll_62 : decode cX6_readsAll 62 = .ok (.goto (-27), 3) := by decide +kernel
theorem dX6_readsAll_65 : decode cX6_readsAll 65 = .ok (.iload_n 3, 1) := by decide +kernel
theorem dX6_readsAll_66 : decode cX6_readsAll 66 = .ok (.ireturn, 1) := by decide +kernel
set_option maxRecDepth 20000 in
theorem ggX6_cellsBarred_X6_failed : GoodIn wsX6_cellsBarred wsX6_failed := goodIn_r _ [7, 8, 12, 13, 14, 15, 16, 17, 18, 19, 20, 21, 22, 23, 24, 25, 26, 27, 28, 29, 30, 31, 32, 33, 34, 35, 36, 37, 38, 39, 40, 41] (by decide +kernel) (by decide +kernel)
set_option maxRecDepth 20000 in
theorem gX6_cellsBarred_X6_failed : GoodIn wsX6_cellsBarred (wsV RX6 102 RX6 yX6_failed wsX6_failed) := goodIn_app (goodIn_of _ (by decide +kernel)) ggX6_cellsBarred_X6_failed
set_option maxRecDepth 20000 in
theorem ggX6_cellsBarred_X6_isBeyond : GoodIn wsX6_cellsBarred wsX6_isBeyond := goodIn_r _ [11] (by decide +kernel) (by decide +kernel)
set_option maxRecDepth 20000 in
theorem gX6_cellsBarred_X6_isBeyond : GoodIn wsX6_cellsBarred (va_wsS RX6 106 yX6_isBeyond wsX6_isBeyond) := goodIn_app (goodIn_of _ (by decide +kernel)) ggX6_cellsBarred_X6_isBeyond
theorem dX6_cellsBarred_0 : decode cX6_cellsBarred 0 = .ok (.aload_n 0, 1) := by decide +kernel
theorem dX6_cellsBarred_1 : decode cX6_cellsBarred 1 = .ok (.getfield 53, 3) := by decide +kernel
theorem dX6_cellsBarred_4 : decode cX6_cellsBarred 4 = .ok (.iload_n 1, 1) := by decide +kernel
theorem dX6_cellsBarred_5 : decode cX6_cellsBarred 5 = .ok (.iaload, 1) := by decide +kernel
theorem dX6_cellsBarred_6 : decode cX6_cellsBarred 6 = .ok (.ifCond .lt 19, 3) := by decide +kernel
theorem dX6_cellsBarred_9 : decode cX6_cellsBarred 9 = .ok (.aload_n 0, 1) := by decide +kernel
theorem dX6_cellsBarred_10 : decode cX6_cellsBarred 10 = .ok (.getfield 56, 3) := by decide +kernel
theorem dX6_cellsBarred_13 : decode cX6_cellsBarred 13 = .ok (.iload_n 1, 1) := by decide +kernel
theorem dX6_cellsBarred_14 : decode cX6_cellsBarred 14 = .ok (.iaload, 1) := by decide +kernel
theorem dX6_cellsBarred_15 : decode cX6_cellsBarred 15 = .ok (.iload_n 2, 1) := by decide +kernel
theorem dX6_cellsBarred_16 : decode cX6_cellsBarred 16 = .ok (.if_icmp .eq 9, 3) := by decide +kernel
theorem dX6_cellsBarred_19 : decode cX6_cellsBarred 19 = .ok (.aload_n 0, 1) := by decide +kernel
theorem dX6_cellsBarred_20 : decode cX6_cellsBarred 20 = .ok (.iconst 2, 1) := by decide +kernel
theorem dX6_cellsBarred_21 : decode cX6_cellsBarred 21 = .ok (.invokevirtual 102, 3) := by decide +kernel
theorem dX6_cellsBarred_24 : decode cX6_cellsBarred 24 = .ok (.ireturn, 1) := by decide +kernel
theorem dX6_cellsBarred_25 : decode cX6_cellsBarred 25 = .ok (.aload_n 0, 1) := by decide +kernel
theorem dX6_cellsBarred_26 : decode cX6_cellsBarred 26 = .ok (.getfield 53, 3) := by decide +kernel
theorem dX6_cellsBarred_29 : decode cX6_cellsBarred 29 = .ok (.iload_n 1, 1) := by decide +kernel
theorem dX6_cellsBarred_30 : decode cX6_cellsBarred 30 = .ok (.iaload, 1) := by decide +kernel
theorem dX6_cellsBarred_31 : decode cX6_cellsBarred 31 = .ok (.ifCond .ge 9, 3) := by decide +kernel
theorem dX6_cellsBarred_34 : decode cX6_cellsBarred 34 = .ok (.aload_n 0, 1) := by decide +kernel
theorem dX6_cellsBarred_35 : decode cX6_cellsBarred 35 = .ok (.iconst 1, 1) := by decide +kernel
theorem dX6_cellsBarred_36 : decode cX6_cellsBarred 36 = .ok (.invokevirtual 102, 3) := by decide +kernel
theorem dX6_cellsBarred_39 : decode cX6_cellsBarred 39 = .ok (.ireturn, 1) := by decide +kernel
theorem dX6_cellsBarred_40 : decode cX6_cellsBarred 40 = .ok (.lload 4, 2) := by decide +kernel
theorem dX6_cellsBarred_42 : decode cX6_cellsBarred 42 = .ok (.lconst 0, 1) := by decide +kernel
theorem dX6_cellsBarred_43 : decode cX6_cellsBarred 43 = .ok (.lcmp, 1) := by decide +kernel
theorem dX6_cellsBarred_44 : decode cX6_cellsBarred 44 = .ok (.ifCond .ge 9, 3) := by decide +kernel
theorem dX6_cellsBarred_47 : decode cX6_cellsBarred 47 = .ok (.aload_n 0, 1) := by decide +kernel
theorem dX6_cellsBarred_48 : decode cX6_cellsBarred 48 = .ok (.iconst 4, 1) := by decide +kernel
theorem dX6_cellsBarred_49 : decode cX6_cellsBarred 49 = .ok (.invokevirtual 102, 3) := by decide +kernel
theorem dX6_cellsBarred_52 : decode cX6_cellsBarred 52 = .ok (.ireturn, 1) := by decide +kernel
theorem dX6_cellsBarred_53 : decode cX6_cellsBarred 53 = .ok (.iload_n 3, 1) := by decide +kernel
theorem dX6_cellsBarred_54 : decode cX6_cellsBarred 54 = .ok (.lload 4, 2) := by decide +kernel
theorem dX6_cellsBarred_56 : decode cX6_cellsBarred 56 = .ok (.aload_n 0, 1) := by decide +kernel
theorem dX6_cellsBarred_57 : decode cX6_cellsBarred 57 = .ok (.getfield 53, 3) := by decide +kernel
theorem dX6_cellsBarred_60 : decode cX6_cellsBarred 60 = .ok (.iload_n 1, 1) := by decide +kernel
theorem dX6_cellsBarred_61 : decode cX6_cellsBarred 61 = .ok (.iaload, 1) := by decide +kernel
theorem dX6_cellsBarred_62 : decode cX6_cellsBarred 62 = .ok (.invokestatic 106, 3) := by decide +kernel
theorem dX6_cellsBarred_65 : decode cX6_cellsBarred 65 = .ok (.ifCond .eq 11, 3) := by decide +kernel
theorem dX6_cellsBarred_68 : decode cX6_cellsBarred 68 = .ok (.aload_n 0, 1) := by decide +kernel
theorem dX6_cellsBarred_69 : decode cX6_cellsBarred 69 = .ok (.iconst 3, 1) := by decide +kernel
theorem dX6_cellsBarred_70 : decode cX6_cellsBarred 70 = .ok (.invokevirtual 102, 3) := by decide +kernel
theorem dX6_cellsBarred_73 : decode cX6_cellsBarred 73 = .ok (.goto 4, 3) := by decide +kernel
theorem dX6_cellsBarred_76 : decode cX6_cellsBarred 76 = .ok (.iconst 0, 1) := by decide +kernel
theorem dX6_cellsBarred_77 : decode cX6_cellsBarred 77 = .ok (.ireturn, 1) := by decide +kernel
set_option maxRecDepth 20000 in
theorem ggX6_polynomials_X6_noSheet : GoodIn wsX6_polynomials wsX6_noSheet := goodIn_r _ [13, 14, 15, 16, 12, 17] (by decide +kernel) (by decide +kernel)
set_option maxRecDepth 20000 in
theorem gX6_polynomials_X6_noSheet : GoodIn wsX6_polynomials (va_wsS RX6 110 yX6_noSheet wsX6_noSheet) := goodIn_app (goodIn_of _ (by decide +kernel)) ggX6_polynomials_X6_noSheet
set_option maxRecDepth 20000 in
theorem ggX6_polynomials_X6_refused : GoodIn wsX6_polynomials wsX6_refused := goodIn_r _ [21, 22, 54, 55, 56, 57, 58, 59, 60, 61, 62, 63, 64, 65, 66, 67, 68, 69, 70, 71, 72, 73, 74, 75, 76, 77, 78, 79, 80, 81, 82, 83] (by decide +kernel) (by decide +kernel)
set_option maxRecDepth 20000 in
theorem gX6_polynomials_X6_refused : GoodIn wsX6_polynomials (wsV RX6 114 RX6 yX6_refused wsX6_refused) := goodIn_app (goodIn_of _ (by decide +kernel)) ggX6_polynomials_X6_refused
set_option maxRecDepth 20000 in
theorem ggX6_polynomials_X6_in : GoodIn wsX6_polynomials wsX6_in := goodIn_r _ [17] (by decide +kernel) (by decide +kernel)
set_option maxRecDepth 20000 in
theorem gX6_polynomials_X6_in : GoodIn wsX6_polynomials (va_wsS RX6 78 yX6_in wsX6_in) := goodIn_app (goodIn_of _ (by decide +kernel)) ggX6_polynomials_X6_in
set_option maxRecDepth 20000 in
theorem ggX6_polynomials_X6_cellsBarred : GoodIn wsX6_polynomials wsX6_cellsBarred := goodIn_r _ [26, 27, 28, 29, 30, 31, 12, 32, 22, 33, 34, 35, 54, 55, 56, 57, 58, 59, 60, 61, 62, 63, 64, 65, 66, 67, 68, 69, 70, 71, 72, 73, 74, 75, 76, 77, 78, 79, 80, 81, 82, 83] (by decide +kernel) (by decide +kernel)
set_option maxRecDepth 20000 in
theorem gX6_polynomials_X6_cellsBarred : GoodIn wsX6_polynomials (wsV RX6 119 RX6 yX6_cellsBarred wsX6_cellsBarred) := goodIn_app (goodIn_of _ (by decide +kernel)) ggX6_polynomials_X6_cellsBarred
set_option maxRecDepth 20000 in
theorem ggX6_polynomials_X6_readsAll : GoodIn wsX6_polynomials wsX6_readsAll := goodIn_r _ [39, 2, 3, 40, 41, 42, 12, 43, 44, 45, 46, 47, 48, 6, 49, 50, 51, 52, 53, 8, 15, 16, 17, 54, 55, 56, 57, 58, 59, 60, 61, 62, 63, 64, 65, 66, 67, 68, 69, 70, 71, 72, 73, 74, 75, 76, 77, 78, 79, 80, 81, 82, 83] (by decide +kernel) (by decide +kernel)
set_option maxRecDepth 20000 in
theorem gX6_polynomials_X6_readsAll : GoodIn wsX6_polynomials (wsV RX6 123 RX6 yX6_readsAll wsX6_readsAll) := goodIn_app (goodIn_of _ (by decide +kernel)) ggX6_polynomials_X6_readsAll
theorem dX6_polynomials_0 : decode cX6_polynomials 0 = .ok (.iload_n 1, 1) := by decide +kernel
theorem dX6_polynomials_1 : decode cX6_polynomials 1 = .ok (.invokestatic 110, 3) := by decide +kernel
theorem dX6_polynomials_4 : decode cX6_polynomials 4 = .ok (.ifCond .eq 9, 3) := by decide +kernel
theorem dX6_polynomials_7 : decode cX6_polynomials 7 = .ok (.aload_n 0, 1) := by decide +kernel
theorem dX6_polynomials_8 : decode cX6_polynomials 8 = .ok (.iconst (-1), 1) := by decide +kernel
theorem dX6_polynomials_9 : decode cX6_polynomials 9 = .ok (.invokevirtual 114, 3) := by decide +kernel
theorem dX6_polynomials_12 : decode cX6_polynomials 12 = .ok (.ireturn, 1) := by decide +kernel
theorem dX6_polynomials_13 : decode cX6_polynomials 13 = .ok (.iload_n 2, 1) := by decide +kernel
theorem dX6_polynomials_14 : decode cX6_polynomials 14 = .ok (.i2l, 1) := by decide +kernel
theorem dX6_polynomials_15 : decode cX6_polynomials 15 = .ok (.lconst 0, 1) := by decide +kernel
theorem dX6_polynomials_16 : decode cX6_polynomials 16 = .ok (.ldc2_w 117, 3) := by decide +kernel
theorem dX6_polynomials_19 : decode cX6_polynomials 19 = .ok (.invokestatic 78, 3) := by decide +kernel
theorem dX6_polynomials_22 : decode cX6_polynomials 22 = .ok (.ifCond .ne 10, 3) := by decide +kernel
theorem dX6_polynomials_25 : decode cX6_polynomials 25 = .ok (.aload_n 0, 1) := by decide +kernel
theorem dX6_polynomials_26 : decode cX6_polynomials 26 = .ok (.bipush (-2), 2) := by decide +kernel
theorem dX6_polynomials_28 : decode cX6_polynomials 28 = .ok (.invokevirtual 114, 3) := by decide +kernel
theorem dX6_polynomials_31 : decode cX6_polynomials 31 = .ok (.ireturn, 1) := by decide +kernel
theorem dX6_polynomials_32 : decode cX6_polynomials 32 = .ok (.aload_n 0, 1) := by decide +kernel
theorem dX6_polynomials_33 : decode cX6_polynomials 33 = .ok (.iload_n 1, 1) := by decide +kernel
theorem dX6_polynomials_34 : decode cX6_polynomials 34 = .ok (.iload_n 2, 1) := by decide +kernel
theorem dX6_polynomials_35 : decode cX6_polynomials 35 = .ok (.iload_n 3, 1) := by decide +kernel
theorem dX6_polynomials_36 : decode cX6_polynomials 36 = .ok (.iload 4, 2) := by decide +kernel
theorem dX6_polynomials_38 : decode cX6_polynomials 38 = .ok (.i2l, 1) := by decide +kernel
theorem dX6_polynomials_39 : decode cX6_polynomials 39 = .ok (.invokevirtual 119, 3) := by decide +kernel
theorem dX6_polynomials_42 : decode cX6_polynomials 42 = .ok (.istore 5, 2) := by decide +kernel
theorem dX6_polynomials_44 : decode cX6_polynomials 44 = .ok (.iload 5, 2) := by decide +kernel
theorem dX6_polynomials_46 : decode cX6_polynomials 46 = .ok (.ifCond .ge 6, 3) := by decide +kernel
theorem dX6_polynomials_49 : decode cX6_polynomials 49 = .ok (.iload 5, 2) := by decide +kernel
theorem dX6_polynomials_51 : decode cX6_polynomials 51 = .ok (.ireturn, 1) := by decide +kernel
theorem dX6_polynomials_52 : decode cX6_polynomials 52 = .ok (.aload_n 0, 1) := by decide +kernel
theorem dX6_polynomials_53 : decode cX6_polynomials 53 = .ok (.bipush 60, 2) := by decide +kernel
theorem dX6_polynomials_55 : decode cX6_polynomials 55 = .ok (.iload_n 1, 1) := by decide +kernel
theorem dX6_polynomials_56 : decode cX6_polynomials 56 = .ok (.imul, 1) := by decide +kernel
theorem dX6_polynomials_57 : decode cX6_polynomials 57 = .ok (.iload_n 3, 1) := by decide +kernel
theorem dX6_polynomials_58 : decode cX6_polynomials 58 = .ok (.iadd, 1) := by decide +kernel
theorem dX6_polynomials_59 : decode cX6_polynomials 59 = .ok (.iload 4, 2) := by decide +kernel
theorem dX6_polynomials_61 : decode cX6_polynomials 61 = .ok (.invokevirtual 123, 3) := by decide +kernel
theorem dX6_polynomials_64 : decode cX6_polynomials 64 = .ok (.ifCond .ne 15, 3) := by decide +kernel
theorem dX6_polynomials_67 : decode cX6_polynomials 67 = .ok (.aload_n 0, 1) := by decide +kernel
theorem dX6_polynomials_68 : decode cX6_polynomials 68 = .ok (.bipush (-100), 2) := by decide +kernel
theorem dX6_polynomials_70 : decode cX6_polynomials 70 = .ok (.aload_n 0, 1) := by decide +kernel
theorem dX6_polynomials_71 : decode cX6_polynomials 71 = .ok (.getfield 82, 3) := by decide +kernel
theorem dX6_polynomials_74 : decode cX6_polynomials 74 = .ok (.isub, 1) := by decide +kernel
theorem dX6_polynomials_75 : decode cX6_polynomials 75 = .ok (.invokevirtual 114, 3) := by decide +kernel
theorem dX6_polynomials_78 : decode cX6_polynomials 78 = .ok (.ireturn, 1) := by decide +kernel
theorem dX6_polynomials_79 : decode cX6_polynomials 79 = .ok (.aload_n 0, 1) := by decide +kernel
theorem dX6_polynomials_80 : decode cX6_polynomials 80 = .ok (.aload_n 0, 1) := by decide +kernel
theorem dX6_polynomials_81 : decode cX6_polynomials 81 = .ok (.getfield 91, 3) := by decide +kernel
theorem dX6_polynomials_84 : decode cX6_polynomials 84 = .ok (.putfield 75, 3) := by decide +kernel
theorem dX6_polynomials_87 : decode cX6_polynomials 87 = .ok (.iconst 0, 1) := by decide +kernel
theorem dX6_polynomials_88 : decode cX6_polynomials 88 = .ok (.istore 6, 2) := by decide +kernel
theorem dX6_polynomials_90 : decode cX6_polynomials 90 = .ok (.iload 6, 2) := by decide +kernel
theorem dX6_polynomials_92 : decode cX6_polynomials 92 = .ok (.aload_n 0, 1) := by decide +kernel
theorem dX6_polynomials_93 : decode cX6_polynomials 93 = .ok (.getfield 75, 3) := by decide +kernel
theorem dX6_polynomials_96 : decode cX6_polynomials 96 = .ok (.if_icmp .ge 62, 3) := by decide +kernel
theorem dX6_polynomials_99 : decode cX6_polynomials 99 = .ok (.aload_n 0, 1) := by decide +kernel
theorem dX6_polynomials_100 : decode cX6_polynomials 100 = .ok (.getfield 7, 3) := by decide +kernel
theorem dX6_polynomials_103 : decode cX6_polynomials 103 = .ok (.iload 6, 2) := by decide +kernel
theorem dX6_polynomials_105 : decode cX6_polynomials 105 = .ok (.aload_n 0, 1) := by decide +kernel
theorem dX6_polynomials_106 : decode cX6_polynomials 106 = .ok (.getfield 16, 3) := by decide +kernel
theorem dX6_polynomials_109 : decode cX6_polynomials 109 = .ok (.iload 6, 2) := by decide +kernel
theorem dX6_polynomials_111 : decode cX6_polynomials 111 = .ok (.iaload, 1) := by decide +kernel
theorem dX6_polynomials_112 : decode cX6_polynomials 112 = .ok (.iastore, 1) := by decide +kernel
theorem dX6_polynomials_113 : decode cX6_polynomials 113 = .ok (.iconst 0, 1) := by decide +kernel
theorem dX6_polynomials_114 : decode cX6_polynomials 114 = .ok (.istore 7, 2) := by decide +kernel
theorem dX6_polynomials_116 : decode cX6_polynomials 116 = .ok (.iload 7, 2) := by decide +kernel
theorem dX6_polynomials_118 : decode cX6_polynomials 118 = .ok (.iconst 3, 1) := by decide +kernel
theorem dX6_polynomials_119 : decode cX6_polynomials 119 = .ok (.if_icmp .ge 33, 3) := by decide +kernel
theorem dX6_polynomials_122 : decode cX6_polynomials 122 = .ok (.aload_n 0, 1) := by decide +kernel
theorem dX6_polynomials_123 : decode cX6_polynomials 123 = .ok (.getfield 13, 3) := by decide +kernel
theorem dX6_polynomials_126 : decode cX6_polynomials 126 = .ok (.iconst 3, 1) := by decide +kernel
theorem dX6_polynomials_127 : decode cX6_polynomials 127 = .ok (.iload 6, 2) := by decide +kernel
theorem dX6_polynomials_129 : decode cX6_polynomials 129 = .ok (.imul, 1) := by decide +kernel
theorem dX6_polynomials_130 : decode cX6_polynomials 130 = .ok (.iload 7, 2) := by decide +kernel
theorem dX6_polynomials_132 : decode cX6_polynomials 132 = .ok (.iadd, 1) := by decide +kernel
theorem dX6_polynomials_133 : decode cX6_polynomials 133 = .ok (.aload_n 0, 1) := by decide +kernel
theorem dX6_polynomials_134 : decode cX6_polynomials 134 = .ok (.getfield 19, 3) := by decide +kernel
theorem dX6_polynomials_137 : decode cX6_polynomials 137 = .ok (.iconst 3, 1) := by decide +kernel
theorem dX6_polynomials_138 : decode cX6_polynomials 138 = .ok (.iload 6, 2) := by decide +kernel
theorem dX6_polynomials_140 : decode cX6_polynomials 140 = .ok (.imul, 1) := by decide +kernel
theorem dX6_polynomials_141 : decode cX6_polynomials 141 = .ok (.iload 7, 2) := by decide +kernel
theorem dX6_polynomials_143 : decode cX6_polynomials 143 = .ok (.iadd, 1) := by decide +kernel
theorem dX6_polynomials_144 : decode cX6_polynomials 144 = .ok (.iaload, 1) := by decide +kernel
theorem dX6_polynomials_145 : decode cX6_polynomials 145 = .ok (.iastore, 1) := by decide +kernel
theorem dX6_polynomials_146 : decode cX6_polynomials 146 = .ok (.iinc 7 1, 3) := by decide +kernel
theorem dX6_polynomials_149 : decode cX6_polynomials 149 = .ok (.goto (-33), 3) := by decide +kernel
theorem dX6_polynomials_152 : decode cX6_polynomials 152 = .ok (.iinc 6 1, 3) := by decide +kernel
theorem dX6_polynomials_155 : decode cX6_polynomials 155 = .ok (.goto (-65), 3) := by decide +kernel
theorem dX6_polynomials_158 : decode cX6_polynomials 158 = .ok (.aload_n 0, 1) := by decide +kernel
theorem dX6_polynomials_159 : decode cX6_polynomials 159 = .ok (.iconst 0, 1) := by decide +kernel
theorem dX6_polynomials_160 : decode cX6_polynomials 160 = .ok (.putfield 126, 3) := by decide +kernel
theorem dX6_polynomials_163 : decode cX6_polynomials 163 = .ok (.aload_n 0, 1) := by decide +kernel
theorem dX6_polynomials_164 : decode cX6_polynomials 164 = .ok (.aload_n 0, 1) := by decide +kernel
theorem dX6_polynomials_165 : decode cX6_polynomials 165 = .ok (.getfield 75, 3) := by decide +kernel
theorem dX6_polynomials_168 : decode cX6_polynomials 168 = .ok (.invokevirtual 114, 3) := by decide +kernel
theorem dX6_polynomials_171 : decode cX6_polynomials 171 = .ok (.ireturn, 1) := by decide +kernel
theorem dX6_is_0 : decode cX6_is 0 = .ok (.aload_n 0, 1) := by decide +kernel
theorem dX6_is_1 : decode cX6_is 1 = .ok (.getfield 13, 3) := by decide +kernel
theorem dX6_is_4 : decode cX6_is 4 = .ok (.iconst 3, 1) := by decide +kernel
theorem dX6_is_5 : decode cX6_is 5 = .ok (.iload_n 1, 1) := by decide +kernel
theorem dX6_is_6 : decode cX6_is 6 = .ok (.imul, 1) := by decide +kernel
theorem dX6_is_7 : decode cX6_is 7 = .ok (.iaload, 1) := by decide +kernel
theorem dX6_is_8 : decode cX6_is 8 = .ok (.i2l, 1) := by decide +kernel
theorem dX6_is_9 : decode cX6_is 9 = .ok (.lstore_n 3, 1) := by decide +kernel
theorem dX6_is_10 : decode cX6_is 10 = .ok (.aload_n 0, 1) := by decide +kernel
theorem dX6_is_11 : decode cX6_is 11 = .ok (.getfield 7, 3) := by decide +kernel
theorem dX6_is_14 : decode cX6_is 14 = .ok (.iload_n 1, 1) := by decide +kernel
theorem dX6_is_15 : decode cX6_is 15 = .ok (.iaload, 1) := by decide +kernel
theorem dX6_is_16 : decode cX6_is 16 = .ok (.ifCond .ne 17, 3) := by decide +kernel
theorem dX6_is_19 : decode cX6_is 19 = .ok (.aload_n 0, 1) := by decide +kernel
theorem dX6_is_20 : decode cX6_is 20 = .ok (.getfield 13, 3) := by decide +kernel
theorem dX6_is_23 : decode cX6_is 23 = .ok (.iconst 3, 1) := by decide +kernel
theorem dX6_is_24 : decode cX6_is 24 = .ok (.iload_n 1, 1) := by decide +kernel
theorem dX6_is_25 : decode cX6_is 25 = .ok (.imul, 1) := by decide +kernel
theorem dX6_is_26 : decode cX6_is 26 = .ok (.iconst 1, 1) := by decide +kernel
theorem dX6_is_27 : decode cX6_is 27 = .ok (.iadd, 1) := by decide +kernel
theorem dX6_is_28 : decode cX6_is 28 = .ok (.iaload, 1) := by decide +kernel
theorem dX6_is_29 : decode cX6_is 29 = .ok (.i2l, 1) := by decide +kernel
theorem dX6_is_30 : decode cX6_is 30 = .ok (.goto 15, 3) := by decide +kernel
theorem dX6_is_33 : decode cX6_is 33 = .ok (.aload_n 0, 1) := by decide +kernel
theorem dX6_is_34 : decode cX6_is 34 = .ok (.getfield 13, 3) := by decide +kernel
theorem dX6_is_37 : decode cX6_is 37 = .ok (.iconst 3, 1) := by decide +kernel
theorem dX6_is_38 : decode cX6_is 38 = .ok (.iload_n 1, 1) := by decide +kernel
theorem dX6_is_39 : decode cX6_is 39 = .ok (.imul, 1) := by decide +kernel
theorem dX6_is_40 : decode cX6_is 40 = .ok (.iconst 1, 1) := by decide +kernel
theorem dX6_is_41 : decode cX6_is 41 = .ok (.iadd, 1) := by decide +kernel
theorem dX6_is_42 : decode cX6_is 42 = .ok (.iaload, 1) := by decide +kernel
theorem dX6_is_43 : decode cX6_is 43 = .ok (.ineg, 1) := by decide +kernel
theorem dX6_is_44 : decode cX6_is 44 = .ok (.i2l, 1) := by decide +kernel
theorem dX6_is_45 : decode cX6_is 45 = .ok (.lstore 5, 2) := by decide +kernel
theorem dX6_is_47 : decode cX6_is 47 = .ok (.aload_n 0, 1) := by decide +kernel
theorem dX6_is_48 : decode cX6_is 48 = .ok (.getfield 13, 3) := by decide +kernel
theorem dX6_is_51 : decode cX6_is 51 = .ok (.iconst 3, 1) := by decide +kernel
theorem dX6_is_52 : decode cX6_is 52 = .ok (.iload_n 1, 1) := by decide +kernel
theorem dX6_is_53 : decode cX6_is 53 = .ok (.imul, 1) := by decide +kernel
theorem dX6_is_54 : decode cX6_is 54 = .ok (.iconst 2, 1) := by decide +kernel
theorem dX6_is_55 : decode cX6_is 55 = .ok (.iadd, 1) := by decide +kernel
theorem dX6_is_56 : decode cX6_is 56 = .ok (.iaload, 1) := by decide +kernel
theorem dX6_is_57 : decode cX6_is 57 = .ok (.i2l, 1) := by decide +kernel
theorem dX6_is_58 : decode cX6_is 58 = .ok (.lstore 7, 2) := by decide +kernel
theorem dX6_is_60 : decode cX6_is 60 = .ok (.aload_n 0, 1) := by decide +kernel
theorem dX6_is_61 : decode cX6_is 61 = .ok (.getfield 7, 3) := by decide +kernel
theorem dX6_is_64 : decode cX6_is 64 = .ok (.iload_n 1, 1) := by decide +kernel
theorem dX6_is_65 : decode cX6_is 65 = .ok (.iaload, 1) := by decide +kernel
theorem dX6_is_66 : decode cX6_is 66 = .ok (.iconst 2, 1) := by decide +kernel
theorem dX6_is_67 : decode cX6_is 67 = .ok (.if_icmp .ne 7, 3) := by decide +kernel
theorem dX6_is_70 : decode cX6_is 70 = .ok (.iconst 1, 1) := by decide +kernel
theorem dX6_is_71 : decode cX6_is 71 = .ok (.goto 4, 3) := by decide +kernel
theorem dX6_is_74 : decode cX6_is 74 = .ok (.iconst 0, 1) := by decide +kernel
theorem dX6_is_75 : decode cX6_is 75 = .ok (.istore 9, 2) := by decide +kernel
theorem dX6_is_77 : decode cX6_is 77 = .ok (.iload_n 2, 1) := by decide +kernel
theorem dX6_is_78 : decode cX6_is 78 = .ok (.iconst 2, 1) := by decide +kernel
theorem dX6_is_79 : decode cX6_is 79 = .ok (.if_icmp .ne 8, 3) := by decide +kernel
theorem dX6_is_82 : decode cX6_is 82 = .ok (.lload 7, 2) := by decide +kernel
theorem dX6_is_84 : decode cX6_is 84 = .ok (.goto 46, 3) := by decide +kernel
theorem dX6_is_87 : decode cX6_is 87 = .ok (.iload_n 2, 1) := by decide +kernel
theorem dX6_is_88 : decode cX6_is 88 = .ok (.iconst 1, 1) := by decide +kernel
theorem dX6_is_89 : decode cX6_is 89 = .ok (.if_icmp .ne 25, 3) := by decide +kernel
theorem dX6_is_92 : decode cX6_is 92 = .ok (.iload 9, 2) := by decide +kernel
theorem dX6_is_94 : decode cX6_is 94 = .ok (.ifCond .eq 15, 3) := by decide +kernel
theorem dX6_is_97 : decode cX6_is 97 = .ok (.lload 5, 2) := by decide +kernel
theorem dX6_is_99 : decode cX6_is 99 = .ok (.ldc2_w 117, 3) := by decide +kernel
theorem dX6_is_102 : decode cX6_is 102 = .ok (.lload 7, 2) := by decide +kernel
theorem dX6_is_104 : decode cX6_is 104 = .ok (.lmul, 1) := by decide +kernel
theorem dX6_is_105 : decode cX6_is 105 = .ok (.ladd, 1) := by decide +kernel
theorem dX6_is_106 : decode cX6_is 106 = .ok (.goto 24, 3) := by decide +kernel
theorem dX6_is_109 : decode cX6_is 109 = .ok (.lload 5, 2) := by decide +kernel
theorem dX6_is_111 : decode cX6_is 111 = .ok (.goto 19, 3) := by decide +kernel
theorem dX6_is_114 : decode cX6_is 114 = .ok (.iload 9, 2) := by decide +kernel
theorem dX6_is_116 : decode cX6_is 116 = .ok (.ifCond .eq 13, 3) := by decide +kernel
theorem dX6_is_119 : decode cX6_is 119 = .ok (.lload_n 3, 1) := by decide +kernel
theorem dX6_is_120 : decode cX6_is 120 = .ok (.lload 5, 2) := by decide +kernel
theorem dX6_is_122 : decode cX6_is 122 = .ok (.ladd, 1) := by decide +kernel
theorem dX6_is_123 : decode cX6_is 123 = .ok (.lload 7, 2) := by decide +kernel
theorem dX6_is_125 : decode cX6_is 125 = .ok (.ladd, 1) := by decide +kernel
theorem dX6_is_126 : decode cX6_is 126 = .ok (.goto 4, 3) := by decide +kernel
theorem dX6_is_129 : decode cX6_is 129 = .ok (.lload_n 3, 1) := by decide +kernel
theorem dX6_is_130 : decode cX6_is 130 = .ok (.lreturn, 1) := by decide +kernel
theorem dX6_signOf_0 : decode cX6_signOf 0 = .ok (.lload_n 0, 1) := by decide +kernel
theorem dX6_signOf_1 : decode cX6_signOf 1 = .ok (.lconst 0, 1) := by decide +kernel
theorem dX6_signOf_2 : decode cX6_signOf 2 = .ok (.lcmp, 1) := by decide +kernel
theorem dX6_signOf_3 : decode cX6_signOf 3 = .ok (.ifCond .ge 7, 3) := by decide +kernel
theorem dX6_signOf_6 : decode cX6_signOf 6 = .ok (.iconst (-1), 1) := by decide +kernel
theorem dX6_signOf_7 : decode cX6_signOf 7 = .ok (.goto 14, 3) := by decide +kernel
theorem dX6_signOf_10 : decode cX6_signOf 10 = .ok (.lload_n 0, 1) := by decide +kernel
theorem dX6_signOf_11 : decode cX6_signOf 11 = .ok (.lconst 0, 1) := by decide +kernel
theorem dX6_signOf_12 : decode cX6_signOf 12 = .ok (.lcmp, 1) := by decide +kernel
theorem dX6_signOf_13 : decode cX6_signOf 13 = .ok (.ifCond .le 7, 3) := by decide +kernel
theorem dX6_signOf_16 : decode cX6_signOf 16 = .ok (.iconst 1, 1) := by decide +kernel
theorem dX6_signOf_17 : decode cX6_signOf 17 = .ok (.goto 4, 3) := by decide +kernel
theorem dX6_signOf_20 : decode cX6_signOf 20 = .ok (.iconst 0, 1) := by decide +kernel
theorem dX6_signOf_21 : decode cX6_signOf 21 = .ok (.ireturn, 1) := by decide +kernel
set_option maxRecDepth 20000 in
theorem ggX6_signOfTwo_X6_signOf : GoodIn wsX6_signOfTwo wsX6_signOf := goodIn_r _ [4] (by decide +kernel) (by decide +kernel)
set_option maxRecDepth 20000 in
theorem gX6_signOfTwo_X6_signOf : GoodIn wsX6_signOfTwo (va_wsS RX6 129 yX6_signOf wsX6_signOf) := goodIn_app (goodIn_of _ (by decide +kernel)) ggX6_signOfTwo_X6_signOf
theorem dX6_signOfTwo_0 : decode cX6_signOfTwo 0 = .ok (.lload_n 0, 1) := by decide +kernel
theorem dX6_signOfTwo_1 : decode cX6_signOfTwo 1 = .ok (.invokestatic 129, 3) := by decide +kernel
theorem dX6_signOfTwo_4 : decode cX6_signOfTwo 4 = .ok (.istore 6, 2) := by decide +kernel
theorem dX6_signOfTwo_6 : decode cX6_signOfTwo 6 = .ok (.lload 4, 2) := by decide +kernel
theorem dX6_signOfTwo_8 : decode cX6_signOfTwo 8 = .ok (.lconst 0, 1) := by decide +kernel
theorem dX6_signOfTwo_9 : decode cX6_signOfTwo 9 = .ok (.lcmp, 1) := by decide +kernel
theorem dX6_signOfTwo_10 : decode cX6_signOfTwo 10 = .ok (.ifCond .ne 7, 3) := by decide +kernel
theorem dX6_signOfTwo_13 : decode cX6_signOfTwo 13 = .ok (.iconst 0, 1) := by decide +kernel
theorem dX6_signOfTwo_14 : decode cX6_signOfTwo 14 = .ok (.goto 7, 3) := by decide +kernel
theorem dX6_signOfTwo_17 : decode cX6_signOfTwo 17 = .ok (.lload_n 2, 1) := by decide +kernel
theorem dX6_signOfTwo_18 : decode cX6_signOfTwo 18 = .ok (.invokestatic 129, 3) := by decide +kernel
theorem dX6_signOfTwo_21 : decode cX6_signOfTwo 21 = .ok (.istore 7, 2) := by decide +kernel
theorem dX6_signOfTwo_23 : decode cX6_signOfTwo 23 = .ok (.iload 6, 2) := by decide +kernel
theorem dX6_signOfTwo_25 : decode cX6_signOfTwo 25 = .ok (.iload 7, 2) := by decide +kernel
theorem dX6_signOfTwo_27 : decode cX6_signOfTwo 27 = .ok (.if_icmp .eq 8, 3) := by decide +kernel
theorem dX6_signOfTwo_30 : decode cX6_signOfTwo 30 = .ok (.iload 7, 2) := by decide +kernel
theorem dX6_signOfTwo_32 : decode cX6_signOfTwo 32 = .ok (.ifCond .ne 6, 3) := by decide +kernel
theorem dX6_signOfTwo_35 : decode cX6_signOfTwo 35 = .ok (.iload 6, 2) := by decide +kernel
theorem dX6_signOfTwo_37 : decode cX6_signOfTwo 37 = .ok (.ireturn, 1) := by decide +kernel
theorem dX6_signOfTwo_38 : decode cX6_signOfTwo 38 = .ok (.iload 6, 2) := by decide +kernel
theorem dX6_signOfTwo_40 : decode cX6_signOfTwo 40 = .ok (.ifCond .ne 6, 3) := by decide +kernel
theorem dX6_signOfTwo_43 : decode cX6_signOfTwo 43 = .ok (.iload 7, 2) := by decide +kernel
theorem dX6_signOfTwo_45 : decode cX6_signOfTwo 45 = .ok (.ireturn, 1) := by decide +kernel
theorem dX6_signOfTwo_46 : decode cX6_signOfTwo 46 = .ok (.lload_n 0, 1) := by decide +kernel
theorem dX6_signOfTwo_47 : decode cX6_signOfTwo 47 = .ok (.lload_n 0, 1) := by decide +kernel
theorem dX6_signOfTwo_48 : decode cX6_signOfTwo 48 = .ok (.lmul, 1) := by decide +kernel
theorem dX6_signOfTwo_49 : decode cX6_signOfTwo 49 = .ok (.lload_n 2, 1) := by decide +kernel
theorem dX6_signOfTwo_50 : decode cX6_signOfTwo 50 = .ok (.lload_n 2, 1) := by decide +kernel
theorem dX6_signOfTwo_51 : decode cX6_signOfTwo 51 = .ok (.lmul, 1) := by decide +kernel
theorem dX6_signOfTwo_52 : decode cX6_signOfTwo 52 = .ok (.lload 4, 2) := by decide +kernel
theorem dX6_signOfTwo_54 : decode cX6_signOfTwo 54 = .ok (.lmul, 1) := by decide +kernel
theorem dX6_signOfTwo_55 : decode cX6_signOfTwo 55 = .ok (.lsub, 1) := by decide +kernel
theorem dX6_signOfTwo_56 : decode cX6_signOfTwo 56 = .ok (.lstore 8, 2) := by decide +kernel
theorem dX6_signOfTwo_58 : decode cX6_signOfTwo 58 = .ok (.lload 8, 2) := by decide +kernel
theorem dX6_signOfTwo_60 : decode cX6_signOfTwo 60 = .ok (.lconst 0, 1) := by decide +kernel
theorem dX6_signOfTwo_61 : decode cX6_signOfTwo 61 = .ok (.lcmp, 1) := by decide +kernel
theorem dX6_signOfTwo_62 : decode cX6_signOfTwo 62 = .ok (.ifCond .ne 7, 3) := by decide +kernel
theorem dX6_signOfTwo_65 : decode cX6_signOfTwo 65 = .ok (.iconst 0, 1) := by decide +kernel
theorem dX6_signOfTwo_66 : decode cX6_signOfTwo 66 = .ok (.goto 17, 3) := by decide +kernel
theorem dX6_signOfTwo_69 : decode cX6_signOfTwo 69 = .ok (.lload 8, 2) := by decide +kernel
theorem dX6_signOfTwo_71 : decode cX6_signOfTwo 71 = .ok (.lconst 0, 1) := by decide +kernel
theorem dX6_signOfTwo_72 : decode cX6_signOfTwo 72 = .ok (.lcmp, 1) := by decide +kernel
theorem dX6_signOfTwo_73 : decode cX6_signOfTwo 73 = .ok (.ifCond .le 8, 3) := by decide +kernel
theorem dX6_signOfTwo_76 : decode cX6_signOfTwo 76 = .ok (.iload 6, 2) := by decide +kernel
theorem dX6_signOfTwo_78 : decode cX6_signOfTwo 78 = .ok (.goto 5, 3) := by decide +kernel
theorem dX6_signOfTwo_81 : decode cX6_signOfTwo 81 = .ok (.iload 7, 2) := by decide +kernel
theorem dX6_signOfTwo_83 : decode cX6_signOfTwo 83 = .ok (.ireturn, 1) := by decide +kernel
set_option maxRecDepth 20000 in
theorem ggX6_discriminant_X6_is : GoodIn wsX6_discriminant wsX6_is := goodIn_r _ [6, 7, 8, 9, 10, 11, 12, 13, 14, 15, 16, 17, 18, 19, 20, 21, 22, 23, 24, 25, 26, 27, 28, 29, 30, 31, 32, 33, 34, 35, 36, 37, 38, 39] (by decide +kernel) (by decide +kernel)
set_option maxRecDepth 20000 in
theorem gX6_discriminant_X6_is : GoodIn wsX6_discriminant (wsV RX6 133 RX6 yX6_is wsX6_is) := goodIn_app (goodIn_of _ (by decide +kernel)) ggX6_discriminant_X6_is
theorem dX6_discriminant_0 : decode cX6_discriminant 0 = .ok (.aload_n 0, 1) := by decide +kernel
theorem dX6_discriminant_1 : decode cX6_discriminant 1 = .ok (.iload_n 1, 1) := by decide +kernel
theorem dX6_discriminant_2 : decode cX6_discriminant 2 = .ok (.iconst 1, 1) := by decide +kernel
theorem dX6_discriminant_3 : decode cX6_discriminant 3 = .ok (.invokevirtual 133, 3) := by decide +kernel
theorem dX6_discriminant_6 : decode cX6_discriminant 6 = .ok (.aload_n 0, 1) := by decide +kernel
theorem dX6_discriminant_7 : decode cX6_discriminant 7 = .ok (.iload_n 1, 1) := by decide +kernel
theorem dX6_discriminant_8 : decode cX6_discriminant 8 = .ok (.iconst 1, 1) := by decide +kernel
theorem dX6_discriminant_9 : decode cX6_discriminant 9 = .ok (.invokevirtual 133, 3) := by decide +kernel
theorem dX6_discriminant_12 : decode cX6_discriminant 12 = .ok (.lmul, 1) := by decide +kernel
theorem dX6_discriminant_13 : decode cX6_discriminant 13 = .ok (.ldc2_w 137, 3) := by decide +kernel
theorem dX6_discriminant_16 : decode cX6_discriminant 16 = .ok (.aload_n 0, 1) := by decide +kernel
theorem dX6_discriminant_17 : decode cX6_discriminant 17 = .ok (.iload_n 1, 1) := by decide +kernel
theorem dX6_discriminant_18 : decode cX6_discriminant 18 = .ok (.iconst 2, 1) := by decide +kernel
theorem dX6_discriminant_19 : decode cX6_discriminant 19 = .ok (.invokevirtual 133, 3) := by decide +kernel
theorem dX6_discriminant_22 : decode cX6_discriminant 22 = .ok (.lmul, 1) := by decide +kernel
theorem dX6_discriminant_23 : decode cX6_discriminant 23 = .ok (.aload_n 0, 1) := by decide +kernel
theorem dX6_discriminant_24 : decode cX6_discriminant 24 = .ok (.iload_n 1, 1) := by decide +kernel
theorem dX6_discriminant_25 : decode cX6_discriminant 25 = .ok (.iconst 0, 1) := by decide +kernel
theorem dX6_discriminant_26 : decode cX6_discriminant 26 = .ok (.invokevirtual 133, 3) := by decide +kernel
theorem dX6_discriminant_29 : decode cX6_discriminant 29 = .ok (.lmul, 1) := by decide +kernel
theorem dX6_discriminant_30 : decode cX6_discriminant 30 = .ok (.lsub, 1) := by decide +kernel
theorem dX6_discriminant_31 : decode cX6_discriminant 31 = .ok (.lreturn, 1) := by decide +kernel
set_option maxRecDepth 20000 in
theorem ggX6_rootsOf_X6_is : GoodIn wsX6_rootsOf wsX6_is := goodIn_r _ [5, 6, 7, 8, 14, 15, 16, 17, 18, 19, 20, 21, 22, 23, 24, 25, 26, 27, 28, 29, 30, 31, 32, 33, 34, 35, 36, 37, 38, 39, 40, 41, 42, 43] (by decide +kernel) (by decide +kernel)
set_option maxRecDepth 20000 in
theorem gX6_rootsOf_X6_is : GoodIn wsX6_rootsOf (wsV RX6 133 RX6 yX6_is wsX6_is) := goodIn_app (goodIn_of _ (by decide +kernel)) ggX6_rootsOf_X6_is
set_option maxRecDepth 20000 in
theorem ggX6_rootsOf_X6_discriminant : GoodIn wsX6_rootsOf wsX6_discriminant := goodIn_r _ [12, 13, 1, 2, 3, 4, 5, 6, 7, 8, 14, 15, 16, 17, 18, 19, 20, 21, 22, 23, 24, 25, 26, 27, 28, 29, 30, 31, 32, 33, 34, 35, 36, 37, 38, 39, 40, 41, 42, 43] (by decide +kernel) (by decide +kernel)
set_option maxRecDepth 20000 in
theorem gX6_rootsOf_X6_discriminant : GoodIn wsX6_rootsOf (wsV RX6 139 RX6 yX6_discriminant wsX6_discriminant) := goodIn_app (goodIn_of _ (by decide +kernel)) ggX6_rootsOf_X6_discriminant
theorem dX6_rootsOf_0 : decode cX6_rootsOf 0 = .ok (.aload_n 0, 1) := by decide +kernel
theorem dX6_rootsOf_1 : decode cX6_rootsOf 1 = .ok (.iload_n 1, 1) := by decide +kernel
theorem dX6_rootsOf_2 : decode cX6_rootsOf 2 = .ok (.iconst 2, 1) := by decide +kernel
theorem dX6_rootsOf_3 : decode cX6_rootsOf 3 = .ok (.invokevirtual 133, 3) := by decide +kernel
theorem dX6_rootsOf_6 : decode cX6_rootsOf 6 = .ok (.lconst 0, 1) := by decide +kernel
theorem dX6_rootsOf_7 : decode cX6_rootsOf 7 = .ok (.lcmp, 1) := by decide +kernel
theorem dX6_rootsOf_8 : decode cX6_rootsOf 8 = .ok (.ifCond .eq 31, 3) := by decide +kernel
theorem dX6_rootsOf_11 : decode cX6_rootsOf 11 = .ok (.aload_n 0, 1) := by decide +kernel
theorem dX6_rootsOf_12 : decode cX6_rootsOf 12 = .ok (.iload_n 1, 1) := by decide +kernel
theorem dX6_rootsOf_13 : decode cX6_rootsOf 13 = .ok (.invokevirtual 139, 3) := by decide +kernel
theorem dX6_rootsOf_16 : decode cX6_rootsOf 16 = .ok (.lstore_n 2, 1) := by decide +kernel
theorem dX6_rootsOf_17 : decode cX6_rootsOf 17 = .ok (.lload_n 2, 1) := by decide +kernel
theorem dX6_rootsOf_18 : decode cX6_rootsOf 18 = .ok (.lconst 0, 1) := by decide +kernel
theorem dX6_rootsOf_19 : decode cX6_rootsOf 19 = .ok (.lcmp, 1) := by decide +kernel
theorem dX6_rootsOf_20 : decode cX6_rootsOf 20 = .ok (.ifCond .le 7, 3) := by decide +kernel
theorem dX6_rootsOf_23 : decode cX6_rootsOf 23 = .ok (.iconst 2, 1) := by decide +kernel
theorem dX6_rootsOf_24 : decode cX6_rootsOf 24 = .ok (.goto 14, 3) := by decide +kernel
theorem dX6_rootsOf_27 : decode cX6_rootsOf 27 = .ok (.lload_n 2, 1) := by decide +kernel
theorem dX6_rootsOf_28 : decode cX6_rootsOf 28 = .ok (.lconst 0, 1) := by decide +kernel
theorem dX6_rootsOf_29 : decode cX6_rootsOf 29 = .ok (.lcmp, 1) := by decide +kernel
theorem dX6_rootsOf_30 : decode cX6_rootsOf 30 = .ok (.ifCond .ne 7, 3) := by decide +kernel
theorem dX6_rootsOf_33 : decode cX6_rootsOf 33 = .ok (.iconst 1, 1) := by decide +kernel
theorem dX6_rootsOf_34 : decode cX6_rootsOf 34 = .ok (.goto 4, 3) := by decide +kernel
theorem dX6_rootsOf_37 : decode cX6_rootsOf 37 = .ok (.iconst 0, 1) := by decide +kernel
theorem dX6_rootsOf_38 : decode cX6_rootsOf 38 = .ok (.ireturn, 1) := by decide +kernel
theorem dX6_rootsOf_39 : decode cX6_rootsOf 39 = .ok (.aload_n 0, 1) := by decide +kernel
theorem dX6_rootsOf_40 : decode cX6_rootsOf 40 = .ok (.iload_n 1, 1) := by decide +kernel
theorem dX6_rootsOf_41 : decode cX6_rootsOf 41 = .ok (.iconst 1, 1) := by decide +kernel
theorem dX6_rootsOf_42 : decode cX6_rootsOf 42 = .ok (.invokevirtual 133, 3) := by decide +kernel
theorem dX6_rootsOf_45 : decode cX6_rootsOf 45 = .ok (.lconst 0, 1) := by decide +kernel
theorem dX6_rootsOf_46 : decode cX6_rootsOf 46 = .ok (.lcmp, 1) := by decide +kernel
theorem dX6_rootsOf_47 : decode cX6_rootsOf 47 = .ok (.ifCond .eq 7, 3) := by decide +kernel
theorem dX6_rootsOf_50 : decode cX6_rootsOf 50 = .ok (.iconst 1, 1) := by decide +kernel
theorem dX6_rootsOf_51 : decode cX6_rootsOf 51 = .ok (.goto 4, 3) := by decide +kernel
theorem dX6_rootsOf_54 : decode cX6_rootsOf 54 = .ok (.iconst 0, 1) := by decide +kernel
theorem dX6_rootsOf_55 : decode cX6_rootsOf 55 = .ok (.ireturn, 1) := by decide +kernel
set_option maxRecDepth 20000 in
theorem ggX6_takesRoot_X6_is : GoodIn wsX6_takesRoot wsX6_is := goodIn_r _ [12, 13, 14, 5, 20, 21, 22, 23, 24, 25, 26, 27, 28, 29, 30, 31, 32, 33, 34, 35, 36, 37, 38, 39, 40, 41, 42, 43, 44, 45, 46, 47, 48, 49] (by decide +kernel) (by decide +kernel)
set_option maxRecDepth 20000 in
theorem gX6_takesRoot_X6_is : GoodIn wsX6_takesRoot (wsV RX6 133 RX6 yX6_is wsX6_is) := goodIn_app (goodIn_of _ (by decide +kernel)) ggX6_takesRoot_X6_is
set_option maxRecDepth 20000 in
theorem ggX6_takesRoot_X6_discriminant : GoodIn wsX6_takesRoot wsX6_discriminant := goodIn_r _ [18, 19, 8, 9, 10, 11, 12, 13, 14, 5, 20, 21, 22, 23, 24, 25, 26, 27, 28, 29, 30, 31, 32, 33, 34, 35, 36, 37, 38, 39, 40, 41, 42, 43, 44, 45, 46, 47, 48, 49] (by decide +kernel) (by decide +kernel)
set_option maxRecDepth 20000 in
theorem gX6_takesRoot_X6_discriminant : GoodIn wsX6_takesRoot (wsV RX6 139 RX6 yX6_discriminant wsX6_discriminant) := goodIn_app (goodIn_of _ (by decide +kernel)) ggX6_takesRoot_X6_discriminant
theorem dX6_takesRoot_0 : decode cX6_takesRoot 0 = .ok (.aload_n 0, 1) := by decide +kernel
theorem dX6_takesRoot_1 : decode cX6_takesRoot 1 = .ok (.iload_n 1, 1) := by decide +kernel
theorem dX6_takesRoot_2 : decode cX6_takesRoot 2 = .ok (.iconst 2, 1) := by decide +kernel
theorem dX6_takesRoot_3 : decode cX6_takesRoot 3 = .ok (.invokevirtual 133, 3) := by decide +kernel
theorem dX6_takesRoot_6 : decode cX6_takesRoot 6 = .ok (.lconst 0, 1) := by decide +kernel
theorem dX6_takesRoot_7 : decode cX6_takesRoot 7 = .ok (.lcmp, 1) := by decide +kernel
theorem dX6_takesRoot_8 : decode cX6_takesRoot 8 = .ok (.ifCond .ne 81, 3) := by decide +kernel
theorem dX6_takesRoot_11 : decode cX6_takesRoot 11 = .ok (.aload_n 0, 1) := by decide +kernel
theorem dX6_takesRoot_12 : decode cX6_takesRoot 12 = .ok (.iload_n 1, 1) := by decide +kernel
theorem dX6_takesRoot_13 : decode cX6_takesRoot 13 = .ok (.iconst 1, 1) := by decide +kernel
theorem dX6_takesRoot_14 : decode cX6_takesRoot 14 = .ok (.invokevirtual 133, 3) := by decide +kernel
theorem dX6_takesRoot_17 : decode cX6_takesRoot 17 = .ok (.lconst 0, 1) := by decide +kernel
theorem dX6_takesRoot_18 : decode cX6_takesRoot 18 = .ok (.lcmp, 1) := by decide +kernel
theorem dX6_takesRoot_19 : decode cX6_takesRoot 19 = .ok (.ifCond .le 7, 3) := by decide +kernel
theorem dX6_takesRoot_22 : decode cX6_takesRoot 22 = .ok (.iconst 1, 1) := by decide +kernel
theorem dX6_takesRoot_23 : decode cX6_takesRoot 23 = .ok (.goto 4, 3) := by decide +kernel
theorem dX6_takesRoot_26 : decode cX6_takesRoot 26 = .ok (.iconst 0, 1) := by decide +kernel
theorem dX6_takesRoot_27 : decode cX6_takesRoot 27 = .ok (.istore_n 3, 1) := by decide +kernel
theorem dX6_takesRoot_28 : decode cX6_takesRoot 28 = .ok (.aload_n 0, 1) := by decide +kernel
theorem dX6_takesRoot_29 : decode cX6_takesRoot 29 = .ok (.iload_n 3, 1) := by decide +kernel
theorem dX6_takesRoot_30 : decode cX6_takesRoot 30 = .ok (.ifCond .eq 13, 3) := by decide +kernel
theorem dX6_takesRoot_33 : decode cX6_takesRoot 33 = .ok (.aload_n 0, 1) := by decide +kernel
theorem dX6_takesRoot_34 : decode cX6_takesRoot 34 = .ok (.iload_n 1, 1) := by decide +kernel
theorem dX6_takesRoot_35 : decode cX6_takesRoot 35 = .ok (.iconst 0, 1) := by decide +kernel
theorem dX6_takesRoot_36 : decode cX6_takesRoot 36 = .ok (.invokevirtual 133, 3) := by decide +kernel
theorem dX6_takesRoot_39 : decode cX6_takesRoot 39 = .ok (.lneg, 1) := by decide +kernel
theorem dX6_takesRoot_40 : decode cX6_takesRoot 40 = .ok (.goto 9, 3) := by decide +kernel
theorem dX6_takesRoot_43 : decode cX6_takesRoot 43 = .ok (.aload_n 0, 1) := by decide +kernel
theorem dX6_takesRoot_44 : decode cX6_takesRoot 44 = .ok (.iload_n 1, 1) := by decide +kernel
theorem dX6_takesRoot_45 : decode cX6_takesRoot 45 = .ok (.iconst 0, 1) := by decide +kernel
theorem dX6_takesRoot_46 : decode cX6_takesRoot 46 = .ok (.invokevirtual 133, 3) := by decide +kernel
theorem dX6_takesRoot_49 : decode cX6_takesRoot 49 = .ok (.putfield 143, 3) := by decide +kernel
theorem dX6_takesRoot_52 : decode cX6_takesRoot 52 = .ok (.aload_n 0, 1) := by decide +kernel
theorem dX6_takesRoot_53 : decode cX6_takesRoot 53 = .ok (.iload_n 3, 1) := by decide +kernel
theorem dX6_takesRoot_54 : decode cX6_takesRoot 54 = .ok (.ifCond .eq 12, 3) := by decide +kernel
theorem dX6_takesRoot_57 : decode cX6_takesRoot 57 = .ok (.aload_n 0, 1) := by decide +kernel
theorem dX6_takesRoot_58 : decode cX6_takesRoot 58 = .ok (.iload_n 1, 1) := by decide +kernel
theorem dX6_takesRoot_59 : decode cX6_takesRoot 59 = .ok (.iconst 1, 1) := by decide +kernel
theorem dX6_takesRoot_60 : decode cX6_takesRoot 60 = .ok (.invokevirtual 133, 3) := by decide +kernel
theorem dX6_takesRoot_63 : decode cX6_takesRoot 63 = .ok (.goto 10, 3) := by decide +kernel
theorem dX6_takesRoot_66 : decode cX6_takesRoot 66 = .ok (.aload_n 0, 1) := by decide +kernel
theorem dX6_takesRoot_67 : decode cX6_takesRoot 67 = .ok (.iload_n 1, 1) := by decide +kernel
theorem dX6_takesRoot_68 : decode cX6_takesRoot 68 = .ok (.iconst 1, 1) := by decide +kernel
theorem dX6_takesRoot_69 : decode cX6_takesRoot 69 = .ok (.invokevirtual 133, 3) := by decide +kernel
theorem dX6_takesRoot_72 : decode cX6_takesRoot 72 = .ok (.lneg, 1) := by decide +kernel
theorem dX6_takesRoot_73 : decode cX6_takesRoot 73 = .ok (.putfield 147, 3) := by decide +kernel
theorem dX6_takesRoot_76 : decode cX6_takesRoot 76 = .ok (.aload_n 0, 1) := by decide +kernel
theorem dX6_takesRoot_77 : decode cX6_takesRoot 77 = .ok (.lconst 0, 1) := by decide +kernel
theorem dX6_takesRoot_78 : decode cX6_takesRoot 78 = .ok (.putfield 150, 3) := by decide +kernel
theorem dX6_takesRoot_81 : decode cX6_takesRoot 81 = .ok (.aload_n 0, 1) := by decide +kernel
theorem dX6_takesRoot_82 : decode cX6_takesRoot 82 = .ok (.lconst 0, 1) := by decide +kernel
theorem dX6_takesRoot_83 : decode cX6_takesRoot 83 = .ok (.putfield 153, 3) := by decide +kernel
theorem dX6_takesRoot_86 : decode cX6_takesRoot 86 = .ok (.goto 112, 3) := by decide +kernel
theorem dX6_takesRoot_89 : decode cX6_takesRoot 89 = .ok (.aload_n 0, 1) := by decide +kernel
theorem dX6_takesRoot_90 : decode cX6_takesRoot 90 = .ok (.iload_n 1, 1) := by decide +kernel
theorem dX6_takesRoot_91 : decode cX6_takesRoot 91 = .ok (.iconst 2, 1) := by decide +kernel
theorem dX6_takesRoot_92 : decode cX6_takesRoot 92 = .ok (.invokevirtual 133, 3) := by decide +kernel
theorem dX6_takesRoot_95 : decode cX6_takesRoot 95 = .ok (.lconst 0, 1) := by decide +kernel
theorem dX6_takesRoot_96 : decode cX6_takesRoot 96 = .ok (.lcmp, 1) := by decide +kernel
theorem dX6_takesRoot_97 : decode cX6_takesRoot 97 = .ok (.ifCond .le 7, 3) := by decide +kernel
theorem dX6_takesRoot_100 : decode cX6_takesRoot 100 = .ok (.iconst 1, 1) := by decide +kernel
theorem dX6_takesRoot_101 : decode cX6_takesRoot 101 = .ok (.goto 4, 3) := by decide +kernel
theorem dX6_takesRoot_104 : decode cX6_takesRoot 104 = .ok (.iconst 0, 1) := by decide +kernel
theorem dX6_takesRoot_105 : decode cX6_takesRoot 105 = .ok (.istore_n 3, 1) := by decide +kernel
theorem dX6_takesRoot_106 : decode cX6_takesRoot 106 = .ok (.aload_n 0, 1) := by decide +kernel
theorem dX6_takesRoot_107 : decode cX6_takesRoot 107 = .ok (.iload_n 3, 1) := by decide +kernel
theorem dX6_takesRoot_108 : decode cX6_takesRoot 108 = .ok (.ifCond .eq 13, 3) := by decide +kernel
theorem dX6_takesRoot_111 : decode cX6_takesRoot 111 = .ok (.aload_n 0, 1) := by decide +kernel
theorem dX6_takesRoot_112 : decode cX6_takesRoot 112 = .ok (.iload_n 1, 1) := by decide +kernel
theorem dX6_takesRoot_113 : decode cX6_takesRoot 113 = .ok (.iconst 1, 1) := by decide +kernel
theorem dX6_takesRoot_114 : decode cX6_takesRoot 114 = .ok (.invokevirtual 133, 3) := by decide +kernel
theorem dX6_takesRoot_117 : decode cX6_takesRoot 117 = .ok (.lneg, 1) := by decide +kernel
theorem dX6_takesRoot_118 : decode cX6_takesRoot 118 = .ok (.goto 9, 3) := by decide +kernel
theorem dX6_takesRoot_121 : decode cX6_takesRoot 121 = .ok (.aload_n 0, 1) := by decide +kernel
theorem dX6_takesRoot_122 : decode cX6_takesRoot 122 = .ok (.iload_n 1, 1) := by decide +kernel
theorem dX6_takesRoot_123 : decode cX6_takesRoot 123 = .ok (.iconst 1, 1) := by decide +kernel
theorem dX6_takesRoot_124 : decode cX6_takesRoot 124 = .ok (.invokevirtual 133, 3) := by decide +kernel
theorem dX6_takesRoot_127 : decode cX6_takesRoot 127 = .ok (.putfield 143, 3) := by decide +kernel
theorem dX6_takesRoot_130 : decode cX6_takesRoot 130 = .ok (.aload_n 0, 1) := by decide +kernel
theorem dX6_takesRoot_131 : decode cX6_takesRoot 131 = .ok (.iload_n 3, 1) := by decide +kernel
theorem dX6_takesRoot_132 : decode cX6_takesRoot 132 = .ok (.ifCond .eq 16, 3) := by decide +kernel
theorem dX6_takesRoot_135 : decode cX6_takesRoot 135 = .ok (.ldc2_w 117, 3) := by decide +kernel
theorem dX6_takesRoot_138 : decode cX6_takesRoot 138 = .ok (.aload_n 0, 1) := by decide +kernel
theorem dX6_takesRoot_139 : decode cX6_takesRoot 139 = .ok (.iload_n 1, 1) := by decide +kernel
theorem dX6_takesRoot_140 : decode cX6_takesRoot 140 = .ok (.iconst 2, 1) := by decide +kernel
theorem dX6_takesRoot_141 : decode cX6_takesRoot 141 = .ok (.invokevirtual 133, 3) := by decide +kernel
theorem dX6_takesRoot_144 : decode cX6_takesRoot 144 = .ok (.lmul, 1) := by decide +kernel
theorem dX6_takesRoot_145 : decode cX6_takesRoot 145 = .ok (.goto 13, 3) := by decide +kernel
theorem dX6_takesRoot_148 : decode cX6_takesRoot 148 = .ok (.ldc2_w 156, 3) := by decide +kernel
theorem dX6_takesRoot_151 : decode cX6_takesRoot 151 = .ok (.aload_n 0, 1) := by decide +kernel
theorem dX6_takesRoot_152 : decode cX6_takesRoot 152 = .ok (.iload_n 1, 1) := by decide +kernel
theorem dX6_takesRoot_153 : decode cX6_takesRoot 153 = .ok (.iconst 2, 1) := by decide +kernel
theorem dX6_takesRoot_154 : decode cX6_takesRoot 154 = .ok (.invokevirtual 133, 3) := by decide +kernel
theorem dX6_takesRoot_157 : decode cX6_takesRoot 157 = .ok (.lmul, 1) := by decide +kernel
theorem dX6_takesRoot_158 : decode cX6_takesRoot 158 = .ok (.putfield 147, 3) := by decide +kernel
theorem dX6_takesRoot_161 : decode cX6_takesRoot 161 = .ok (.aload_n 0, 1) := by decide +kernel
theorem dX6_takesRoot_162 : decode cX6_takesRoot 162 = .ok (.aload_n 0, 1) := by decide +kernel
theorem dX6_takesRoot_163 : decode cX6_takesRoot 163 = .ok (.iload_n 1, 1) := by decide +kernel
theorem dX6_takesRoot_164 : decode cX6_takesRoot 164 = .ok (.invokevirtual 139, 3) := by decide +kernel
theorem dX6_takesRoot_167 : decode cX6_takesRoot 167 = .ok (.putfield 153, 3) := by decide +kernel
theorem dX6_takesRoot_170 : decode cX6_takesRoot 170 = .ok (.aload_n 0, 1) := by decide +kernel
theorem dX6_takesRoot_171 : decode cX6_takesRoot 171 = .ok (.aload_n 0, 1) := by decide +kernel
theorem dX6_takesRoot_172 : decode cX6_takesRoot 172 = .ok (.getfield 153, 3) := by decide +kernel
theorem dX6_takesRoot_175 : decode cX6_takesRoot 175 = .ok (.lconst 0, 1) := by decide +kernel
theorem dX6_takesRoot_176 : decode cX6_takesRoot 176 = .ok (.lcmp, 1) := by decide +kernel
theorem dX6_takesRoot_177 : decode cX6_takesRoot 177 = .ok (.ifCond .ne 7, 3) := by decide +kernel
theorem dX6_takesRoot_180 : decode cX6_takesRoot 180 = .ok (.lconst 0, 1) := by decide +kernel
theorem dX6_takesRoot_181 : decode cX6_takesRoot 181 = .ok (.goto 14, 3) := by decide +kernel
theorem dX6_takesRoot_184 : decode cX6_takesRoot 184 = .ok (.iload_n 2, 1) := by decide +kernel
theorem dX6_takesRoot_185 : decode cX6_takesRoot 185 = .ok (.ifCond .ne 9, 3) := by decide +kernel
theorem dX6_takesRoot_188 : decode cX6_takesRoot 188 = .ok (.ldc2_w 158, 3) := by decide +kernel
theorem dX6_takesRoot_191 : decode cX6_takesRoot 191 = .ok (.goto 4, 3) := by decide +kernel
theorem dX6_takesRoot_194 : decode cX6_takesRoot 194 = .ok (.lconst 1, 1) := by decide +kernel
theorem dX6_takesRoot_195 : decode cX6_takesRoot 195 = .ok (.putfield 150, 3) := by decide +kernel
theorem dX6_takesRoot_198 : decode cX6_takesRoot 198 = .ok (.return_, 1) := by decide +kernel
set_option maxRecDepth 20000 in
theorem ggX6_signHere_X6_signOfTwo : GoodIn wsX6_signHere wsX6_signOfTwo := goodIn_r _ [9, 10, 11, 8, 12] (by decide +kernel) (by decide +kernel)
set_option maxRecDepth 20000 in
theorem gX6_signHere_X6_signOfTwo : GoodIn wsX6_signHere (va_wsS RX6 160 yX6_signOfTwo wsX6_signOfTwo) := goodIn_app (goodIn_of _ (by decide +kernel)) ggX6_signHere_X6_signOfTwo
theorem dX6_signHere_0 : decode cX6_signHere 0 = .ok (.lload 5, 2) := by decide +kernel
theorem dX6_signHere_2 : decode cX6_signHere 2 = .ok (.aload_n 0, 1) := by decide +kernel
theorem dX6_signHere_3 : decode cX6_signHere 3 = .ok (.getfield 143, 3) := by decide +kernel
theorem dX6_signHere_6 : decode cX6_signHere 6 = .ok (.aload_n 0, 1) := by decide +kernel
theorem dX6_signHere_7 : decode cX6_signHere 7 = .ok (.getfield 143, 3) := by decide +kernel
theorem dX6_signHere_10 : decode cX6_signHere 10 = .ok (.lmul, 1) := by decide +kernel
theorem dX6_signHere_11 : decode cX6_signHere 11 = .ok (.aload_n 0, 1) := by decide +kernel
theorem dX6_signHere_12 : decode cX6_signHere 12 = .ok (.getfield 150, 3) := by decide +kernel
theorem dX6_signHere_15 : decode cX6_signHere 15 = .ok (.aload_n 0, 1) := by decide +kernel
theorem dX6_signHere_16 : decode cX6_signHere 16 = .ok (.getfield 150, 3) := by decide +kernel
theorem dX6_signHere_19 : decode cX6_signHere 19 = .ok (.lmul, 1) := by decide +kernel
theorem dX6_signHere_20 : decode cX6_signHere 20 = .ok (.aload_n 0, 1) := by decide +kernel
theorem dX6_signHere_21 : decode cX6_signHere 21 = .ok (.getfield 153, 3) := by decide +kernel
theorem dX6_signHere_24 : decode cX6_signHere 24 = .ok (.lmul, 1) := by decide +kernel
theorem dX6_signHere_25 : decode cX6_signHere 25 = .ok (.ladd, 1) := by decide +kernel
theorem dX6_signHere_26 : decode cX6_signHere 26 = .ok (.lmul, 1) := by decide +kernel
theorem dX6_signHere_27 : decode cX6_signHere 27 = .ok (.lload_n 3, 1) := by decide +kernel
theorem dX6_signHere_28 : decode cX6_signHere 28 = .ok (.aload_n 0, 1) := by decide +kernel
theorem dX6_signHere_29 : decode cX6_signHere 29 = .ok (.getfield 147, 3) := by decide +kernel
theorem dX6_signHere_32 : decode cX6_signHere 32 = .ok (.lmul, 1) := by decide +kernel
theorem dX6_signHere_33 : decode cX6_signHere 33 = .ok (.aload_n 0, 1) := by decide +kernel
theorem dX6_signHere_34 : decode cX6_signHere 34 = .ok (.getfield 143, 3) := by decide +kernel
theorem dX6_signHere_37 : decode cX6_signHere 37 = .ok (.lmul, 1) := by decide +kernel
theorem dX6_signHere_38 : decode cX6_signHere 38 = .ok (.ladd, 1) := by decide +kernel
theorem dX6_signHere_39 : decode cX6_signHere 39 = .ok (.lload_n 1, 1) := by decide +kernel
theorem dX6_signHere_40 : decode cX6_signHere 40 = .ok (.aload_n 0, 1) := by decide +kernel
theorem dX6_signHere_41 : decode cX6_signHere 41 = .ok (.getfield 147, 3) := by decide +kernel
theorem dX6_signHere_44 : decode cX6_signHere 44 = .ok (.lmul, 1) := by decide +kernel
theorem dX6_signHere_45 : decode cX6_signHere 45 = .ok (.aload_n 0, 1) := by decide +kernel
theorem dX6_signHere_46 : decode cX6_signHere 46 = .ok (.getfield 147, 3) := by decide +kernel
theorem dX6_signHere_49 : decode cX6_signHere 49 = .ok (.lmul, 1) := by decide +kernel
theorem dX6_signHere_50 : decode cX6_signHere 50 = .ok (.ladd, 1) := by decide +kernel
theorem dX6_signHere_51 : decode cX6_signHere 51 = .ok (.lstore 7, 2) := by decide +kernel
theorem dX6_signHere_53 : decode cX6_signHere 53 = .ok (.aload_n 0, 1) := by decide +kernel
theorem dX6_signHere_54 : decode cX6_signHere 54 = .ok (.getfield 150, 3) := by decide +kernel
theorem dX6_signHere_57 : decode cX6_signHere 57 = .ok (.ldc2_w 117, 3) := by decide +kernel
theorem dX6_signHere_60 : decode cX6_signHere 60 = .ok (.lload 5, 2) := by decide +kernel
theorem dX6_signHere_62 : decode cX6_signHere 62 = .ok (.lmul, 1) := by decide +kernel
theorem dX6_signHere_63 : decode cX6_signHere 63 = .ok (.aload_n 0, 1) := by decide +kernel
theorem dX6_signHere_64 : decode cX6_signHere 64 = .ok (.getfield 143, 3) := by decide +kernel
theorem dX6_signHere_67 : decode cX6_signHere 67 = .ok (.lmul, 1) := by decide +kernel
theorem dX6_signHere_68 : decode cX6_signHere 68 = .ok (.lload_n 3, 1) := by decide +kernel
theorem dX6_signHere_69 : decode cX6_signHere 69 = .ok (.aload_n 0, 1) := by decide +kernel
theorem dX6_signHere_70 : decode cX6_signHere 70 = .ok (.getfield 147, 3) := by decide +kernel
theorem dX6_signHere_73 : decode cX6_signHere 73 = .ok (.lmul, 1) := by decide +kernel
theorem dX6_signHere_74 : decode cX6_signHere 74 = .ok (.ladd, 1) := by decide +kernel
theorem dX6_signHere_75 : decode cX6_signHere 75 = .ok (.lmul, 1) := by decide +kernel
theorem dX6_signHere_76 : decode cX6_signHere 76 = .ok (.lstore 9, 2) := by decide +kernel
theorem dX6_signHere_78 : decode cX6_signHere 78 = .ok (.lload 7, 2) := by decide +kernel
theorem dX6_signHere_80 : decode cX6_signHere 80 = .ok (.lload 9, 2) := by decide +kernel
theorem dX6_signHere_82 : decode cX6_signHere 82 = .ok (.aload_n 0, 1) := by decide +kernel
theorem dX6_signHere_83 : decode cX6_signHere 83 = .ok (.getfield 153, 3) := by decide +kernel
theorem dX6_signHere_86 : decode cX6_signHere 86 = .ok (.invokestatic 160, 3) := by decide +kernel
