theorem dX6_signHere_89 : decode cX6_signHere 89 = .ok (.ireturn, 1) := by decide +kernel
set_option maxRecDepth 20000 in
theorem ggX6_signOfAt_X6_is : GoodIn wsX6_signOfAt wsX6_is := goodIn_r _ [5, 6, 7, 8, 23, 24, 25, 26, 27, 28, 29, 30, 31, 32, 33, 34, 35, 36, 37, 38, 39, 40, 41, 42, 43, 44, 45, 46, 47, 48, 49, 50, 51, 52] (by decide +kernel) (by decide +kernel)
set_option maxRecDepth 20000 in
theorem gX6_signOfAt_X6_is : GoodIn wsX6_signOfAt (wsV RX6 133 RX6 yX6_is wsX6_is) := goodIn_app (goodIn_of _ (by decide +kernel)) ggX6_signOfAt_X6_is
set_option maxRecDepth 20000 in
theorem ggX6_signOfAt_X6_signHere : GoodIn wsX6_signOfAt wsX6_signHere := goodIn_r _ [12, 13, 14, 15, 16, 8, 17, 18, 4, 19, 20, 21, 22, 23, 24, 25, 26, 27, 28, 29, 30, 31, 32, 33, 34, 35, 36, 37, 38, 39, 40, 41, 42, 43, 44, 45, 46, 47, 48, 49, 50, 51, 52] (by decide +kernel) (by decide +kernel)
set_option maxRecDepth 20000 in
theorem gX6_signOfAt_X6_signHere : GoodIn wsX6_signOfAt (wsV RX6 164 RX6 yX6_signHere wsX6_signHere) := goodIn_app (goodIn_of _ (by decide +kernel)) ggX6_signOfAt_X6_signHere
theorem dX6_signOfAt_0 : decode cX6_signOfAt 0 = .ok (.aload_n 0, 1) := by decide +kernel
theorem dX6_signOfAt_1 : decode cX6_signOfAt 1 = .ok (.aload_n 0, 1) := by decide +kernel
theorem dX6_signOfAt_2 : decode cX6_signOfAt 2 = .ok (.iload_n 1, 1) := by decide +kernel
theorem dX6_signOfAt_3 : decode cX6_signOfAt 3 = .ok (.iconst 0, 1) := by decide +kernel
theorem dX6_signOfAt_4 : decode cX6_signOfAt 4 = .ok (.invokevirtual 133, 3) := by decide +kernel
theorem dX6_signOfAt_7 : decode cX6_signOfAt 7 = .ok (.aload_n 0, 1) := by decide +kernel
theorem dX6_signOfAt_8 : decode cX6_signOfAt 8 = .ok (.iload_n 1, 1) := by decide +kernel
theorem dX6_signOfAt_9 : decode cX6_signOfAt 9 = .ok (.iconst 1, 1) := by decide +kernel
theorem dX6_signOfAt_10 : decode cX6_signOfAt 10 = .ok (.invokevirtual 133, 3) := by decide +kernel
theorem dX6_signOfAt_13 : decode cX6_signOfAt 13 = .ok (.aload_n 0, 1) := by decide +kernel
theorem dX6_signOfAt_14 : decode cX6_signOfAt 14 = .ok (.iload_n 1, 1) := by decide +kernel
theorem dX6_signOfAt_15 : decode cX6_signOfAt 15 = .ok (.iconst 2, 1) := by decide +kernel
theorem dX6_signOfAt_16 : decode cX6_signOfAt 16 = .ok (.invokevirtual 133, 3) := by decide +kernel
theorem dX6_signOfAt_19 : decode cX6_signOfAt 19 = .ok (.invokevirtual 164, 3) := by decide +kernel
theorem dX6_signOfAt_22 : decode cX6_signOfAt 22 = .ok (.ireturn, 1) := by decide +kernel
set_option maxRecDepth 20000 in
theorem ggX6_compares_X6_signOfTwo : GoodIn wsX6_compares wsX6_signOfTwo := goodIn_r _ [13, 14, 15, 12, 16] (by decide +kernel) (by decide +kernel)
set_option maxRecDepth 20000 in
theorem gX6_compares_X6_signOfTwo : GoodIn wsX6_compares (va_wsS RX6 160 yX6_signOfTwo wsX6_signOfTwo) := goodIn_app (goodIn_of _ (by decide +kernel)) ggX6_compares_X6_signOfTwo
set_option maxRecDepth 20000 in
theorem ggX6_compares_X6_signOf : GoodIn wsX6_compares wsX6_signOf := goodIn_r _ [16] (by decide +kernel) (by decide +kernel)
set_option maxRecDepth 20000 in
theorem gX6_compares_X6_signOf : GoodIn wsX6_compares (va_wsS RX6 129 yX6_signOf wsX6_signOf) := goodIn_app (goodIn_of _ (by decide +kernel)) ggX6_compares_X6_signOf
theorem dX6_compares_0 : decode cX6_compares 0 = .ok (.aload_n 0, 1) := by decide +kernel
theorem dX6_compares_1 : decode cX6_compares 1 = .ok (.getfield 143, 3) := by decide +kernel
theorem dX6_compares_4 : decode cX6_compares 4 = .ok (.aload_n 0, 1) := by decide +kernel
theorem dX6_compares_5 : decode cX6_compares 5 = .ok (.getfield 32, 3) := by decide +kernel
theorem dX6_compares_8 : decode cX6_compares 8 = .ok (.iload_n 1, 1) := by decide +kernel
theorem dX6_compares_9 : decode cX6_compares 9 = .ok (.laload, 1) := by decide +kernel
theorem dX6_compares_10 : decode cX6_compares 10 = .ok (.lmul, 1) := by decide +kernel
theorem dX6_compares_11 : decode cX6_compares 11 = .ok (.aload_n 0, 1) := by decide +kernel
theorem dX6_compares_12 : decode cX6_compares 12 = .ok (.getfield 22, 3) := by decide +kernel
theorem dX6_compares_15 : decode cX6_compares 15 = .ok (.iload_n 1, 1) := by decide +kernel
theorem dX6_compares_16 : decode cX6_compares 16 = .ok (.laload, 1) := by decide +kernel
theorem dX6_compares_17 : decode cX6_compares 17 = .ok (.aload_n 0, 1) := by decide +kernel
theorem dX6_compares_18 : decode cX6_compares 18 = .ok (.getfield 147, 3) := by decide +kernel
theorem dX6_compares_21 : decode cX6_compares 21 = .ok (.lmul, 1) := by decide +kernel
theorem dX6_compares_22 : decode cX6_compares 22 = .ok (.lsub, 1) := by decide +kernel
theorem dX6_compares_23 : decode cX6_compares 23 = .ok (.lstore_n 2, 1) := by decide +kernel
theorem dX6_compares_24 : decode cX6_compares 24 = .ok (.aload_n 0, 1) := by decide +kernel
theorem dX6_compares_25 : decode cX6_compares 25 = .ok (.getfield 150, 3) := by decide +kernel
theorem dX6_compares_28 : decode cX6_compares 28 = .ok (.aload_n 0, 1) := by decide +kernel
theorem dX6_compares_29 : decode cX6_compares 29 = .ok (.getfield 32, 3) := by decide +kernel
theorem dX6_compares_32 : decode cX6_compares 32 = .ok (.iload_n 1, 1) := by decide +kernel
theorem dX6_compares_33 : decode cX6_compares 33 = .ok (.laload, 1) := by decide +kernel
theorem dX6_compares_34 : decode cX6_compares 34 = .ok (.lmul, 1) := by decide +kernel
theorem dX6_compares_35 : decode cX6_compares 35 = .ok (.lstore 4, 2) := by decide +kernel
theorem dX6_compares_37 : decode cX6_compares 37 = .ok (.aload_n 0, 1) := by decide +kernel
theorem dX6_compares_38 : decode cX6_compares 38 = .ok (.getfield 26, 3) := by decide +kernel
theorem dX6_compares_41 : decode cX6_compares 41 = .ok (.iload_n 1, 1) := by decide +kernel
theorem dX6_compares_42 : decode cX6_compares 42 = .ok (.laload, 1) := by decide +kernel
theorem dX6_compares_43 : decode cX6_compares 43 = .ok (.aload_n 0, 1) := by decide +kernel
theorem dX6_compares_44 : decode cX6_compares 44 = .ok (.getfield 147, 3) := by decide +kernel
theorem dX6_compares_47 : decode cX6_compares 47 = .ok (.lmul, 1) := by decide +kernel
theorem dX6_compares_48 : decode cX6_compares 48 = .ok (.lstore 6, 2) := by decide +kernel
theorem dX6_compares_50 : decode cX6_compares 50 = .ok (.lload_n 2, 1) := by decide +kernel
theorem dX6_compares_51 : decode cX6_compares 51 = .ok (.lload 4, 2) := by decide +kernel
theorem dX6_compares_53 : decode cX6_compares 53 = .ok (.aload_n 0, 1) := by decide +kernel
theorem dX6_compares_54 : decode cX6_compares 54 = .ok (.getfield 153, 3) := by decide +kernel
theorem dX6_compares_57 : decode cX6_compares 57 = .ok (.invokestatic 160, 3) := by decide +kernel
theorem dX6_compares_60 : decode cX6_compares 60 = .ok (.istore 8, 2) := by decide +kernel
theorem dX6_compares_62 : decode cX6_compares 62 = .ok (.aload_n 0, 1) := by decide +kernel
theorem dX6_compares_63 : decode cX6_compares 63 = .ok (.getfield 29, 3) := by decide +kernel
theorem dX6_compares_66 : decode cX6_compares 66 = .ok (.iload_n 1, 1) := by decide +kernel
theorem dX6_compares_67 : decode cX6_compares 67 = .ok (.laload, 1) := by decide +kernel
theorem dX6_compares_68 : decode cX6_compares 68 = .ok (.lconst 0, 1) := by decide +kernel
theorem dX6_compares_69 : decode cX6_compares 69 = .ok (.lcmp, 1) := by decide +kernel
theorem dX6_compares_70 : decode cX6_compares 70 = .ok (.ifCond .ne 7, 3) := by decide +kernel
theorem dX6_compares_73 : decode cX6_compares 73 = .ok (.iconst 0, 1) := by decide +kernel
theorem dX6_compares_74 : decode cX6_compares 74 = .ok (.goto 8, 3) := by decide +kernel
theorem dX6_compares_77 : decode cX6_compares 77 = .ok (.lload 6, 2) := by decide +kernel
theorem dX6_compares_79 : decode cX6_compares 79 = .ok (.invokestatic 129, 3) := by decide +kernel
theorem dX6_compares_82 : decode cX6_compares 82 = .ok (.istore 9, 2) := by decide +kernel
theorem dX6_compares_84 : decode cX6_compares 84 = .ok (.iload 8, 2) := by decide +kernel
theorem dX6_compares_86 : decode cX6_compares 86 = .ok (.iload 9, 2) := by decide +kernel
theorem dX6_compares_88 : decode cX6_compares 88 = .ok (.if_icmp .eq 16, 3) := by decide +kernel
theorem dX6_compares_91 : decode cX6_compares 91 = .ok (.iload 8, 2) := by decide +kernel
theorem dX6_compares_93 : decode cX6_compares 93 = .ok (.iload 9, 2) := by decide +kernel
theorem dX6_compares_95 : decode cX6_compares 95 = .ok (.if_icmp .ge 7, 3) := by decide +kernel
theorem dX6_compares_98 : decode cX6_compares 98 = .ok (.iconst (-1), 1) := by decide +kernel
theorem dX6_compares_99 : decode cX6_compares 99 = .ok (.goto 4, 3) := by decide +kernel
theorem dX6_compares_102 : decode cX6_compares 102 = .ok (.iconst 1, 1) := by decide +kernel
theorem dX6_compares_103 : decode cX6_compares 103 = .ok (.ireturn, 1) := by decide +kernel
theorem dX6_compares_104 : decode cX6_compares 104 = .ok (.lload_n 2, 1) := by decide +kernel
theorem dX6_compares_105 : decode cX6_compares 105 = .ok (.lload_n 2, 1) := by decide +kernel
theorem dX6_compares_106 : decode cX6_compares 106 = .ok (.lmul, 1) := by decide +kernel
theorem dX6_compares_107 : decode cX6_compares 107 = .ok (.lload 4, 2) := by decide +kernel
theorem dX6_compares_109 : decode cX6_compares 109 = .ok (.lload 4, 2) := by decide +kernel
theorem dX6_compares_111 : decode cX6_compares 111 = .ok (.lmul, 1) := by decide +kernel
theorem dX6_compares_112 : decode cX6_compares 112 = .ok (.aload_n 0, 1) := by decide +kernel
theorem dX6_compares_113 : decode cX6_compares 113 = .ok (.getfield 153, 3) := by decide +kernel
theorem dX6_compares_116 : decode cX6_compares 116 = .ok (.lmul, 1) := by decide +kernel
theorem dX6_compares_117 : decode cX6_compares 117 = .ok (.ladd, 1) := by decide +kernel
theorem dX6_compares_118 : decode cX6_compares 118 = .ok (.lload 6, 2) := by decide +kernel
theorem dX6_compares_120 : decode cX6_compares 120 = .ok (.lload 6, 2) := by decide +kernel
theorem dX6_compares_122 : decode cX6_compares 122 = .ok (.lmul, 1) := by decide +kernel
theorem dX6_compares_123 : decode cX6_compares 123 = .ok (.aload_n 0, 1) := by decide +kernel
theorem dX6_compares_124 : decode cX6_compares 124 = .ok (.getfield 29, 3) := by decide +kernel
theorem dX6_compares_127 : decode cX6_compares 127 = .ok (.iload_n 1, 1) := by decide +kernel
theorem dX6_compares_128 : decode cX6_compares 128 = .ok (.laload, 1) := by decide +kernel
theorem dX6_compares_129 : decode cX6_compares 129 = .ok (.lmul, 1) := by decide +kernel
theorem dX6_compares_130 : decode cX6_compares 130 = .ok (.lsub, 1) := by decide +kernel
theorem dX6_compares_131 : decode cX6_compares 131 = .ok (.ldc2_w 117, 3) := by decide +kernel
theorem dX6_compares_134 : decode cX6_compares 134 = .ok (.lload_n 2, 1) := by decide +kernel
theorem dX6_compares_135 : decode cX6_compares 135 = .ok (.lmul, 1) := by decide +kernel
theorem dX6_compares_136 : decode cX6_compares 136 = .ok (.lload 4, 2) := by decide +kernel
theorem dX6_compares_138 : decode cX6_compares 138 = .ok (.lmul, 1) := by decide +kernel
theorem dX6_compares_139 : decode cX6_compares 139 = .ok (.aload_n 0, 1) := by decide +kernel
theorem dX6_compares_140 : decode cX6_compares 140 = .ok (.getfield 153, 3) := by decide +kernel
theorem dX6_compares_143 : decode cX6_compares 143 = .ok (.invokestatic 160, 3) := by decide +kernel
theorem dX6_compares_146 : decode cX6_compares 146 = .ok (.istore 10, 2) := by decide +kernel
theorem dX6_compares_148 : decode cX6_compares 148 = .ok (.iload 8, 2) := by decide +kernel
theorem dX6_compares_150 : decode cX6_compares 150 = .ok (.ifCond .ge 9, 3) := by decide +kernel
theorem dX6_compares_153 : decode cX6_compares 153 = .ok (.iload 10, 2) := by decide +kernel
theorem dX6_compares_155 : decode cX6_compares 155 = .ok (.ineg, 1) := by decide +kernel
theorem dX6_compares_156 : decode cX6_compares 156 = .ok (.goto 5, 3) := by decide +kernel
theorem dX6_compares_159 : decode cX6_compares 159 = .ok (.iload 10, 2) := by decide +kernel
theorem dX6_compares_161 : decode cX6_compares 161 = .ok (.ireturn, 1) := by decide +kernel
theorem dX6_puts_0 : decode cX6_puts 0 = .ok (.aload_n 0, 1) := by decide +kernel
theorem dX6_puts_1 : decode cX6_puts 1 = .ok (.getfield 167, 3) := by decide +kernel
theorem dX6_puts_4 : decode cX6_puts 4 = .ok (.istore_n 2, 1) := by decide +kernel
theorem dX6_puts_5 : decode cX6_puts 5 = .ok (.iload_n 2, 1) := by decide +kernel
theorem dX6_puts_6 : decode cX6_puts 6 = .ok (.iload_n 1, 1) := by decide +kernel
theorem dX6_puts_7 : decode cX6_puts 7 = .ok (.if_icmp .le 65, 3) := by decide +kernel
theorem dX6_puts_10 : decode cX6_puts 10 = .ok (.aload_n 0, 1) := by decide +kernel
theorem dX6_puts_11 : decode cX6_puts 11 = .ok (.getfield 22, 3) := by decide +kernel
theorem dX6_puts_14 : decode cX6_puts 14 = .ok (.iload_n 2, 1) := by decide +kernel
theorem dX6_puts_15 : decode cX6_puts 15 = .ok (.aload_n 0, 1) := by decide +kernel
theorem dX6_puts_16 : decode cX6_puts 16 = .ok (.getfield 22, 3) := by decide +kernel
theorem dX6_puts_19 : decode cX6_puts 19 = .ok (.iload_n 2, 1) := by decide +kernel
theorem dX6_puts_20 : decode cX6_puts 20 = .ok (.iconst 1, 1) := by decide +kernel
theorem dX6_puts_21 : decode cX6_puts 21 = .ok (.isub, 1) := by decide +kernel
theorem dX6_puts_22 : decode cX6_puts 22 = .ok (.laload, 1) := by decide +kernel
theorem dX6_puts_23 : decode cX6_puts 23 = .ok (.lastore, 1) := by decide +kernel
theorem dX6_puts_24 : decode cX6_puts 24 = .ok (.aload_n 0, 1) := by decide +kernel
theorem dX6_puts_25 : decode cX6_puts 25 = .ok (.getfield 26, 3) := by decide +kernel
theorem dX6_puts_28 : decode cX6_puts 28 = .ok (.iload_n 2, 1) := by decide +kernel
theorem dX6_puts_29 : decode cX6_puts 29 = .ok (.aload_n 0, 1) := by decide +kernel
theorem dX6_puts_30 : decode cX6_puts 30 = .ok (.getfield 26, 3) := by decide +kernel
theorem dX6_puts_33 : decode cX6_puts 33 = .ok (.iload_n 2, 1) := by decide +kernel
theorem dX6_puts_34 : decode cX6_puts 34 = .ok (.iconst 1, 1) := by decide +kernel
theorem dX6_puts_35 : decode cX6_puts 35 = .ok (.isub, 1) := by decide +kernel
theorem dX6_puts_36 : decode cX6_puts 36 = .ok (.laload, 1) := by decide +kernel
theorem dX6_puts_37 : decode cX6_puts 37 = .ok (.lastore, 1) := by decide +kernel
theorem dX6_puts_38 : decode cX6_puts 38 = .ok (.aload_n 0, 1) := by decide +kernel
theorem dX6_puts_39 : decode cX6_puts 39 = .ok (.getfield 29, 3) := by decide +kernel
theorem dX6_puts_42 : decode cX6_puts 42 = .ok (.iload_n 2, 1) := by decide +kernel
theorem dX6_puts_43 : decode cX6_puts 43 = .ok (.aload_n 0, 1) := by decide +kernel
theorem dX6_puts_44 : decode cX6_puts 44 = .ok (.getfield 29, 3) := by decide +kernel
theorem dX6_puts_47 : decode cX6_puts 47 = .ok (.iload_n 2, 1) := by decide +kernel
theorem dX6_puts_48 : decode cX6_puts 48 = .ok (.iconst 1, 1) := by decide +kernel
theorem dX6_puts_49 : decode cX6_puts 49 = .ok (.isub, 1) := by decide +kernel
theorem dX6_puts_50 : decode cX6_puts 50 = .ok (.laload, 1) := by decide +kernel
theorem dX6_puts_51 : decode cX6_puts 51 = .ok (.lastore, 1) := by decide +kernel
theorem dX6_puts_52 : decode cX6_puts 52 = .ok (.aload_n 0, 1) := by decide +kernel
theorem dX6_puts_53 : decode cX6_puts 53 = .ok (.getfield 32, 3) := by decide +kernel
theorem dX6_puts_56 : decode cX6_puts 56 = .ok (.iload_n 2, 1) := by decide +kernel
theorem dX6_puts_57 : decode cX6_puts 57 = .ok (.aload_n 0, 1) := by decide +kernel
theorem dX6_puts_58 : decode cX6_puts 58 = .ok (.getfield 32, 3) := by decide +kernel
theorem dX6_puts_61 : decode cX6_puts 61 = .ok (.iload_n 2, 1) := by decide +kernel
theorem dX6_puts_62 : decode cX6_puts 62 = .ok (.iconst 1, 1) := by decide +kernel
theorem dX6_puts_63 : decode cX6_puts 63 = .ok (.isub, 1) := by decide +kernel
theorem dX6_puts_64 : decode cX6_puts 64 = .ok (.laload, 1) := by decide +kernel
theorem dX6_puts_65 : decode cX6_puts 65 = .ok (.lastore, 1) := by decide +kernel
theorem dX6_puts_66 : decode cX6_puts 66 = .ok (.iinc 2 (-1), 3) := by decide +kernel
theorem dX6_puts_69 : decode cX6_puts 69 = .ok (.goto (-64), 3) := by decide +kernel
theorem dX6_puts_72 : decode cX6_puts 72 = .ok (.aload_n 0, 1) := by decide +kernel
theorem dX6_puts_73 : decode cX6_puts 73 = .ok (.getfield 22, 3) := by decide +kernel
theorem dX6_puts_76 : decode cX6_puts 76 = .ok (.iload_n 1, 1) := by decide +kernel
theorem dX6_puts_77 : decode cX6_puts 77 = .ok (.aload_n 0, 1) := by decide +kernel
theorem dX6_puts_78 : decode cX6_puts 78 = .ok (.getfield 143, 3) := by decide +kernel
theorem dX6_puts_81 : decode cX6_puts 81 = .ok (.lastore, 1) := by decide +kernel
theorem dX6_puts_82 : decode cX6_puts 82 = .ok (.aload_n 0, 1) := by decide +kernel
theorem dX6_puts_83 : decode cX6_puts 83 = .ok (.getfield 26, 3) := by decide +kernel
theorem dX6_puts_86 : decode cX6_puts 86 = .ok (.iload_n 1, 1) := by decide +kernel
theorem dX6_puts_87 : decode cX6_puts 87 = .ok (.aload_n 0, 1) := by decide +kernel
theorem dX6_puts_88 : decode cX6_puts 88 = .ok (.getfield 150, 3) := by decide +kernel
theorem dX6_puts_91 : decode cX6_puts 91 = .ok (.lastore, 1) := by decide +kernel
theorem dX6_puts_92 : decode cX6_puts 92 = .ok (.aload_n 0, 1) := by decide +kernel
theorem dX6_puts_93 : decode cX6_puts 93 = .ok (.getfield 29, 3) := by decide +kernel
theorem dX6_puts_96 : decode cX6_puts 96 = .ok (.iload_n 1, 1) := by decide +kernel
theorem dX6_puts_97 : decode cX6_puts 97 = .ok (.aload_n 0, 1) := by decide +kernel
theorem dX6_puts_98 : decode cX6_puts 98 = .ok (.getfield 153, 3) := by decide +kernel
theorem dX6_puts_101 : decode cX6_puts 101 = .ok (.lastore, 1) := by decide +kernel
theorem dX6_puts_102 : decode cX6_puts 102 = .ok (.aload_n 0, 1) := by decide +kernel
theorem dX6_puts_103 : decode cX6_puts 103 = .ok (.getfield 32, 3) := by decide +kernel
theorem dX6_puts_106 : decode cX6_puts 106 = .ok (.iload_n 1, 1) := by decide +kernel
theorem dX6_puts_107 : decode cX6_puts 107 = .ok (.aload_n 0, 1) := by decide +kernel
theorem dX6_puts_108 : decode cX6_puts 108 = .ok (.getfield 147, 3) := by decide +kernel
theorem dX6_puts_111 : decode cX6_puts 111 = .ok (.lastore, 1) := by decide +kernel
theorem dX6_puts_112 : decode cX6_puts 112 = .ok (.aload_n 0, 1) := by decide +kernel
theorem dX6_puts_113 : decode cX6_puts 113 = .ok (.dup, 1) := by decide +kernel
theorem dX6_puts_114 : decode cX6_puts 114 = .ok (.getfield 167, 3) := by decide +kernel
theorem dX6_puts_117 : decode cX6_puts 117 = .ok (.iconst 1, 1) := by decide +kernel
theorem dX6_puts_118 : decode cX6_puts 118 = .ok (.iadd, 1) := by decide +kernel
theorem dX6_puts_119 : decode cX6_puts 119 = .ok (.putfield 167, 3) := by decide +kernel
theorem dX6_puts_122 : decode cX6_puts 122 = .ok (.return_, 1) := by decide +kernel
set_option maxRecDepth 20000 in
theorem ggX6_gathers_X6_rootsOf : GoodIn wsX6_gathers wsX6_rootsOf := goodIn_r _ [7, 8, 9, 10, 6, 11, 12, 13, 14, 15, 16, 17, 18, 19, 48, 49, 50, 51, 52, 53, 54, 55, 56, 57, 58, 59, 60, 61, 62, 63, 64, 65, 66, 67, 68, 69, 70, 71, 72, 73, 74, 75, 76, 77] (by decide +kernel) (by decide +kernel)
set_option maxRecDepth 20000 in
theorem gX6_gathers_X6_rootsOf : GoodIn wsX6_gathers (wsV RX6 170 RX6 yX6_rootsOf wsX6_rootsOf) := goodIn_app (goodIn_of _ (by decide +kernel)) ggX6_gathers_X6_rootsOf
set_option maxRecDepth 20000 in
theorem ggX6_gathers_X6_takesRoot : GoodIn wsX6_gathers wsX6_takesRoot := goodIn_r _ [23, 24, 25, 26, 27, 14, 28, 29, 8, 9, 10, 6, 11, 12, 13, 15, 16, 17, 18, 19, 48, 49, 50, 51, 52, 53, 54, 55, 56, 57, 58, 59, 60, 61, 62, 63, 64, 65, 66, 67, 68, 69, 70, 71, 72, 73, 74, 75, 76, 77] (by decide +kernel) (by decide +kernel)
set_option maxRecDepth 20000 in
theorem gX6_gathers_X6_takesRoot : GoodIn wsX6_gathers (wsV RX6 173 RX6 yX6_takesRoot wsX6_takesRoot) := goodIn_app (goodIn_of _ (by decide +kernel)) ggX6_gathers_X6_takesRoot
set_option maxRecDepth 20000 in
theorem ggX6_gathers_X6_compares : GoodIn wsX6_gathers wsX6_compares := goodIn_r _ [33, 24, 34, 35, 25, 26, 36, 27, 37, 14, 38, 39, 6, 40, 41, 42, 43, 48, 49, 50, 51, 52, 53, 54, 55, 56, 57, 58, 59, 60, 61, 62, 63, 64, 65, 66, 67, 68, 69, 70, 71, 72, 73, 74, 75, 76, 77] (by decide +kernel) (by decide +kernel)
set_option maxRecDepth 20000 in
theorem gX6_gathers_X6_compares : GoodIn wsX6_gathers (wsV RX6 177 RX6 yX6_compares wsX6_compares) := goodIn_app (goodIn_of _ (by decide +kernel)) ggX6_gathers_X6_compares
set_option maxRecDepth 20000 in
theorem ggX6_gathers_X6_puts : GoodIn wsX6_gathers wsX6_puts := goodIn_r _ [47, 1, 35, 36, 37, 34, 24, 26, 27, 25, 48, 49, 50, 51, 52, 53, 54, 55, 56, 57, 58, 59, 60, 61, 62, 63, 64, 65, 66, 67, 68, 69, 70, 71, 72, 73, 74, 75, 76, 77] (by decide +kernel) (by decide +kernel)
set_option maxRecDepth 20000 in
theorem gX6_gathers_X6_puts : GoodIn wsX6_gathers (wsV RX6 180 RX6 yX6_puts wsX6_puts) := goodIn_app (goodIn_of _ (by decide +kernel)) ggX6_gathers_X6_puts
theorem dX6_gathers_0 : decode cX6_gathers 0 = .ok (.aload_n 0, 1) := by decide +kernel
theorem dX6_gathers_1 : decode cX6_gathers 1 = .ok (.iconst 0, 1) := by decide +kernel
theorem dX6_gathers_2 : decode cX6_gathers 2 = .ok (.putfield 167, 3) := by decide +kernel
theorem dX6_gathers_5 : decode cX6_gathers 5 = .ok (.iconst 0, 1) := by decide +kernel
theorem dX6_gathers_6 : decode cX6_gathers 6 = .ok (.istore_n 1, 1) := by decide +kernel
theorem dX6_gathers_7 : decode cX6_gathers 7 = .ok (.iload_n 1, 1) := by decide +kernel
theorem dX6_gathers_8 : decode cX6_gathers 8 = .ok (.aload_n 0, 1) := by decide +kernel
theorem dX6_gathers_9 : decode cX6_gathers 9 = .ok (.getfield 75, 3) := by decide +kernel
theorem dX6_gathers_12 : decode cX6_gathers 12 = .ok (.if_icmp .ge 77, 3) := by decide +kernel
theorem dX6_gathers_15 : decode cX6_gathers 15 = .ok (.iconst 0, 1) := by decide +kernel
theorem dX6_gathers_16 : decode cX6_gathers 16 = .ok (.istore_n 2, 1) := by decide +kernel
theorem dX6_gathers_17 : decode cX6_gathers 17 = .ok (.iload_n 2, 1) := by decide +kernel
theorem dX6_gathers_18 : decode cX6_gathers 18 = .ok (.aload_n 0, 1) := by decide +kernel
theorem dX6_gathers_19 : decode cX6_gathers 19 = .ok (.iload_n 1, 1) := by decide +kernel
theorem dX6_gathers_20 : decode cX6_gathers 20 = .ok (.invokevirtual 170, 3) := by decide +kernel
theorem dX6_gathers_23 : decode cX6_gathers 23 = .ok (.if_icmp .ge 60, 3) := by decide +kernel
theorem dX6_gathers_26 : decode cX6_gathers 26 = .ok (.aload_n 0, 1) := by decide +kernel
theorem dX6_gathers_27 : decode cX6_gathers 27 = .ok (.iload_n 1, 1) := by decide +kernel
theorem dX6_gathers_28 : decode cX6_gathers 28 = .ok (.iload_n 2, 1) := by decide +kernel
theorem dX6_gathers_29 : decode cX6_gathers 29 = .ok (.invokevirtual 173, 3) := by decide +kernel
theorem dX6_gathers_32 : decode cX6_gathers 32 = .ok (.iconst 0, 1) := by decide +kernel
theorem dX6_gathers_33 : decode cX6_gathers 33 = .ok (.istore_n 3, 1) := by decide +kernel
theorem dX6_gathers_34 : decode cX6_gathers 34 = .ok (.iload_n 3, 1) := by decide +kernel
theorem dX6_gathers_35 : decode cX6_gathers 35 = .ok (.aload_n 0, 1) := by decide +kernel
theorem dX6_gathers_36 : decode cX6_gathers 36 = .ok (.getfield 167, 3) := by decide +kernel
theorem dX6_gathers_39 : decode cX6_gathers 39 = .ok (.if_icmp .ge 17, 3) := by decide +kernel
theorem dX6_gathers_42 : decode cX6_gathers 42 = .ok (.aload_n 0, 1) := by decide +kernel
theorem dX6_gathers_43 : decode cX6_gathers 43 = .ok (.iload_n 3, 1) := by decide +kernel
theorem dX6_gathers_44 : decode cX6_gathers 44 = .ok (.invokevirtual 177, 3) := by decide +kernel
theorem dX6_gathers_47 : decode cX6_gathers 47 = .ok (.ifCond .le 9, 3) := by decide +kernel
theorem dX6_gathers_50 : decode cX6_gathers 50 = .ok (.iinc 3 1, 3) := by decide +kernel
theorem dX6_gathers_53 : decode cX6_gathers 53 = .ok (.goto (-19), 3) := by decide +kernel
theorem dX6_gathers_56 : decode cX6_gathers 56 = .ok (.iload_n 3, 1) := by decide +kernel
theorem dX6_gathers_57 : decode cX6_gathers 57 = .ok (.aload_n 0, 1) := by decide +kernel
theorem dX6_gathers_58 : decode cX6_gathers 58 = .ok (.getfield 167, 3) := by decide +kernel
theorem dX6_gathers_61 : decode cX6_gathers 61 = .ok (.if_icmp .eq 11, 3) := by decide +kernel
theorem dX6_gathers_64 : decode cX6_gathers 64 = .ok (.aload_n 0, 1) := by decide +kernel
theorem dX6_gathers_65 : decode cX6_gathers 65 = .ok (.iload_n 3, 1) := by decide +kernel
theorem dX6_gathers_66 : decode cX6_gathers 66 = .ok (.invokevirtual 177, 3) := by decide +kernel
theorem dX6_gathers_69 : decode cX6_gathers 69 = .ok (.ifCond .ge 8, 3) := by decide +kernel
theorem dX6_gathers_72 : decode cX6_gathers 72 = .ok (.aload_n 0, 1) := by decide +kernel
theorem dX6_gathers_73 : decode cX6_gathers 73 = .ok (.iload_n 3, 1) := by decide +kernel
theorem dX6_gathers_74 : decode cX6_gathers 74 = .ok (.invokevirtual 180, 3) := by decide +kernel
theorem dX6_gathers_77 : decode cX6_gathers 77 = .ok (.iinc 2 1, 3) := by decide +kernel
theorem dX6_gathers_80 : decode cX6_gathers 80 = .ok (.goto (-63), 3) := by decide +kernel
theorem dX6_gathers_83 : decode cX6_gathers 83 = .ok (.iinc 1 1, 3) := by decide +kernel
theorem dX6_gathers_86 : decode cX6_gathers 86 = .ok (.goto (-79), 3) := by decide +kernel
theorem dX6_gathers_89 : decode cX6_gathers 89 = .ok (.return_, 1) := by decide +kernel
theorem dX6_takesOf_0 : decode cX6_takesOf 0 = .ok (.aload_n 0, 1) := by decide +kernel
theorem dX6_takesOf_1 : decode cX6_takesOf 1 = .ok (.aload_n 0, 1) := by decide +kernel
theorem dX6_takesOf_2 : decode cX6_takesOf 2 = .ok (.getfield 22, 3) := by decide +kernel
theorem dX6_takesOf_5 : decode cX6_takesOf 5 = .ok (.iload_n 1, 1) := by decide +kernel
theorem dX6_takesOf_6 : decode cX6_takesOf 6 = .ok (.laload, 1) := by decide +kernel
theorem dX6_takesOf_7 : decode cX6_takesOf 7 = .ok (.putfield 143, 3) := by decide +kernel
theorem dX6_takesOf_10 : decode cX6_takesOf 10 = .ok (.aload_n 0, 1) := by decide +kernel
theorem dX6_takesOf_11 : decode cX6_takesOf 11 = .ok (.aload_n 0, 1) := by decide +kernel
theorem dX6_takesOf_12 : decode cX6_takesOf 12 = .ok (.getfield 26, 3) := by decide +kernel
theorem dX6_takesOf_15 : decode cX6_takesOf 15 = .ok (.iload_n 1, 1) := by decide +kernel
theorem dX6_takesOf_16 : decode cX6_takesOf 16 = .ok (.laload, 1) := by decide +kernel
theorem dX6_takesOf_17 : decode cX6_takesOf 17 = .ok (.putfield 150, 3) := by decide +kernel
theorem dX6_takesOf_20 : decode cX6_takesOf 20 = .ok (.aload_n 0, 1) := by decide +kernel
theorem dX6_takesOf_21 : decode cX6_takesOf 21 = .ok (.aload_n 0, 1) := by decide +kernel
theorem dX6_takesOf_22 : decode cX6_takesOf 22 = .ok (.getfield 29, 3) := by decide +kernel
theorem dX6_takesOf_25 : decode cX6_takesOf 25 = .ok (.iload_n 1, 1) := by decide +kernel
theorem dX6_takesOf_26 : decode cX6_takesOf 26 = .ok (.laload, 1) := by decide +kernel
theorem dX6_takesOf_27 : decode cX6_takesOf 27 = .ok (.putfield 153, 3) := by decide +kernel
theorem dX6_takesOf_30 : decode cX6_takesOf 30 = .ok (.aload_n 0, 1) := by decide +kernel
theorem dX6_takesOf_31 : decode cX6_takesOf 31 = .ok (.aload_n 0, 1) := by decide +kernel
theorem dX6_takesOf_32 : decode cX6_takesOf 32 = .ok (.getfield 32, 3) := by decide +kernel
theorem dX6_takesOf_35 : decode cX6_takesOf 35 = .ok (.iload_n 1, 1) := by decide +kernel
theorem dX6_takesOf_36 : decode cX6_takesOf 36 = .ok (.laload, 1) := by decide +kernel
theorem dX6_takesOf_37 : decode cX6_takesOf 37 = .ok (.putfield 147, 3) := by decide +kernel
theorem dX6_takesOf_40 : decode cX6_takesOf 40 = .ok (.return_, 1) := by decide +kernel
set_option maxRecDepth 20000 in
theorem ggX6_placeOf_X6_gathers : GoodIn wsX6_placeOf wsX6_gathers := goodIn_r _ [5, 6, 7, 8, 9, 10, 4, 11, 12, 13, 14, 15, 16, 17, 18, 19, 20, 21, 22, 23, 24, 25, 26, 27, 28, 29, 30, 31, 32, 33, 34, 35, 36, 37, 38, 39, 40, 41, 42, 43, 44, 45, 46, 47, 48, 49, 50, 51, 52, 53, 54, 55, 56, 57, 58, 59, 60, 61, 62, 63, 64, 65, 66, 67, 68, 69, 70, 71, 72, 73, 74, 75, 76, 77, 78, 79, 80, 81] (by decide +kernel) (by decide +kernel)
set_option maxRecDepth 20000 in
theorem gX6_placeOf_X6_gathers : GoodIn wsX6_placeOf (wsV RX6 184 RX6 yX6_gathers wsX6_gathers) := goodIn_app (goodIn_of _ (by decide +kernel)) ggX6_placeOf_X6_gathers
set_option maxRecDepth 20000 in
theorem ggX6_placeOf_X6_takesRoot : GoodIn wsX6_placeOf wsX6_takesRoot := goodIn_r _ [27, 28, 29, 30, 31, 18, 32, 33, 12, 13, 14, 4, 15, 16, 17, 19, 20, 21, 22, 23, 52, 53, 54, 55, 56, 57, 58, 59, 60, 61, 62, 63, 64, 65, 66, 67, 68, 69, 70, 71, 72, 73, 74, 75, 76, 77, 78, 79, 80, 81] (by decide +kernel) (by decide +kernel)
set_option maxRecDepth 20000 in
theorem gX6_placeOf_X6_takesRoot : GoodIn wsX6_placeOf (wsV RX6 173 RX6 yX6_takesRoot wsX6_takesRoot) := goodIn_app (goodIn_of _ (by decide +kernel)) ggX6_placeOf_X6_takesRoot
set_option maxRecDepth 20000 in
theorem ggX6_placeOf_X6_compares : GoodIn wsX6_placeOf wsX6_compares := goodIn_r _ [37, 28, 38, 39, 29, 30, 40, 31, 41, 18, 42, 43, 4, 44, 45, 46, 47, 52, 53, 54, 55, 56, 57, 58, 59, 60, 61, 62, 63, 64, 65, 66, 67, 68, 69, 70, 71, 72, 73, 74, 75, 76, 77, 78, 79, 80, 81] (by decide +kernel) (by decide +kernel)
set_option maxRecDepth 20000 in
theorem gX6_placeOf_X6_compares : GoodIn wsX6_placeOf (wsV RX6 177 RX6 yX6_compares wsX6_compares) := goodIn_app (goodIn_of _ (by decide +kernel)) ggX6_placeOf_X6_compares
theorem dX6_placeOf_0 : decode cX6_placeOf 0 = .ok (.aload_n 0, 1) := by decide +kernel
theorem dX6_placeOf_1 : decode cX6_placeOf 1 = .ok (.invokevirtual 184, 3) := by decide +kernel
theorem dX6_placeOf_4 : decode cX6_placeOf 4 = .ok (.aload_n 0, 1) := by decide +kernel
theorem dX6_placeOf_5 : decode cX6_placeOf 5 = .ok (.iload_n 1, 1) := by decide +kernel
theorem dX6_placeOf_6 : decode cX6_placeOf 6 = .ok (.iload_n 2, 1) := by decide +kernel
theorem dX6_placeOf_7 : decode cX6_placeOf 7 = .ok (.invokevirtual 173, 3) := by decide +kernel
theorem dX6_placeOf_10 : decode cX6_placeOf 10 = .ok (.iconst 0, 1) := by decide +kernel
theorem dX6_placeOf_11 : decode cX6_placeOf 11 = .ok (.istore_n 3, 1) := by decide +kernel
theorem dX6_placeOf_12 : decode cX6_placeOf 12 = .ok (.aload_n 0, 1) := by decide +kernel
theorem dX6_placeOf_13 : decode cX6_placeOf 13 = .ok (.iload_n 3, 1) := by decide +kernel
theorem dX6_placeOf_14 : decode cX6_placeOf 14 = .ok (.invokevirtual 177, 3) := by decide +kernel
theorem dX6_placeOf_17 : decode cX6_placeOf 17 = .ok (.ifCond .eq 9, 3) := by decide +kernel
theorem dX6_placeOf_20 : decode cX6_placeOf 20 = .ok (.iinc 3 1, 3) := by decide +kernel
theorem dX6_placeOf_23 : decode cX6_placeOf 23 = .ok (.goto (-11), 3) := by decide +kernel
theorem dX6_placeOf_26 : decode cX6_placeOf 26 = .ok (.iload_n 3, 1) := by decide +kernel
theorem dX6_placeOf_27 : decode cX6_placeOf 27 = .ok (.ireturn, 1) := by decide +kernel
set_option maxRecDepth 20000 in
theorem ggX6_signInSpot_X6_is : GoodIn wsX6_signInSpot wsX6_is := goodIn_r _ [6, 7, 8, 1, 35, 36, 37, 38, 39, 40, 41, 42, 43, 44, 45, 46, 47, 48, 49, 50, 51, 52, 53, 54, 55, 56, 57, 58, 59, 60, 61, 62, 63, 64] (by decide +kernel) (by decide +kernel)
set_option maxRecDepth 20000 in
theorem gX6_signInSpot_X6_is : GoodIn wsX6_signInSpot (wsV RX6 133 RX6 yX6_is wsX6_is) := goodIn_app (goodIn_of _ (by decide +kernel)) ggX6_signInSpot_X6_is
set_option maxRecDepth 20000 in
theorem ggX6_signInSpot_X6_signOf : GoodIn wsX6_signInSpot wsX6_signOf := goodIn_r _ [11] (by decide +kernel) (by decide +kernel)
set_option maxRecDepth 20000 in
theorem gX6_signInSpot_X6_signOf : GoodIn wsX6_signInSpot (va_wsS RX6 129 yX6_signOf wsX6_signOf) := goodIn_app (goodIn_of _ (by decide +kernel)) ggX6_signInSpot_X6_signOf
set_option maxRecDepth 20000 in
theorem ggX6_signInSpot_X6_takesOf : GoodIn wsX6_signInSpot wsX6_takesOf := goodIn_r _ [15, 16, 17, 18, 19, 20, 21, 22, 23, 35, 36, 37, 38, 39, 40, 41, 42, 43, 44, 45, 46, 47, 48, 49, 50, 51, 52, 53, 54, 55, 56, 57, 58, 59, 60, 61, 62, 63, 64] (by decide +kernel) (by decide +kernel)
set_option maxRecDepth 20000 in
theorem gX6_signInSpot_X6_takesOf : GoodIn wsX6_signInSpot (wsV RX6 187 RX6 yX6_takesOf wsX6_takesOf) := goodIn_app (goodIn_of _ (by decide +kernel)) ggX6_signInSpot_X6_takesOf
set_option maxRecDepth 20000 in
theorem ggX6_signInSpot_X6_signOfAt : GoodIn wsX6_signInSpot wsX6_signOfAt := goodIn_r _ [27, 2, 3, 4, 5, 6, 7, 8, 1, 28, 29, 30, 31, 17, 19, 21, 23, 32, 33, 34, 9, 10, 11, 35, 36, 37, 38, 39, 40, 41, 42, 43, 44, 45, 46, 47, 48, 49, 50, 51, 52, 53, 54, 55, 56, 57, 58, 59, 60, 61, 62, 63, 64] (by decide +kernel) (by decide +kernel)
set_option maxRecDepth 20000 in
theorem gX6_signInSpot_X6_signOfAt : GoodIn wsX6_signInSpot (wsV RX6 190 RX6 yX6_signOfAt wsX6_signOfAt) := goodIn_app (goodIn_of _ (by decide +kernel)) ggX6_signInSpot_X6_signOfAt
set_option maxRecDepth 20000 in
theorem ggX6_signInSpot_X6_signHere : GoodIn wsX6_signInSpot wsX6_signHere := goodIn_r _ [31, 17, 19, 21, 23, 1, 32, 33, 5, 34, 9, 10, 11, 35, 36, 37, 38, 39, 40, 41, 42, 43, 44, 45, 46, 47, 48, 49, 50, 51, 52, 53, 54, 55, 56, 57, 58, 59, 60, 61, 62, 63, 64] (by decide +kernel) (by decide +kernel)
set_option maxRecDepth 20000 in
theorem gX6_signInSpot_X6_signHere : GoodIn wsX6_signInSpot (wsV RX6 164 RX6 yX6_signHere wsX6_signHere) := goodIn_app (goodIn_of _ (by decide +kernel)) ggX6_signInSpot_X6_signHere
theorem dX6_signInSpot_0 : decode cX6_signInSpot 0 = .ok (.iload_n 1, 1) := by decide +kernel
theorem dX6_signInSpot_1 : decode cX6_signInSpot 1 = .ok (.ifCond .ne 60, 3) := by decide +kernel
theorem dX6_signInSpot_4 : decode cX6_signInSpot 4 = .ok (.aload_n 0, 1) := by decide +kernel
theorem dX6_signInSpot_5 : decode cX6_signInSpot 5 = .ok (.iload_n 2, 1) := by decide +kernel
theorem dX6_signInSpot_6 : decode cX6_signInSpot 6 = .ok (.iconst 2, 1) := by decide +kernel
theorem dX6_signInSpot_7 : decode cX6_signInSpot 7 = .ok (.invokevirtual 133, 3) := by decide +kernel
theorem dX6_signInSpot_10 : decode cX6_signInSpot 10 = .ok (.lconst 0, 1) := by decide +kernel
theorem dX6_signInSpot_11 : decode cX6_signInSpot 11 = .ok (.lcmp, 1) := by decide +kernel
theorem dX6_signInSpot_12 : decode cX6_signInSpot 12 = .ok (.ifCond .eq 15, 3) := by decide +kernel
theorem dX6_signInSpot_15 : decode cX6_signInSpot 15 = .ok (.aload_n 0, 1) := by decide +kernel
theorem dX6_signInSpot_16 : decode cX6_signInSpot 16 = .ok (.iload_n 2, 1) := by decide +kernel
theorem dX6_signInSpot_17 : decode cX6_signInSpot 17 = .ok (.iconst 2, 1) := by decide +kernel
theorem dX6_signInSpot_18 : decode cX6_signInSpot 18 = .ok (.invokevirtual 133, 3) := by decide +kernel
theorem dX6_signInSpot_21 : decode cX6_signInSpot 21 = .ok (.invokestatic 129, 3) := by decide +kernel
theorem dX6_signInSpot_24 : decode cX6_signInSpot 24 = .ok (.goto 36, 3) := by decide +kernel
theorem dX6_signInSpot_27 : decode cX6_signInSpot 27 = .ok (.aload_n 0, 1) := by decide +kernel
theorem dX6_signInSpot_28 : decode cX6_signInSpot 28 = .ok (.iload_n 2, 1) := by decide +kernel
theorem dX6_signInSpot_29 : decode cX6_signInSpot 29 = .ok (.iconst 1, 1) := by decide +kernel
theorem dX6_signInSpot_30 : decode cX6_signInSpot 30 = .ok (.invokevirtual 133, 3) := by decide +kernel
theorem dX6_signInSpot_33 : decode cX6_signInSpot 33 = .ok (.lconst 0, 1) := by decide +kernel
theorem dX6_signInSpot_34 : decode cX6_signInSpot 34 = .ok (.lcmp, 1) := by decide +kernel
theorem dX6_signInSpot_35 : decode cX6_signInSpot 35 = .ok (.ifCond .eq 16, 3) := by decide +kernel
theorem dX6_signInSpot_38 : decode cX6_signInSpot 38 = .ok (.aload_n 0, 1) := by decide +kernel
theorem dX6_signInSpot_39 : decode cX6_signInSpot 39 = .ok (.iload_n 2, 1) := by decide +kernel
theorem dX6_signInSpot_40 : decode cX6_signInSpot 40 = .ok (.iconst 1, 1) := by decide +kernel
theorem dX6_signInSpot_41 : decode cX6_signInSpot 41 = .ok (.invokevirtual 133, 3) := by decide +kernel
theorem dX6_signInSpot_44 : decode cX6_signInSpot 44 = .ok (.invokestatic 129, 3) := by decide +kernel
theorem dX6_signInSpot_47 : decode cX6_signInSpot 47 = .ok (.ineg, 1) := by decide +kernel
theorem dX6_signInSpot_48 : decode cX6_signInSpot 48 = .ok (.goto 12, 3) := by decide +kernel
theorem dX6_signInSpot_51 : decode cX6_signInSpot 51 = .ok (.aload_n 0, 1) := by decide +kernel
theorem dX6_signInSpot_52 : decode cX6_signInSpot 52 = .ok (.iload_n 2, 1) := by decide +kernel
theorem dX6_signInSpot_53 : decode cX6_signInSpot 53 = .ok (.iconst 0, 1) := by decide +kernel
theorem dX6_signInSpot_54 : decode cX6_signInSpot 54 = .ok (.invokevirtual 133, 3) := by decide +kernel
theorem dX6_signInSpot_57 : decode cX6_signInSpot 57 = .ok (.invokestatic 129, 3) := by decide +kernel
theorem dX6_signInSpot_60 : decode cX6_signInSpot 60 = .ok (.ireturn, 1) := by decide +kernel
theorem dX6_signInSpot_61 : decode cX6_signInSpot 61 = .ok (.aload_n 0, 1) := by decide +kernel
theorem dX6_signInSpot_62 : decode cX6_signInSpot 62 = .ok (.iload_n 1, 1) := by decide +kernel
theorem dX6_signInSpot_63 : decode cX6_signInSpot 63 = .ok (.iconst 1, 1) := by decide +kernel
theorem dX6_signInSpot_64 : decode cX6_signInSpot 64 = .ok (.isub, 1) := by decide +kernel
theorem dX6_signInSpot_65 : decode cX6_signInSpot 65 = .ok (.iconst 2, 1) := by decide +kernel
theorem dX6_signInSpot_66 : decode cX6_signInSpot 66 = .ok (.idiv, 1) := by decide +kernel
theorem dX6_signInSpot_67 : decode cX6_signInSpot 67 = .ok (.invokevirtual 187, 3) := by decide +kernel
theorem dX6_signInSpot_70 : decode cX6_signInSpot 70 = .ok (.aload_n 0, 1) := by decide +kernel
theorem dX6_signInSpot_71 : decode cX6_signInSpot 71 = .ok (.iload_n 2, 1) := by decide +kernel
theorem dX6_signInSpot_72 : decode cX6_signInSpot 72 = .ok (.invokevirtual 190, 3) := by decide +kernel
theorem dX6_signInSpot_75 : decode cX6_signInSpot 75 = .ok (.istore_n 3, 1) := by decide +kernel
theorem dX6_signInSpot_76 : decode cX6_signInSpot 76 = .ok (.iload_n 1, 1) := by decide +kernel
theorem dX6_signInSpot_77 : decode cX6_signInSpot 77 = .ok (.iconst 2, 1) := by decide +kernel
theorem dX6_signInSpot_78 : decode cX6_signInSpot 78 = .ok (.irem, 1) := by decide +kernel
theorem dX6_signInSpot_79 : decode cX6_signInSpot 79 = .ok (.iconst 1, 1) := by decide +kernel
theorem dX6_signInSpot_80 : decode cX6_signInSpot 80 = .ok (.if_icmp .eq 7, 3) := by decide +kernel
theorem dX6_signInSpot_83 : decode cX6_signInSpot 83 = .ok (.iload_n 3, 1) := by decide +kernel
theorem dX6_signInSpot_84 : decode cX6_signInSpot 84 = .ok (.ifCond .eq 5, 3) := by decide +kernel
theorem dX6_signInSpot_87 : decode cX6_signInSpot 87 = .ok (.iload_n 3, 1) := by decide +kernel
theorem dX6_signInSpot_88 : decode cX6_signInSpot 88 = .ok (.ireturn, 1) := by decide +kernel
theorem dX6_signInSpot_89 : decode cX6_signInSpot 89 = .ok (.aload_n 0, 1) := by decide +kernel
theorem dX6_signInSpot_90 : decode cX6_signInSpot 90 = .ok (.aload_n 0, 1) := by decide +kernel
theorem dX6_signInSpot_91 : decode cX6_signInSpot 91 = .ok (.iload_n 2, 1) := by decide +kernel
theorem dX6_signInSpot_92 : decode cX6_signInSpot 92 = .ok (.iconst 1, 1) := by decide +kernel
theorem dX6_signInSpot_93 : decode cX6_signInSpot 93 = .ok (.invokevirtual 133, 3) := by decide +kernel
theorem dX6_signInSpot_96 : decode cX6_signInSpot 96 = .ok (.ldc2_w 117, 3) := by decide +kernel
theorem dX6_signInSpot_99 : decode cX6_signInSpot 99 = .ok (.aload_n 0, 1) := by decide +kernel
theorem dX6_signInSpot_100 : decode cX6_signInSpot 100 = .ok (.iload_n 2, 1) := by decide +kernel
theorem dX6_signInSpot_101 : decode cX6_signInSpot 101 = .ok (.iconst 2, 1) := by decide +kernel
theorem dX6_signInSpot_102 : decode cX6_signInSpot 102 = .ok (.invokevirtual 133, 3) := by decide +kernel
theorem dX6_signInSpot_105 : decode cX6_signInSpot 105 = .ok (.lmul, 1) := by decide +kernel
theorem dX6_signInSpot_106 : decode cX6_signInSpot 106 = .ok (.lconst 0, 1) := by decide +kernel
theorem dX6_signInSpot_107 : decode cX6_signInSpot 107 = .ok (.invokevirtual 164, 3) := by decide +kernel
theorem dX6_signInSpot_110 : decode cX6_signInSpot 110 = .ok (.istore 4, 2) := by decide +kernel
theorem dX6_signInSpot_112 : decode cX6_signInSpot 112 = .ok (.iload 4, 2) := by decide +kernel
theorem dX6_signInSpot_114 : decode cX6_signInSpot 114 = .ok (.ifCond .eq 8, 3) := by decide +kernel
theorem dX6_signInSpot_117 : decode cX6_signInSpot 117 = .ok (.iload 4, 2) := by decide +kernel
theorem dX6_signInSpot_119 : decode cX6_signInSpot 119 = .ok (.goto 12, 3) := by decide +kernel
theorem dX6_signInSpot_122 : decode cX6_signInSpot 122 = .ok (.aload_n 0, 1) := by decide +kernel
theorem dX6_signInSpot_123 : decode cX6_signInSpot 123 = .ok (.iload_n 2, 1) := by decide +kernel
theorem dX6_signInSpot_124 : decode cX6_signInSpot 124 = .ok (.iconst 2, 1) := by decide +kernel
theorem dX6_signInSpot_125 : decode cX6_signInSpot 125 = .ok (.invokevirtual 133, 3) := by decide +kernel
theorem dX6_signInSpot_128 : decode cX6_signInSpot 128 = .ok (.invokestatic 129, 3) := by decide +kernel
theorem dX6_signInSpot_131 : decode cX6_signInSpot 131 = .ok (.ireturn, 1) := by decide +kernel
set_option maxRecDepth 20000 in
theorem ggX6_isNothing_X6_is : GoodIn wsX6_isNothing wsX6_is := goodIn_r _ [5, 6, 7, 8, 9, 10, 11, 12, 13, 14, 15, 16, 17, 18, 19, 20, 21, 22, 23, 24, 25, 26, 27, 28, 29, 30, 31, 32, 33, 34, 35, 36, 37, 38] (by decide +kernel) (by decide +kernel)
set_option maxRecDepth 20000 in
theorem gX6_isNothing_X6_is : GoodIn wsX6_isNothing (wsV RX6 133 RX6 yX6_is wsX6_is) := goodIn_app (goodIn_of _ (by decide +kernel)) ggX6_isNothing_X6_is
theorem dX6_isNothing_0 : decode cX6_isNothing 0 = .ok (.aload_n 0, 1) := by decide +kernel
theorem dX6_isNothing_1 : decode cX6_isNothing 1 = .ok (.iload_n 1, 1) := by decide +kernel
theorem dX6_isNothing_2 : decode cX6_isNothing 2 = .ok (.iconst 0, 1) := by decide +kernel
theorem dX6_isNothing_3 : decode cX6_isNothing 3 = .ok (.invokevirtual 133, 3) := by decide +kernel
theorem dX6_isNothing_6 : decode cX6_isNothing 6 = .ok (.lconst 0, 1) := by decide +kernel
theorem dX6_isNothing_7 : decode cX6_isNothing 7 = .ok (.lcmp, 1) := by decide +kernel
theorem dX6_isNothing_8 : decode cX6_isNothing 8 = .ok (.ifCond .ne 29, 3) := by decide +kernel
theorem dX6_isNothing_11 : decode cX6_isNothing 11 = .ok (.aload_n 0, 1) := by decide +kernel
theorem dX6_isNothing_12 : decode cX6_isNothing 12 = .ok (.iload_n 1, 1) := by decide +kernel
theorem dX6_isNothing_13 : decode cX6_isNothing 13 = .ok (.iconst 1, 1) := by decide +kernel
theorem dX6_isNothing_14 : decode cX6_isNothing 14 = .ok (.invokevirtual 133, 3) := by decide +kernel
theorem dX6_isNothing_17 : decode cX6_isNothing 17 = .ok (.lconst 0, 1) := by decide +kernel
theorem dX6_isNothing_18 : decode cX6_isNothing 18 = .ok (.lcmp, 1) := by decide +kernel
theorem dX6_isNothing_19 : decode cX6_isNothing 19 = .ok (.ifCond .ne 18, 3) := by decide +kernel
theorem dX6_isNothing_22 : decode cX6_isNothing 22 = .ok (.aload_n 0, 1) := by decide +kernel
theorem dX6_isNothing_23 : decode cX6_isNothing 23 = .ok (.iload_n 1, 1) := by decide +kernel
theorem dX6_isNothing_24 : decode cX6_isNothing 24 = .ok (.iconst 2, 1) := by decide +kernel
theorem dX6_isNothing_25 : decode cX6_isNothing 25 = .ok (.invokevirtual 133, 3) := by decide +kernel
theorem dX6_isNothing_28 : decode cX6_isNothing 28 = .ok (.lconst 0, 1) := by decide +kernel
theorem dX6_isNothing_29 : decode cX6_isNothing 29 = .ok (.lcmp, 1) := by decide +kernel
theorem dX6_isNothing_30 : decode cX6_isNothing 30 = .ok (.ifCond .ne 7, 3) := by decide +kernel
theorem dX6_isNothing_33 : decode cX6_isNothing 33 = .ok (.iconst 1, 1) := by decide +kernel
theorem dX6_isNothing_34 : decode cX6_isNothing 34 = .ok (.goto 4, 3) := by decide +kernel
theorem dX6_isNothing_37 : decode cX6_isNothing 37 = .ok (.iconst 0, 1) := by decide +kernel
theorem dX6_isNothing_38 : decode cX6_isNothing 38 = .ok (.ireturn, 1) := by decide +kernel
set_option maxRecDepth 20000 in
theorem ggX6_ofPolynomial_X6_noPolynomial : GoodIn wsX6_ofPolynomial wsX6_noPolynomial := goodIn_r _ [11, 12, 13, 14, 10, 15, 30, 31, 32, 33, 34, 35, 36, 37, 38, 39, 40, 41, 42, 43, 44, 45, 46, 47, 48, 49, 50, 51, 52, 53, 54, 55, 56, 57, 58, 59] (by decide +kernel) (by decide +kernel)
set_option maxRecDepth 20000 in
theorem gX6_ofPolynomial_X6_noPolynomial : GoodIn wsX6_ofPolynomial (wsV RX6 193 RX6 yX6_noPolynomial wsX6_noPolynomial) := goodIn_app (goodIn_of _ (by decide +kernel)) ggX6_ofPolynomial_X6_noPolynomial
set_option maxRecDepth 20000 in
theorem ggX6_ofPolynomial_X6_in : GoodIn wsX6_ofPolynomial wsX6_in := goodIn_r _ [15] (by decide +kernel) (by decide +kernel)
set_option maxRecDepth 20000 in
theorem gX6_ofPolynomial_X6_in : GoodIn wsX6_ofPolynomial (va_wsS RX6 78 yX6_in wsX6_in) := goodIn_app (goodIn_of _ (by decide +kernel)) ggX6_ofPolynomial_X6_in
set_option maxRecDepth 20000 in
theorem ggX6_ofPolynomial_X6_is : GoodIn wsX6_ofPolynomial wsX6_is := goodIn_r _ [19, 3, 6, 20, 30, 31, 32, 33, 34, 35, 36, 37, 38, 39, 40, 41, 42, 43, 44, 45, 46, 47, 48, 49, 50, 51, 52, 53, 54, 55, 56, 57, 58, 59] (by decide +kernel) (by decide +kernel)
set_option maxRecDepth 20000 in
theorem gX6_ofPolynomial_X6_is : GoodIn wsX6_ofPolynomial (wsV RX6 133 RX6 yX6_is wsX6_is) := goodIn_app (goodIn_of _ (by decide +kernel)) ggX6_ofPolynomial_X6_is
set_option maxRecDepth 20000 in
theorem ggX6_ofPolynomial_X6_rootsOf : GoodIn wsX6_ofPolynomial wsX6_rootsOf := goodIn_r _ [24, 16, 17, 18, 10, 19, 3, 6, 20, 25, 26, 27, 28, 29, 30, 31, 32, 33, 34, 35, 36, 37, 38, 39, 40, 41, 42, 43, 44, 45, 46, 47, 48, 49, 50, 51, 52, 53, 54, 55, 56, 57, 58, 59] (by decide +kernel) (by decide +kernel)
set_option maxRecDepth 20000 in
theorem gX6_ofPolynomial_X6_rootsOf : GoodIn wsX6_ofPolynomial (wsV RX6 170 RX6 yX6_rootsOf wsX6_rootsOf) := goodIn_app (goodIn_of _ (by decide +kernel)) ggX6_ofPolynomial_X6_rootsOf
theorem dX6_ofPolynomial_0 : decode cX6_ofPolynomial 0 = .ok (.aload_n 0, 1) := by decide +kernel
theorem dX6_ofPolynomial_1 : decode cX6_ofPolynomial 1 = .ok (.iload_n 1, 1) := by decide +kernel
theorem dX6_ofPolynomial_2 : decode cX6_ofPolynomial 2 = .ok (.invokevirtual 193, 3) := by decide +kernel
theorem dX6_ofPolynomial_5 : decode cX6_ofPolynomial 5 = .ok (.ifCond .eq 5, 3) := by decide +kernel
theorem dX6_ofPolynomial_8 : decode cX6_ofPolynomial 8 = .ok (.iconst (-1), 1) := by decide +kernel
theorem dX6_ofPolynomial_9 : decode cX6_ofPolynomial 9 = .ok (.ireturn, 1) := by decide +kernel
theorem dX6_ofPolynomial_10 : decode cX6_ofPolynomial 10 = .ok (.iload_n 2, 1) := by decide +kernel
theorem dX6_ofPolynomial_11 : decode cX6_ofPolynomial 11 = .ok (.i2l, 1) := by decide +kernel
theorem dX6_ofPolynomial_12 : decode cX6_ofPolynomial 12 = .ok (.ldc2_w 196, 3) := by decide +kernel
theorem dX6_ofPolynomial_15 : decode cX6_ofPolynomial 15 = .ok (.ldc2_w 198, 3) := by decide +kernel
theorem dX6_ofPolynomial_18 : decode cX6_ofPolynomial 18 = .ok (.invokestatic 78, 3) := by decide +kernel
theorem dX6_ofPolynomial_21 : decode cX6_ofPolynomial 21 = .ok (.ifCond .eq 20, 3) := by decide +kernel
theorem dX6_ofPolynomial_24 : decode cX6_ofPolynomial 24 = .ok (.aload_n 0, 1) := by decide +kernel
theorem dX6_ofPolynomial_25 : decode cX6_ofPolynomial 25 = .ok (.getfield 13, 3) := by decide +kernel
theorem dX6_ofPolynomial_28 : decode cX6_ofPolynomial 28 = .ok (.iconst 3, 1) := by decide +kernel
theorem dX6_ofPolynomial_29 : decode cX6_ofPolynomial 29 = .ok (.iload_n 1, 1) := by decide +kernel
theorem dX6_ofPolynomial_30 : decode cX6_ofPolynomial 30 = .ok (.imul, 1) := by decide +kernel
theorem dX6_ofPolynomial_31 : decode cX6_ofPolynomial 31 = .ok (.iload_n 2, 1) := by decide +kernel
theorem dX6_ofPolynomial_32 : decode cX6_ofPolynomial 32 = .ok (.iadd, 1) := by decide +kernel
theorem dX6_ofPolynomial_33 : decode cX6_ofPolynomial 33 = .ok (.bipush 10, 2) := by decide +kernel
theorem dX6_ofPolynomial_35 : decode cX6_ofPolynomial 35 = .ok (.isub, 1) := by decide +kernel
theorem dX6_ofPolynomial_36 : decode cX6_ofPolynomial 36 = .ok (.iaload, 1) := by decide +kernel
theorem dX6_ofPolynomial_37 : decode cX6_ofPolynomial 37 = .ok (.bipush 9, 2) := by decide +kernel
theorem dX6_ofPolynomial_39 : decode cX6_ofPolynomial 39 = .ok (.iadd, 1) := by decide +kernel
theorem dX6_ofPolynomial_40 : decode cX6_ofPolynomial 40 = .ok (.ireturn, 1) := by decide +kernel
theorem dX6_ofPolynomial_41 : decode cX6_ofPolynomial 41 = .ok (.iload_n 2, 1) := by decide +kernel
theorem dX6_ofPolynomial_42 : decode cX6_ofPolynomial 42 = .ok (.i2l, 1) := by decide +kernel
theorem dX6_ofPolynomial_43 : decode cX6_ofPolynomial 43 = .ok (.ldc2_w 200, 3) := by decide +kernel
theorem dX6_ofPolynomial_46 : decode cX6_ofPolynomial 46 = .ok (.ldc2_w 202, 3) := by decide +kernel
theorem dX6_ofPolynomial_49 : decode cX6_ofPolynomial 49 = .ok (.invokestatic 78, 3) := by decide +kernel
theorem dX6_ofPolynomial_52 : decode cX6_ofPolynomial 52 = .ok (.ifCond .eq 17, 3) := by decide +kernel
theorem dX6_ofPolynomial_55 : decode cX6_ofPolynomial 55 = .ok (.aload_n 0, 1) := by decide +kernel
theorem dX6_ofPolynomial_56 : decode cX6_ofPolynomial 56 = .ok (.iload_n 1, 1) := by decide +kernel
theorem dX6_ofPolynomial_57 : decode cX6_ofPolynomial 57 = .ok (.iload_n 2, 1) := by decide +kernel
theorem dX6_ofPolynomial_58 : decode cX6_ofPolynomial 58 = .ok (.bipush 20, 2) := by decide +kernel
theorem dX6_ofPolynomial_60 : decode cX6_ofPolynomial 60 = .ok (.isub, 1) := by decide +kernel
theorem dX6_ofPolynomial_61 : decode cX6_ofPolynomial 61 = .ok (.invokevirtual 133, 3) := by decide +kernel
theorem dX6_ofPolynomial_64 : decode cX6_ofPolynomial 64 = .ok (.l2i, 1) := by decide +kernel
theorem dX6_ofPolynomial_65 : decode cX6_ofPolynomial 65 = .ok (.bipush 100, 2) := by decide +kernel
theorem dX6_ofPolynomial_67 : decode cX6_ofPolynomial 67 = .ok (.iadd, 1) := by decide +kernel
theorem dX6_ofPolynomial_68 : decode cX6_ofPolynomial 68 = .ok (.ireturn, 1) := by decide +kernel
theorem dX6_ofPolynomial_69 : decode cX6_ofPolynomial 69 = .ok (.iload_n 2, 1) := by decide +kernel
theorem dX6_ofPolynomial_70 : decode cX6_ofPolynomial 70 = .ok (.ifCond .ne 12, 3) := by decide +kernel
theorem dX6_ofPolynomial_73 : decode cX6_ofPolynomial 73 = .ok (.aload_n 0, 1) := by decide +kernel
theorem dX6_ofPolynomial_74 : decode cX6_ofPolynomial 74 = .ok (.getfield 7, 3) := by decide +kernel
theorem dX6_ofPolynomial_77 : decode cX6_ofPolynomial 77 = .ok (.iload_n 1, 1) := by decide +kernel
theorem dX6_ofPolynomial_78 : decode cX6_ofPolynomial 78 = .ok (.iaload, 1) := by decide +kernel
theorem dX6_ofPolynomial_79 : decode cX6_ofPolynomial 79 = .ok (.goto 18, 3) := by decide +kernel
theorem dX6_ofPolynomial_82 : decode cX6_ofPolynomial 82 = .ok (.iload_n 2, 1) := by decide +kernel
theorem dX6_ofPolynomial_83 : decode cX6_ofPolynomial 83 = .ok (.iconst 1, 1) := by decide +kernel
theorem dX6_ofPolynomial_84 : decode cX6_ofPolynomial 84 = .ok (.if_icmp .ne 11, 3) := by decide +kernel
theorem dX6_ofPolynomial_87 : decode cX6_ofPolynomial 87 = .ok (.aload_n 0, 1) := by decide +kernel
theorem dX6_ofPolynomial_88 : decode cX6_ofPolynomial 88 = .ok (.iload_n 1, 1) := by decide +kernel
theorem dX6_ofPolynomial_89 : decode cX6_ofPolynomial 89 = .ok (.invokevirtual 170, 3) := by decide +kernel
theorem dX6_ofPolynomial_92 : decode cX6_ofPolynomial 92 = .ok (.goto 5, 3) := by decide +kernel
theorem dX6_ofPolynomial_95 : decode cX6_ofPolynomial 95 = .ok (.bipush (-2), 2) := by decide +kernel
theorem dX6_ofPolynomial_97 : decode cX6_ofPolynomial 97 = .ok (.ireturn, 1) := by decide +kernel
set_option maxRecDepth 20000 in
theorem ggX6_value_X6_noPolynomial : GoodIn wsX6_value wsX6_noPolynomial := goodIn_r _ [7, 8, 9, 10, 6, 11, 23, 24, 25, 26, 27, 28, 29, 30, 31, 32, 33, 34, 35, 36, 37, 38, 39, 40, 41, 42, 43, 44, 45, 46, 47, 48, 49, 50, 51, 52] (by decide +kernel) (by decide +kernel)
set_option maxRecDepth 20000 in
theorem gX6_value_X6_noPolynomial : GoodIn wsX6_value (wsV RX6 193 RX6 yX6_noPolynomial wsX6_noPolynomial) := goodIn_app (goodIn_of _ (by decide +kernel)) ggX6_value_X6_noPolynomial
set_option maxRecDepth 20000 in
theorem ggX6_value_X6_in : GoodIn wsX6_value wsX6_in := goodIn_r _ [11] (by decide +kernel) (by decide +kernel)
set_option maxRecDepth 20000 in
theorem gX6_value_X6_in : GoodIn wsX6_value (va_wsS RX6 78 yX6_in wsX6_in) := goodIn_app (goodIn_of _ (by decide +kernel)) ggX6_value_X6_in
set_option maxRecDepth 20000 in
theorem ggX6_value_X6_lost : GoodIn wsX6_value wsX6_lost := goodIn_r _ [14, 15] (by decide +kernel) (by decide +kernel)
set_option maxRecDepth 20000 in
theorem gX6_value_X6_lost : GoodIn wsX6_value (va_wsS RX6 71 yX6_lost wsX6_lost) := goodIn_app (goodIn_of _ (by decide +kernel)) ggX6_value_X6_lost
set_option maxRecDepth 20000 in
theorem ggX6_value_X6_is : GoodIn wsX6_value wsX6_is := goodIn_r _ [19, 20, 21, 22, 23, 24, 25, 26, 27, 28, 29, 30, 31, 32, 33, 34, 35, 36, 37, 38, 39, 40, 41, 42, 43, 44, 45, 46, 47, 48, 49, 50, 51, 52] (by decide +kernel) (by decide +kernel)
set_option maxRecDepth 20000 in
theorem gX6_value_X6_is : GoodIn wsX6_value (wsV RX6 133 RX6 yX6_is wsX6_is) := goodIn_app (goodIn_of _ (by decide +kernel)) ggX6_value_X6_is
theorem dX6_value_0 : decode cX6_value 0 = .ok (.aload_n 0, 1) := by decide +kernel
theorem dX6_value_1 : decode cX6_value 1 = .ok (.iload_n 1, 1) := by decide +kernel
theorem dX6_value_2 : decode cX6_value 2 = .ok (.invokevirtual 193, 3) := by decide +kernel
theorem dX6_value_5 : decode cX6_value 5 = .ok (.ifCond .ne 17, 3) := by decide +kernel
theorem dX6_value_8 : decode cX6_value 8 = .ok (.iload_n 2, 1) := by decide +kernel
theorem dX6_value_9 : decode cX6_value 9 = .ok (.i2l, 1) := by decide +kernel
theorem dX6_value_10 : decode cX6_value 10 = .ok (.ldc2_w 204, 3) := by decide +kernel
theorem dX6_value_13 : decode cX6_value 13 = .ok (.ldc2_w 206, 3) := by decide +kernel
theorem dX6_value_16 : decode cX6_value 16 = .ok (.invokestatic 78, 3) := by decide +kernel
theorem dX6_value_19 : decode cX6_value 19 = .ok (.ifCond .ne 7, 3) := by decide +kernel
theorem dX6_value_22 : decode cX6_value 22 = .ok (.invokestatic 71, 3) := by decide +kernel
theorem dX6_value_25 : decode cX6_value 25 = .ok (.lreturn, 1) := by decide +kernel
theorem dX6_value_26 : decode cX6_value 26 = .ok (.iload_n 2, 1) := by decide +kernel
theorem dX6_value_27 : decode cX6_value 27 = .ok (.i2l, 1) := by decide +kernel
theorem dX6_value_28 : decode cX6_value 28 = .ok (.lstore_n 3, 1) := by decide +kernel
theorem dX6_value_29 : decode cX6_value 29 = .ok (.aload_n 0, 1) := by decide +kernel
theorem dX6_value_30 : decode cX6_value 30 = .ok (.iload_n 1, 1) := by decide +kernel
theorem dX6_value_31 : decode cX6_value 31 = .ok (.iconst 0, 1) := by decide +kernel
theorem dX6_value_32 : decode cX6_value 32 = .ok (.invokevirtual 133, 3) := by decide +kernel
theorem dX6_value_35 : decode cX6_value 35 = .ok (.aload_n 0, 1) := by decide +kernel
theorem dX6_value_36 : decode cX6_value 36 = .ok (.iload_n 1, 1) := by decide +kernel
theorem dX6_value_37 : decode cX6_value 37 = .ok (.iconst 1, 1) := by decide +kernel
theorem dX6_value_38 : decode cX6_value 38 = .ok (.invokevirtual 133, 3) := by decide +kernel
theorem dX6_value_41 : decode cX6_value 41 = .ok (.lload_n 3, 1) := by decide +kernel
theorem dX6_value_42 : decode cX6_value 42 = .ok (.lmul, 1) := by decide +kernel
theorem dX6_value_43 : decode cX6_value 43 = .ok (.ladd, 1) := by decide +kernel
theorem dX6_value_44 : decode cX6_value 44 = .ok (.aload_n 0, 1) := by decide +kernel
theorem dX6_value_45 : decode cX6_value 45 = .ok (.iload_n 1, 1) := by decide +kernel
theorem dX6_value_46 : decode cX6_value 46 = .ok (.iconst 2, 1) := by decide +kernel
theorem dX6_value_47 : decode cX6_value 47 = .ok (.invokevirtual 133, 3) := by decide +kernel
theorem dX6_value_50 : decode cX6_value 50 = .ok (.lload_n 3, 1) := by decide +kernel
theorem dX6_value_51 : decode cX6_value 51 = .ok (.lmul, 1) := by decide +kernel
theorem dX6_value_52 : decode cX6_value 52 = .ok (.lload_n 3, 1) := by decide +kernel
theorem dX6_value_53 : decode cX6_value 53 = .ok (.lmul, 1) := by decide +kernel
theorem dX6_value_54 : decode cX6_value 54 = .ok (.ladd, 1) := by decide +kernel
theorem dX6_value_55 : decode cX6_value 55 = .ok (.lreturn, 1) := by decide +kernel
set_option maxRecDepth 20000 in
theorem ggX6_isCoefficient_X6_in : GoodIn wsX6_isCoefficient wsX6_in := goodIn_r _ [6] (by decide +kernel) (by decide +kernel)
set_option maxRecDepth 20000 in
theorem gX6_isCoefficient_X6_in : GoodIn wsX6_isCoefficient (va_wsS RX6 78 yX6_in wsX6_in) := goodIn_app (goodIn_of _ (by decide +kernel)) ggX6_isCoefficient_X6_in
theorem dX6_isCoefficient_0 : decode cX6_isCoefficient 0 = .ok (.iload_n 0, 1) := by decide +kernel
theorem dX6_isCoefficient_1 : decode cX6_isCoefficient 1 = .ok (.i2l, 1) := by decide +kernel
theorem dX6_isCoefficient_2 : decode cX6_isCoefficient 2 = .ok (.ldc2_w 208, 3) := by decide +kernel
theorem dX6_isCoefficient_5 : decode cX6_isCoefficient 5 = .ok (.ldc2_w 89, 3) := by decide +kernel
theorem dX6_isCoefficient_8 : decode cX6_isCoefficient 8 = .ok (.invokestatic 78, 3) := by decide +kernel
theorem dX6_isCoefficient_11 : decode cX6_isCoefficient 11 = .ok (.ireturn, 1) := by decide +kernel
set_option maxRecDepth 20000 in
theorem ggX6_tune_X6_noPolynomial : GoodIn wsX6_tune wsX6_noPolynomial := goodIn_r _ [7, 8, 9, 10, 6, 11, 17, 18, 19, 20, 21, 22, 23, 24, 25, 26, 27, 28, 29, 30, 31, 32, 33, 34, 35, 36, 37, 38, 39, 40, 41, 42, 43, 44, 45, 46] (by decide +kernel) (by decide +kernel)
set_option maxRecDepth 20000 in
theorem gX6_tune_X6_noPolynomial : GoodIn wsX6_tune (wsV RX6 193 RX6 yX6_noPolynomial wsX6_noPolynomial) := goodIn_app (goodIn_of _ (by decide +kernel)) ggX6_tune_X6_noPolynomial
set_option maxRecDepth 20000 in
theorem ggX6_tune_X6_in : GoodIn wsX6_tune wsX6_in := goodIn_r _ [11] (by decide +kernel) (by decide +kernel)
set_option maxRecDepth 20000 in
theorem gX6_tune_X6_in : GoodIn wsX6_tune (va_wsS RX6 78 yX6_in wsX6_in) := goodIn_app (goodIn_of _ (by decide +kernel)) ggX6_tune_X6_in
set_option maxRecDepth 20000 in
theorem ggX6_tune_X6_isCoefficient : GoodIn wsX6_tune wsX6_isCoefficient := goodIn_r _ [14, 15, 16, 9, 10, 6, 11] (by decide +kernel) (by decide +kernel)
set_option maxRecDepth 20000 in
theorem gX6_tune_X6_isCoefficient : GoodIn wsX6_tune (va_wsS RX6 210 yX6_isCoefficient wsX6_isCoefficient) := goodIn_app (goodIn_of _ (by decide +kernel)) ggX6_tune_X6_isCoefficient
theorem dX6_tune_0 : decode cX6_tune 0 = .ok (.aload_n 0, 1) := by decide +kernel
theorem dX6_tune_1 : decode cX6_tune 1 = .ok (.iload_n 1, 1) := by decide +kernel
theorem dX6_tune_2 : decode cX6_tune 2 = .ok (.invokevirtual 193, 3) := by decide +kernel
theorem dX6_tune_5 : decode cX6_tune 5 = .ok (.ifCond .eq 5, 3) := by decide +kernel
theorem dX6_tune_8 : decode cX6_tune 8 = .ok (.iconst (-1), 1) := by decide +kernel
theorem dX6_tune_9 : decode cX6_tune 9 = .ok (.ireturn, 1) := by decide +kernel
theorem dX6_tune_10 : decode cX6_tune 10 = .ok (.iload_n 2, 1) := by decide +kernel
theorem dX6_tune_11 : decode cX6_tune 11 = .ok (.i2l, 1) := by decide +kernel
theorem dX6_tune_12 : decode cX6_tune 12 = .ok (.lconst 0, 1) := by decide +kernel
theorem dX6_tune_13 : decode cX6_tune 13 = .ok (.ldc2_w 117, 3) := by decide +kernel
theorem dX6_tune_16 : decode cX6_tune 16 = .ok (.invokestatic 78, 3) := by decide +kernel
theorem dX6_tune_19 : decode cX6_tune 19 = .ok (.ifCond .eq 10, 3) := by decide +kernel
theorem dX6_tune_22 : decode cX6_tune 22 = .ok (.iload_n 3, 1) := by decide +kernel
theorem dX6_tune_23 : decode cX6_tune 23 = .ok (.invokestatic 210, 3) := by decide +kernel
theorem dX6_tune_26 : decode cX6_tune 26 = .ok (.ifCond .ne 6, 3) := by decide +kernel
theorem dX6_tune_29 : decode cX6_tune 29 = .ok (.bipush (-2), 2) := by decide +kernel
theorem dX6_tune_31 : decode cX6_tune 31 = .ok (.ireturn, 1) := by decide +kernel
theorem dX6_tune_32 : decode cX6_tune 32 = .ok (.aload_n 0, 1) := by decide +kernel
theorem dX6_tune_33 : decode cX6_tune 33 = .ok (.getfield 13, 3) := by decide +kernel
theorem dX6_tune_36 : decode cX6_tune 36 = .ok (.iconst 3, 1) := by decide +kernel
theorem dX6_tune_37 : decode cX6_tune 37 = .ok (.iload_n 1, 1) := by decide +kernel
theorem dX6_tune_38 : decode cX6_tune 38 = .ok (.imul, 1) := by decide +kernel
theorem dX6_tune_39 : decode cX6_tune 39 = .ok (.iload_n 2, 1) := by decide +kernel
theorem dX6_tune_40 : decode cX6_tune 40 = .ok (.iadd, 1) := by decide +kernel
theorem dX6_tune_41 : decode cX6_tune 41 = .ok (.iaload, 1) := by decide +kernel
theorem dX6_tune_42 : decode cX6_tune 42 = .ok (.istore 4, 2) := by decide +kernel
theorem dX6_tune_44 : decode cX6_tune 44 = .ok (.aload_n 0, 1) := by decide +kernel
theorem dX6_tune_45 : decode cX6_tune 45 = .ok (.getfield 13, 3) := by decide +kernel
theorem dX6_tune_48 : decode cX6_tune 48 = .ok (.iconst 3, 1) := by decide +kernel
theorem dX6_tune_49 : decode cX6_tune 49 = .ok (.iload_n 1, 1) := by decide +kernel
theorem dX6_tune_50 : decode cX6_tune 50 = .ok (.imul, 1) := by decide +kernel
theorem dX6_tune_51 : decode cX6_tune 51 = .ok (.iload_n 2, 1) := by decide +kernel
theorem dX6_tune_52 : decode cX6_tune 52 = .ok (.iadd, 1) := by decide +kernel
theorem dX6_tune_53 : decode cX6_tune 53 = .ok (.iload_n 3, 1) := by decide +kernel
theorem dX6_tune_54 : decode cX6_tune 54 = .ok (.iastore, 1) := by decide +kernel
theorem dX6_tune_55 : decode cX6_tune 55 = .ok (.iload 4, 2) := by decide +kernel
theorem dX6_tune_57 : decode cX6_tune 57 = .ok (.bipush 9, 2) := by decide +kernel
theorem dX6_tune_59 : decode cX6_tune 59 = .ok (.iadd, 1) := by decide +kernel
theorem dX6_tune_60 : decode cX6_tune 60 = .ok (.ireturn, 1) := by decide +kernel
set_option maxRecDepth 20000 in
theorem ggX6_rowsOf_X6_gathers : GoodIn wsX6_rowsOf wsX6_gathers := goodIn_r _ [10, 2, 3, 11, 12, 13, 9, 14, 15, 16, 17, 18, 19, 20, 21, 22, 23, 24, 25, 26, 27, 28, 29, 30, 31, 32, 33, 34, 35, 36, 37, 38, 39, 40, 41, 42, 43, 44, 45, 46, 47, 48, 49, 50, 51, 52, 53, 54, 71, 72, 73, 74, 75, 76, 77, 78, 79, 80, 81, 82, 83, 84, 85, 86, 87, 88, 89, 90, 91, 92, 93, 94, 95, 96, 97, 98, 99, 100] (by decide +kernel) (by decide +kernel)
set_option maxRecDepth 20000 in
theorem gX6_rowsOf_X6_gathers : GoodIn wsX6_rowsOf (wsV RX6 184 RX6 yX6_gathers wsX6_gathers) := goodIn_app (goodIn_of _ (by decide +kernel)) ggX6_rowsOf_X6_gathers
set_option maxRecDepth 20000 in
theorem ggX6_rowsOf_X6_signInSpot : GoodIn wsX6_rowsOf wsX6_signInSpot := goodIn_r _ [58, 21, 15, 16, 17, 9, 18, 19, 20, 48, 49, 50, 59, 60, 61, 62, 42, 31, 43, 33, 44, 34, 41, 32, 63, 64, 65, 66, 67, 68, 69, 70, 45, 46, 47, 71, 72, 73, 74, 75, 76, 77, 78, 79, 80, 81, 82, 83, 84, 85, 86, 87, 88, 89, 90, 91, 92, 93, 94, 95, 96, 97, 98, 99, 100] (by decide +kernel) (by decide +kernel)
set_option maxRecDepth 20000 in
theorem gX6_rowsOf_X6_signInSpot : GoodIn wsX6_rowsOf (wsV RX6 216 RX6 yX6_signInSpot wsX6_signInSpot) := goodIn_app (goodIn_of _ (by decide +kernel)) ggX6_rowsOf_X6_signInSpot
theorem dX6_rowsOf_0 : decode cX6_rowsOf 0 = .ok (.aload_n 0, 1) := by decide +kernel
theorem dX6_rowsOf_1 : decode cX6_rowsOf 1 = .ok (.invokevirtual 184, 3) := by decide +kernel
theorem dX6_rowsOf_4 : decode cX6_rowsOf 4 = .ok (.aload_n 0, 1) := by decide +kernel
theorem dX6_rowsOf_5 : decode cX6_rowsOf 5 = .ok (.iconst 0, 1) := by decide +kernel
theorem dX6_rowsOf_6 : decode cX6_rowsOf 6 = .ok (.putfield 213, 3) := by decide +kernel
theorem dX6_rowsOf_9 : decode cX6_rowsOf 9 = .ok (.iconst 0, 1) := by decide +kernel
theorem dX6_rowsOf_10 : decode cX6_rowsOf 10 = .ok (.istore_n 1, 1) := by decide +kernel
theorem dX6_rowsOf_11 : decode cX6_rowsOf 11 = .ok (.iload_n 1, 1) := by decide +kernel
theorem dX6_rowsOf_12 : decode cX6_rowsOf 12 = .ok (.iconst 2, 1) := by decide +kernel
theorem dX6_rowsOf_13 : decode cX6_rowsOf 13 = .ok (.aload_n 0, 1) := by decide +kernel
theorem dX6_rowsOf_14 : decode cX6_rowsOf 14 = .ok (.getfield 167, 3) := by decide +kernel
theorem dX6_rowsOf_17 : decode cX6_rowsOf 17 = .ok (.imul, 1) := by decide +kernel
theorem dX6_rowsOf_18 : decode cX6_rowsOf 18 = .ok (.if_icmp .gt 117, 3) := by decide +kernel
theorem dX6_rowsOf_21 : decode cX6_rowsOf 21 = .ok (.iconst 0, 1) := by decide +kernel
theorem dX6_rowsOf_22 : decode cX6_rowsOf 22 = .ok (.istore_n 2, 1) := by decide +kernel
theorem dX6_rowsOf_23 : decode cX6_rowsOf 23 = .ok (.iconst 0, 1) := by decide +kernel
theorem dX6_rowsOf_24 : decode cX6_rowsOf 24 = .ok (.istore_n 3, 1) := by decide +kernel
theorem dX6_rowsOf_25 : decode cX6_rowsOf 25 = .ok (.iload_n 3, 1) := by decide +kernel
theorem dX6_rowsOf_26 : decode cX6_rowsOf 26 = .ok (.aload_n 0, 1) := by decide +kernel
theorem dX6_rowsOf_27 : decode cX6_rowsOf 27 = .ok (.getfield 75, 3) := by decide +kernel
theorem dX6_rowsOf_30 : decode cX6_rowsOf 30 = .ok (.if_icmp .ge 22, 3) := by decide +kernel
theorem dX6_rowsOf_33 : decode cX6_rowsOf 33 = .ok (.iconst 3, 1) := by decide +kernel
theorem dX6_rowsOf_34 : decode cX6_rowsOf 34 = .ok (.iload_n 2, 1) := by decide +kernel
theorem dX6_rowsOf_35 : decode cX6_rowsOf 35 = .ok (.imul, 1) := by decide +kernel
theorem dX6_rowsOf_36 : decode cX6_rowsOf 36 = .ok (.aload_n 0, 1) := by decide +kernel
theorem dX6_rowsOf_37 : decode cX6_rowsOf 37 = .ok (.iload_n 1, 1) := by decide +kernel
theorem dX6_rowsOf_38 : decode cX6_rowsOf 38 = .ok (.iload_n 3, 1) := by decide +kernel
theorem dX6_rowsOf_39 : decode cX6_rowsOf 39 = .ok (.invokevirtual 216, 3) := by decide +kernel
theorem dX6_rowsOf_42 : decode cX6_rowsOf 42 = .ok (.iadd, 1) := by decide +kernel
theorem dX6_rowsOf_43 : decode cX6_rowsOf 43 = .ok (.iconst 1, 1) := by decide +kernel
theorem dX6_rowsOf_44 : decode cX6_rowsOf 44 = .ok (.iadd, 1) := by decide +kernel
theorem dX6_rowsOf_45 : decode cX6_rowsOf 45 = .ok (.istore_n 2, 1) := by decide +kernel
theorem dX6_rowsOf_46 : decode cX6_rowsOf 46 = .ok (.iinc 3 1, 3) := by decide +kernel
theorem dX6_rowsOf_49 : decode cX6_rowsOf 49 = .ok (.goto (-24), 3) := by decide +kernel
theorem dX6_rowsOf_52 : decode cX6_rowsOf 52 = .ok (.aload_n 0, 1) := by decide +kernel
theorem dX6_rowsOf_53 : decode cX6_rowsOf 53 = .ok (.getfield 38, 3) := by decide +kernel
theorem dX6_rowsOf_56 : decode cX6_rowsOf 56 = .ok (.iload_n 1, 1) := by decide +kernel
theorem dX6_rowsOf_57 : decode cX6_rowsOf 57 = .ok (.iload_n 2, 1) := by decide +kernel
theorem dX6_rowsOf_58 : decode cX6_rowsOf 58 = .ok (.iastore, 1) := by decide +kernel
theorem dX6_rowsOf_59 : decode cX6_rowsOf 59 = .ok (.iconst 0, 1) := by decide +kernel
theorem dX6_rowsOf_60 : decode cX6_rowsOf 60 = .ok (.istore_n 3, 1) := by decide +kernel
theorem dX6_rowsOf_61 : decode cX6_rowsOf 61 = .ok (.iconst 0, 1) := by decide +kernel
theorem dX6_rowsOf_62 : decode cX6_rowsOf 62 = .ok (.istore 4, 2) := by decide +kernel
theorem dX6_rowsOf_64 : decode cX6_rowsOf 64 = .ok (.iload 4, 2) := by decide +kernel
theorem dX6_rowsOf_66 : decode cX6_rowsOf 66 = .ok (.aload_n 0, 1) := by decide +kernel
theorem dX6_rowsOf_67 : decode cX6_rowsOf 67 = .ok (.getfield 213, 3) := by decide +kernel
theorem dX6_rowsOf_70 : decode cX6_rowsOf 70 = .ok (.if_icmp .ge 35, 3) := by decide +kernel
theorem dX6_rowsOf_73 : decode cX6_rowsOf 73 = .ok (.iload_n 3, 1) := by decide +kernel
theorem dX6_rowsOf_74 : decode cX6_rowsOf 74 = .ok (.ifCond .ne 19, 3) := by decide +kernel
theorem dX6_rowsOf_77 : decode cX6_rowsOf 77 = .ok (.aload_n 0, 1) := by decide +kernel
theorem dX6_rowsOf_78 : decode cX6_rowsOf 78 = .ok (.getfield 38, 3) := by decide +kernel
theorem dX6_rowsOf_81 : decode cX6_rowsOf 81 = .ok (.aload_n 0, 1) := by decide +kernel
theorem dX6_rowsOf_82 : decode cX6_rowsOf 82 = .ok (.getfield 41, 3) := by decide +kernel
theorem dX6_rowsOf_85 : decode cX6_rowsOf 85 = .ok (.iload 4, 2) := by decide +kernel
theorem dX6_rowsOf_87 : decode cX6_rowsOf 87 = .ok (.iaload, 1) := by decide +kernel
theorem dX6_rowsOf_88 : decode cX6_rowsOf 88 = .ok (.iaload, 1) := by decide +kernel
theorem dX6_rowsOf_89 : decode cX6_rowsOf 89 = .ok (.iload_n 2, 1) := by decide +kernel
theorem dX6_rowsOf_90 : decode cX6_rowsOf 90 = .ok (.if_icmp .ne 7, 3) := by decide +kernel
theorem dX6_rowsOf_93 : decode cX6_rowsOf 93 = .ok (.iconst 1, 1) := by decide +kernel
theorem dX6_rowsOf_94 : decode cX6_rowsOf 94 = .ok (.goto 4, 3) := by decide +kernel
theorem dX6_rowsOf_97 : decode cX6_rowsOf 97 = .ok (.iconst 0, 1) := by decide +kernel
theorem dX6_rowsOf_98 : decode cX6_rowsOf 98 = .ok (.istore_n 3, 1) := by decide +kernel
theorem dX6_rowsOf_99 : decode cX6_rowsOf 99 = .ok (.iinc 4 1, 3) := by decide +kernel
theorem dX6_rowsOf_102 : decode cX6_rowsOf 102 = .ok (.goto (-38), 3) := by decide +kernel
theorem dX6_rowsOf_105 : decode cX6_rowsOf 105 = .ok (.iload_n 3, 1) := by decide +kernel
theorem dX6_rowsOf_106 : decode cX6_rowsOf 106 = .ok (.ifCond .ne 23, 3) := by decide +kernel
theorem dX6_rowsOf_109 : decode cX6_rowsOf 109 = .ok (.aload_n 0, 1) := by decide +kernel
theorem dX6_rowsOf_110 : decode cX6_rowsOf 110 = .ok (.getfield 41, 3) := by decide +kernel
theorem dX6_rowsOf_113 : decode cX6_rowsOf 113 = .ok (.aload_n 0, 1) := by decide +kernel
theorem dX6_rowsOf_114 : decode cX6_rowsOf 114 = .ok (.getfield 213, 3) := by decide +kernel
theorem dX6_rowsOf_117 : decode cX6_rowsOf 117 = .ok (.iload_n 1, 1) := by decide +kernel
theorem dX6_rowsOf_118 : decode cX6_rowsOf 118 = .ok (.iastore, 1) := by decide +kernel
theorem dX6_rowsOf_119 : decode cX6_rowsOf 119 = .ok (.aload_n 0, 1) := by decide +kernel
theorem dX6_rowsOf_120 : decode cX6_rowsOf 120 = .ok (.dup, 1) := by decide +kernel
theorem dX6_rowsOf_121 : decode cX6_rowsOf 121 = .ok (.getfield 213, 3) := by decide +kernel
theorem dX6_rowsOf_124 : decode cX6_rowsOf 124 = .ok (.iconst 1, 1) := by decide +kernel
theorem dX6_rowsOf_125 : decode cX6_rowsOf 125 = .ok (.iadd, 1) := by decide +kernel
theorem dX6_rowsOf_126 : decode cX6_rowsOf 126 = .ok (.putfield 213, 3) := by decide +kernel
theorem dX6_rowsOf_129 : decode cX6_rowsOf 129 = .ok (.iinc 1 1, 3) := by decide +kernel
theorem dX6_rowsOf_132 : decode cX6_rowsOf 132 = .ok (.goto (-121), 3) := by decide +kernel
theorem dX6_rowsOf_135 : decode cX6_rowsOf 135 = .ok (.return_, 1) := by decide +kernel
set_option maxRecDepth 20000 in
theorem ggX6_allAbove_X6_signInSpot : GoodIn wsX6_allAbove wsX6_signInSpot := goodIn_r _ [7, 8, 9, 10, 11, 6, 12, 13, 14, 15, 16, 17, 18, 19, 20, 21, 22, 23, 24, 25, 26, 27, 28, 29, 30, 31, 32, 33, 34, 35, 36, 37, 38, 39, 40, 41, 42, 43, 44, 45, 46, 47, 48, 49, 50, 51, 52, 53, 54, 55, 56, 57, 58, 59, 60, 61, 62, 63, 64, 65, 66, 67, 68, 69, 70] (by decide +kernel) (by decide +kernel)
set_option maxRecDepth 20000 in
theorem gX6_allAbove_X6_signInSpot : GoodIn wsX6_allAbove (wsV RX6 216 RX6 yX6_signInSpot wsX6_signInSpot) := goodIn_app (goodIn_of _ (by decide +kernel)) ggX6_allAbove_X6_signInSpot
theorem dX6_allAbove_0 : decode cX6_allAbove 0 = .ok (.iconst 0, 1) := by decide +kernel
theorem dX6_allAbove_1 : decode cX6_allAbove 1 = .ok (.istore_n 1, 1) := by decide +kernel
theorem dX6_allAbove_2 : decode cX6_allAbove 2 = .ok (.iconst 0, 1) := by decide +kernel
theorem dX6_allAbove_3 : decode cX6_allAbove 3 = .ok (.istore_n 2, 1) := by decide +kernel
theorem dX6_allAbove_4 : decode cX6_allAbove 4 = .ok (.iload_n 2, 1) := by decide +kernel
theorem dX6_allAbove_5 : decode cX6_allAbove 5 = .ok (.iconst 2, 1) := by decide +kernel
theorem dX6_allAbove_6 : decode cX6_allAbove 6 = .ok (.aload_n 0, 1) := by decide +kernel
theorem dX6_allAbove_7 : decode cX6_allAbove 7 = .ok (.getfield 167, 3) := by decide +kernel
theorem dX6_allAbove_10 : decode cX6_allAbove 10 = .ok (.imul, 1) := by decide +kernel
theorem dX6_allAbove_11 : decode cX6_allAbove 11 = .ok (.if_icmp .gt 61, 3) := by decide +kernel
theorem dX6_allAbove_14 : decode cX6_allAbove 14 = .ok (.iconst 1, 1) := by decide +kernel
theorem dX6_allAbove_15 : decode cX6_allAbove 15 = .ok (.istore_n 3, 1) := by decide +kernel
theorem dX6_allAbove_16 : decode cX6_allAbove 16 = .ok (.iconst 0, 1) := by decide +kernel
theorem dX6_allAbove_17 : decode cX6_allAbove 17 = .ok (.istore 4, 2) := by decide +kernel
theorem dX6_allAbove_19 : decode cX6_allAbove 19 = .ok (.iload 4, 2) := by decide +kernel
theorem dX6_allAbove_21 : decode cX6_allAbove 21 = .ok (.aload_n 0, 1) := by decide +kernel
theorem dX6_allAbove_22 : decode cX6_allAbove 22 = .ok (.getfield 75, 3) := by decide +kernel
theorem dX6_allAbove_25 : decode cX6_allAbove 25 = .ok (.if_icmp .ge 29, 3) := by decide +kernel
theorem dX6_allAbove_28 : decode cX6_allAbove 28 = .ok (.iload_n 3, 1) := by decide +kernel
theorem dX6_allAbove_29 : decode cX6_allAbove 29 = .ok (.ifCond .eq 17, 3) := by decide +kernel
theorem dX6_allAbove_32 : decode cX6_allAbove 32 = .ok (.aload_n 0, 1) := by decide +kernel
theorem dX6_allAbove_33 : decode cX6_allAbove 33 = .ok (.iload_n 2, 1) := by decide +kernel
theorem dX6_allAbove_34 : decode cX6_allAbove 34 = .ok (.iload 4, 2) := by decide +kernel
theorem dX6_allAbove_36 : decode cX6_allAbove 36 = .ok (.invokevirtual 216, 3) := by decide +kernel
theorem dX6_allAbove_39 : decode cX6_allAbove 39 = .ok (.ifCond .le 7, 3) := by decide +kernel
theorem dX6_allAbove_42 : decode cX6_allAbove 42 = .ok (.iconst 1, 1) := by decide +kernel
theorem dX6_allAbove_43 : decode cX6_allAbove 43 = .ok (.goto 4, 3) := by decide +kernel
theorem dX6_allAbove_46 : decode cX6_allAbove 46 = .ok (.iconst 0, 1) := by decide +kernel
theorem dX6_allAbove_47 : decode cX6_allAbove 47 = .ok (.istore_n 3, 1) := by decide +kernel
theorem dX6_allAbove_48 : decode cX6_allAbove 48 = .ok (.iinc 4 1, 3) := by decide +kernel
theorem dX6_allAbove_51 : decode cX6_allAbove 51 = .ok (.goto (-32), 3) := by decide +kernel
theorem dX6_allAbove_54 : decode cX6_allAbove 54 = .ok (.iload_n 1, 1) := by decide +kernel
theorem dX6_allAbove_55 : decode cX6_allAbove 55 = .ok (.iload_n 3, 1) := by decide +kernel
theorem dX6_allAbove_56 : decode cX6_allAbove 56 = .ok (.ifCond .eq 7, 3) := by decide +kernel
theorem dX6_allAbove_59 : decode cX6_allAbove 59 = .ok (.iconst 1, 1) := by decide +kernel
theorem dX6_allAbove_60 : decode cX6_allAbove 60 = .ok (.goto 4, 3) := by decide +kernel
theorem dX6_allAbove_63 : decode cX6_allAbove 63 = .ok (.iconst 0, 1) := by decide +kernel
theorem dX6_allAbove_64 : decode cX6_allAbove 64 = .ok (.iadd, 1) := by decide +kernel
theorem dX6_allAbove_65 : decode cX6_allAbove 65 = .ok (.istore_n 1, 1) := by decide +kernel
theorem dX6_allAbove_66 : decode cX6_allAbove 66 = .ok (.iinc 2 1, 3) := by decide +kernel
theorem dX6_allAbove_69 : decode cX6_allAbove 69 = .ok (.goto (-65), 3) := by decide +kernel
theorem dX6_allAbove_72 : decode cX6_allAbove 72 = .ok (.iload_n 1, 1) := by decide +kernel
theorem dX6_allAbove_73 : decode cX6_allAbove 73 = .ok (.ireturn, 1) := by decide +kernel
set_option maxRecDepth 20000 in
theorem ggX6_rootless_X6_rootsOf : GoodIn wsX6_rootless wsX6_rootsOf := goodIn_r _ [6, 7, 8, 9, 5, 10, 11, 12, 13, 14, 15, 16, 17, 18, 19, 20, 21, 22, 23, 24, 25, 26, 27, 28, 29, 30, 31, 32, 33, 34, 35, 36, 37, 38, 39, 40, 41, 42, 43, 44, 45, 46, 47, 48] (by decide +kernel) (by decide +kernel)
set_option maxRecDepth 20000 in
theorem gX6_rootless_X6_rootsOf : GoodIn wsX6_rootless (wsV RX6 170 RX6 yX6_rootsOf wsX6_rootsOf) := goodIn_app (goodIn_of _ (by decide +kernel)) ggX6_rootless_X6_rootsOf
theorem dX6_rootless_0 : decode cX6_rootless 0 = .ok (.iconst 0, 1) := by decide +kernel
theorem dX6_rootless_1 : decode cX6_rootless 1 = .ok (.istore_n 1, 1) := by decide +kernel
theorem dX6_rootless_2 : decode cX6_rootless 2 = .ok (.iconst 0, 1) := by decide +kernel
theorem dX6_rootless_3 : decode cX6_rootless 3 = .ok (.istore_n 2, 1) := by decide +kernel
theorem dX6_rootless_4 : decode cX6_rootless 4 = .ok (.iload_n 2, 1) := by decide +kernel
theorem dX6_rootless_5 : decode cX6_rootless 5 = .ok (.aload_n 0, 1) := by decide +kernel
theorem dX6_rootless_6 : decode cX6_rootless 6 = .ok (.getfield 75, 3) := by decide +kernel
theorem dX6_rootless_9 : decode cX6_rootless 9 = .ok (.if_icmp .ge 25, 3) := by decide +kernel
theorem dX6_rootless_12 : decode cX6_rootless 12 = .ok (.iload_n 1, 1) := by decide +kernel
theorem dX6_rootless_13 : decode cX6_rootless 13 = .ok (.aload_n 0, 1) := by decide +kernel
theorem dX6_rootless_14 : decode cX6_rootless 14 = .ok (.iload_n 2, 1) := by decide +kernel
theorem dX6_rootless_15 : decode cX6_rootless 15 = .ok (.invokevirtual 170, 3) := by decide +kernel
theorem dX6_rootless_18 : decode cX6_rootless 18 = .ok (.ifCond .ne 7, 3) := by decide +kernel
theorem dX6_rootless_21 : decode cX6_rootless 21 = .ok (.iconst 1, 1) := by decide +kernel
theorem dX6_rootless_22 : decode cX6_rootless 22 = .ok (.goto 4, 3) := by decide +kernel
theorem dX6_rootless_25 : decode cX6_rootless 25 = .ok (.iconst 0, 1) := by decide +kernel
theorem dX6_rootless_26 : decode cX6_rootless 26 = .ok (.iadd, 1) := by decide +kernel
theorem dX6_rootless_27 : decode cX6_rootless 27 = .ok (.istore_n 1, 1) := by decide +kernel
theorem dX6_rootless_28 : decode cX6_rootless 28 = .ok (.iinc 2 1, 3) := by decide +kernel
theorem dX6_rootless_31 : decode cX6_rootless 31 = .ok (.goto (-27), 3) := by decide +kernel
theorem dX6_rootless_34 : decode cX6_rootless 34 = .ok (.iload_n 1, 1) := by decide +kernel
theorem dX6_rootless_35 : decode cX6_rootless 35 = .ok (.ireturn, 1) := by decide +kernel
set_option maxRecDepth 20000 in
theorem ggX6_dayOf_X6_tune : GoodIn wsX6_dayOf wsX6_tune := goodIn_r _ [8, 9, 10, 11, 12, 13, 7, 14, 15, 16, 17, 18, 19, 20, 21, 22, 23, 100, 101, 102, 103, 104, 105, 106, 107, 108, 109, 110, 111, 112, 113, 114, 115, 116, 117, 118, 119, 120, 121, 122, 123, 124, 125, 126, 127, 128, 129] (by decide +kernel) (by decide +kernel)
set_option maxRecDepth 20000 in
theorem gX6_dayOf_X6_tune : GoodIn wsX6_dayOf (wsV RX6 219 RX6 yX6_tune wsX6_tune) := goodIn_app (goodIn_of _ (by decide +kernel)) ggX6_dayOf_X6_tune
set_option maxRecDepth 20000 in
theorem ggX6_dayOf_X6_noPolynomial : GoodIn wsX6_dayOf wsX6_noPolynomial := goodIn_r _ [14, 15, 16, 17, 7, 18, 100, 101, 102, 103, 104, 105, 106, 107, 108, 109, 110, 111, 112, 113, 114, 115, 116, 117, 118, 119, 120, 121, 122, 123, 124, 125, 126, 127, 128, 129] (by decide +kernel) (by decide +kernel)
set_option maxRecDepth 20000 in
theorem gX6_dayOf_X6_noPolynomial : GoodIn wsX6_dayOf (wsV RX6 193 RX6 yX6_noPolynomial wsX6_noPolynomial) := goodIn_app (goodIn_of _ (by decide +kernel)) ggX6_dayOf_X6_noPolynomial
set_option maxRecDepth 20000 in
theorem ggX6_dayOf_X6_rootsOf : GoodIn wsX6_dayOf wsX6_rootsOf := goodIn_r _ [27, 28, 29, 30, 7, 31, 10, 32, 9, 33, 34, 35, 36, 37, 100, 101, 102, 103, 104, 105, 106, 107, 108, 109, 110, 111, 112, 113, 114, 115, 116, 117, 118, 119, 120, 121, 122, 123, 124, 125, 126, 127, 128, 129] (by decide +kernel) (by decide +kernel)
set_option maxRecDepth 20000 in
theorem gX6_dayOf_X6_rootsOf : GoodIn wsX6_dayOf (wsV RX6 170 RX6 yX6_rootsOf wsX6_rootsOf) := goodIn_app (goodIn_of _ (by decide +kernel)) ggX6_dayOf_X6_rootsOf
set_option maxRecDepth 20000 in
theorem ggX6_dayOf_X6_rowsOf : GoodIn wsX6_dayOf wsX6_rowsOf := goodIn_r _ [41, 3, 2, 15, 42, 43, 44, 45, 46, 7, 47, 24, 25, 26, 27, 28, 29, 30, 31, 10, 32, 9, 33, 34, 35, 36, 37, 48, 49, 50, 51, 52, 53, 54, 55, 56, 57, 58, 59, 60, 61, 62, 63, 64, 65, 66, 67, 68, 69, 70, 71, 72, 73, 74, 75, 76, 77, 78, 79, 80, 81, 82, 83, 84, 85, 86, 87, 88, 89, 90, 91, 100, 101, 102, 103, 104, 105, 106, 107, 108, 109, 110, 111, 112, 113, 114, 115, 116, 117, 118, 119, 120, 121, 122, 123, 124, 125, 126, 127, 128, 129] (by decide +kernel) (by decide +kernel)
set_option maxRecDepth 20000 in
theorem gX6_dayOf_X6_rowsOf : GoodIn wsX6_dayOf (wsV RX6 223 RX6 yX6_rowsOf wsX6_rowsOf) := goodIn_app (goodIn_of _ (by decide +kernel)) ggX6_dayOf_X6_rowsOf
set_option maxRecDepth 20000 in
theorem ggX6_dayOf_X6_allAbove : GoodIn wsX6_dayOf wsX6_allAbove := goodIn_r _ [95, 2, 15, 76, 77, 78, 7, 79, 9, 28, 29, 30, 31, 10, 32, 69, 70, 71, 80, 81, 82, 83, 63, 52, 64, 54, 65, 55, 62, 53, 84, 85, 86, 87, 88, 89, 90, 91, 66, 67, 68, 100, 101, 102, 103, 104, 105, 106, 107, 108, 109, 110, 111, 112, 113, 114, 115, 116, 117, 118, 119, 120, 121, 122, 123, 124, 125, 126, 127, 128, 129] (by decide +kernel) (by decide +kernel)
set_option maxRecDepth 20000 in
theorem gX6_dayOf_X6_allAbove : GoodIn wsX6_dayOf (wsV RX6 226 RX6 yX6_allAbove wsX6_allAbove) := goodIn_app (goodIn_of _ (by decide +kernel)) ggX6_dayOf_X6_allAbove
set_option maxRecDepth 20000 in
theorem ggX6_dayOf_X6_rootless : GoodIn wsX6_dayOf wsX6_rootless := goodIn_r _ [99, 15, 24, 25, 26, 7, 27, 28, 29, 30, 31, 10, 32, 9, 33, 34, 35, 36, 37, 100, 101, 102, 103, 104, 105, 106, 107, 108, 109, 110, 111, 112, 113, 114, 115, 116, 117, 118, 119, 120, 121, 122, 123, 124, 125, 126, 127, 128, 129] (by decide +kernel) (by decide +kernel)
set_option maxRecDepth 20000 in
theorem gX6_dayOf_X6_rootless : GoodIn wsX6_dayOf (wsV RX6 230 RX6 yX6_rootless wsX6_rootless) := goodIn_app (goodIn_of _ (by decide +kernel)) ggX6_dayOf_X6_rootless
theorem dX6_dayOf_0 : decode cX6_dayOf 0 = .ok (.bipush (-9), 2) := by decide +kernel
theorem dX6_dayOf_2 : decode cX6_dayOf 2 = .ok (.istore 4, 2) := by decide +kernel
theorem dX6_dayOf_4 : decode cX6_dayOf 4 = .ok (.iconst 0, 1) := by decide +kernel
theorem dX6_dayOf_5 : decode cX6_dayOf 5 = .ok (.istore 5, 2) := by decide +kernel
theorem dX6_dayOf_7 : decode cX6_dayOf 7 = .ok (.iload 5, 2) := by decide +kernel
theorem dX6_dayOf_9 : decode cX6_dayOf 9 = .ok (.iload_n 2, 1) := by decide +kernel
theorem dX6_dayOf_10 : decode cX6_dayOf 10 = .ok (.if_icmp .ge 63, 3) := by decide +kernel
theorem dX6_dayOf_13 : decode cX6_dayOf 13 = .ok (.iload 4, 2) := by decide +kernel
theorem dX6_dayOf_15 : decode cX6_dayOf 15 = .ok (.ifCond .ge 58, 3) := by decide +kernel
theorem dX6_dayOf_18 : decode cX6_dayOf 18 = .ok (.iload_n 1, 1) := by decide +kernel
theorem dX6_dayOf_19 : decode cX6_dayOf 19 = .ok (.iconst 3, 1) := by decide +kernel
theorem dX6_dayOf_20 : decode cX6_dayOf 20 = .ok (.iload 5, 2) := by decide +kernel
theorem dX6_dayOf_22 : decode cX6_dayOf 22 = .ok (.imul, 1) := by decide +kernel
theorem dX6_dayOf_23 : decode cX6_dayOf 23 = .ok (.iadd, 1) := by decide +kernel
theorem dX6_dayOf_24 : decode cX6_dayOf 24 = .ok (.istore 6, 2) := by decide +kernel
theorem dX6_dayOf_26 : decode cX6_dayOf 26 = .ok (.aload_n 0, 1) := by decide +kernel
theorem dX6_dayOf_27 : decode cX6_dayOf 27 = .ok (.aload_n 0, 1) := by decide +kernel
theorem dX6_dayOf_28 : decode cX6_dayOf 28 = .ok (.getfield 59, 3) := by decide +kernel
theorem dX6_dayOf_31 : decode cX6_dayOf 31 = .ok (.iload 6, 2) := by decide +kernel
theorem dX6_dayOf_33 : decode cX6_dayOf 33 = .ok (.iaload, 1) := by decide +kernel
theorem dX6_dayOf_34 : decode cX6_dayOf 34 = .ok (.aload_n 0, 1) := by decide +kernel
theorem dX6_dayOf_35 : decode cX6_dayOf 35 = .ok (.getfield 59, 3) := by decide +kernel
theorem dX6_dayOf_38 : decode cX6_dayOf 38 = .ok (.iload 6, 2) := by decide +kernel
theorem dX6_dayOf_40 : decode cX6_dayOf 40 = .ok (.iconst 1, 1) := by decide +kernel
theorem dX6_dayOf_41 : decode cX6_dayOf 41 = .ok (.iadd, 1) := by decide +kernel
theorem dX6_dayOf_42 : decode cX6_dayOf 42 = .ok (.iaload, 1) := by decide +kernel
theorem dX6_dayOf_43 : decode cX6_dayOf 43 = .ok (.aload_n 0, 1) := by decide +kernel
theorem dX6_dayOf_44 : decode cX6_dayOf 44 = .ok (.getfield 59, 3) := by decide +kernel
theorem dX6_dayOf_47 : decode cX6_dayOf 47 = .ok (.iload 6, 2) := by decide +kernel
theorem dX6_dayOf_49 : decode cX6_dayOf 49 = .ok (.iconst 2, 1) := by decide +kernel
theorem dX6_dayOf_50 : decode cX6_dayOf 50 = .ok (.iadd, 1) := by decide +kernel
theorem dX6_dayOf_51 : decode cX6_dayOf 51 = .ok (.iaload, 1) := by decide +kernel
theorem dX6_dayOf_52 : decode cX6_dayOf 52 = .ok (.invokevirtual 219, 3) := by decide +kernel
theorem dX6_dayOf_55 : decode cX6_dayOf 55 = .ok (.ifCond .lt 8, 3) := by decide +kernel
theorem dX6_dayOf_58 : decode cX6_dayOf 58 = .ok (.bipush (-9), 2) := by decide +kernel
theorem dX6_dayOf_60 : decode cX6_dayOf 60 = .ok (.goto 5, 3) := by decide +kernel
theorem dX6_dayOf_63 : decode cX6_dayOf 63 = .ok (.iload 5, 2) := by decide +kernel
theorem dX6_dayOf_65 : decode cX6_dayOf 65 = .ok (.istore 4, 2) := by decide +kernel
theorem dX6_dayOf_67 : decode cX6_dayOf 67 = .ok (.iinc 5 1, 3) := by decide +kernel
theorem dX6_dayOf_70 : decode cX6_dayOf 70 = .ok (.goto (-63), 3) := by decide +kernel
theorem dX6_dayOf_73 : decode cX6_dayOf 73 = .ok (.iload_n 3, 1) := by decide +kernel
theorem dX6_dayOf_74 : decode cX6_dayOf 74 = .ok (.iconst 1, 1) := by decide +kernel
theorem dX6_dayOf_75 : decode cX6_dayOf 75 = .ok (.if_icmp .ne 6, 3) := by decide +kernel
theorem dX6_dayOf_78 : decode cX6_dayOf 78 = .ok (.iload 4, 2) := by decide +kernel
theorem dX6_dayOf_80 : decode cX6_dayOf 80 = .ok (.ireturn, 1) := by decide +kernel
theorem dX6_dayOf_81 : decode cX6_dayOf 81 = .ok (.iload 4, 2) := by decide +kernel
theorem dX6_dayOf_83 : decode cX6_dayOf 83 = .ok (.ifCond .lt 9, 3) := by decide +kernel
theorem dX6_dayOf_86 : decode cX6_dayOf 86 = .ok (.bipush (-100), 2) := by decide +kernel
theorem dX6_dayOf_88 : decode cX6_dayOf 88 = .ok (.iload 4, 2) := by decide +kernel
theorem dX6_dayOf_90 : decode cX6_dayOf 90 = .ok (.isub, 1) := by decide +kernel
theorem dX6_dayOf_91 : decode cX6_dayOf 91 = .ok (.ireturn, 1) := by decide +kernel
theorem dX6_dayOf_92 : decode cX6_dayOf 92 = .ok (.iload_n 3, 1) := by decide +kernel
theorem dX6_dayOf_93 : decode cX6_dayOf 93 = .ok (.bipush 10, 2) := by decide +kernel
theorem dX6_dayOf_95 : decode cX6_dayOf 95 = .ok (.if_icmp .lt 28, 3) := by decide +kernel
theorem dX6_dayOf_98 : decode cX6_dayOf 98 = .ok (.aload_n 0, 1) := by decide +kernel
theorem dX6_dayOf_99 : decode cX6_dayOf 99 = .ok (.iload_n 3, 1) := by decide +kernel
theorem dX6_dayOf_100 : decode cX6_dayOf 100 = .ok (.bipush 10, 2) := by decide +kernel
theorem dX6_dayOf_102 : decode cX6_dayOf 102 = .ok (.isub, 1) := by decide +kernel
theorem dX6_dayOf_103 : decode cX6_dayOf 103 = .ok (.invokevirtual 193, 3) := by decide +kernel
theorem dX6_dayOf_106 : decode cX6_dayOf 106 = .ok (.ifCond .eq 8, 3) := by decide +kernel
theorem dX6_dayOf_109 : decode cX6_dayOf 109 = .ok (.bipush (-9), 2) := by decide +kernel
theorem dX6_dayOf_111 : decode cX6_dayOf 111 = .ok (.goto 11, 3) := by decide +kernel
theorem dX6_dayOf_114 : decode cX6_dayOf 114 = .ok (.aload_n 0, 1) := by decide +kernel
theorem dX6_dayOf_115 : decode cX6_dayOf 115 = .ok (.iload_n 3, 1) := by decide +kernel
theorem dX6_dayOf_116 : decode cX6_dayOf 116 = .ok (.bipush 10, 2) := by decide +kernel
theorem dX6_dayOf_118 : decode cX6_dayOf 118 = .ok (.isub, 1) := by decide +kernel
theorem dX6_dayOf_119 : decode cX6_dayOf 119 = .ok (.invokevirtual 170, 3) := by decide +kernel
theorem dX6_dayOf_122 : decode cX6_dayOf 122 = .ok (.ireturn, 1) := by decide +kernel
theorem dX6_dayOf_123 : decode cX6_dayOf 123 = .ok (.aload_n 0, 1) := by decide +kernel
theorem dX6_dayOf_124 : decode cX6_dayOf 124 = .ok (.invokevirtual 223, 3) := by decide +kernel
theorem dX6_dayOf_127 : decode cX6_dayOf 127 = .ok (.iload_n 3, 1) := by decide +kernel
theorem dX6_dayOf_128 : decode cX6_dayOf 128 = .ok (.ifCond .ne 10, 3) := by decide +kernel
theorem dX6_dayOf_131 : decode cX6_dayOf 131 = .ok (.aload_n 0, 1) := by decide +kernel
theorem dX6_dayOf_132 : decode cX6_dayOf 132 = .ok (.getfield 167, 3) := by decide +kernel
theorem dX6_dayOf_135 : decode cX6_dayOf 135 = .ok (.goto 31, 3) := by decide +kernel
theorem dX6_dayOf_138 : decode cX6_dayOf 138 = .ok (.iload_n 3, 1) := by decide +kernel
theorem dX6_dayOf_139 : decode cX6_dayOf 139 = .ok (.iconst 2, 1) := by decide +kernel
theorem dX6_dayOf_140 : decode cX6_dayOf 140 = .ok (.if_icmp .ne 10, 3) := by decide +kernel
theorem dX6_dayOf_143 : decode cX6_dayOf 143 = .ok (.aload_n 0, 1) := by decide +kernel
theorem dX6_dayOf_144 : decode cX6_dayOf 144 = .ok (.getfield 213, 3) := by decide +kernel
theorem dX6_dayOf_147 : decode cX6_dayOf 147 = .ok (.goto 19, 3) := by decide +kernel
theorem dX6_dayOf_150 : decode cX6_dayOf 150 = .ok (.iload_n 3, 1) := by decide +kernel
theorem dX6_dayOf_151 : decode cX6_dayOf 151 = .ok (.iconst 3, 1) := by decide +kernel
theorem dX6_dayOf_152 : decode cX6_dayOf 152 = .ok (.if_icmp .ne 10, 3) := by decide +kernel
theorem dX6_dayOf_155 : decode cX6_dayOf 155 = .ok (.aload_n 0, 1) := by decide +kernel
theorem dX6_dayOf_156 : decode cX6_dayOf 156 = .ok (.invokevirtual 226, 3) := by decide +kernel
theorem dX6_dayOf_159 : decode cX6_dayOf 159 = .ok (.goto 7, 3) := by decide +kernel
theorem dX6_dayOf_162 : decode cX6_dayOf 162 = .ok (.aload_n 0, 1) := by decide +kernel
theorem dX6_dayOf_163 : decode cX6_dayOf 163 = .ok (.invokevirtual 230, 3) := by decide +kernel
theorem dX6_dayOf_166 : decode cX6_dayOf 166 = .ok (.ireturn, 1) := by decide +kernel
set_option maxRecDepth 20000 in
theorem ggX6_day_X6_noSheet : GoodIn wsX6_day wsX6_noSheet := goodIn_r _ [14, 7, 15, 16, 13, 17] (by decide +kernel) (by decide +kernel)
set_option maxRecDepth 20000 in
theorem gX6_day_X6_noSheet : GoodIn wsX6_day (va_wsS RX6 110 yX6_noSheet wsX6_noSheet) := goodIn_app (goodIn_of _ (by decide +kernel)) ggX6_day_X6_noSheet
set_option maxRecDepth 20000 in
theorem ggX6_day_X6_refused : GoodIn wsX6_day wsX6_refused := goodIn_r _ [21, 22, 130, 131, 132, 133, 134, 135, 136, 137, 138, 139, 140, 141, 142, 143, 144, 145, 146, 147, 148, 149, 150, 151, 152, 153, 154, 155, 156, 157, 158, 159] (by decide +kernel) (by decide +kernel)
set_option maxRecDepth 20000 in
theorem gX6_day_X6_refused : GoodIn wsX6_day (wsV RX6 114 RX6 yX6_refused wsX6_refused) := goodIn_app (goodIn_of _ (by decide +kernel)) ggX6_day_X6_refused
set_option maxRecDepth 20000 in
theorem ggX6_day_X6_in : GoodIn wsX6_day wsX6_in := goodIn_r _ [17] (by decide +kernel) (by decide +kernel)
set_option maxRecDepth 20000 in
theorem gX6_day_X6_in : GoodIn wsX6_day (va_wsS RX6 78 yX6_in wsX6_in) := goodIn_app (goodIn_of _ (by decide +kernel)) ggX6_day_X6_in
set_option maxRecDepth 20000 in
theorem ggX6_day_X6_cellsBarred : GoodIn wsX6_day wsX6_cellsBarred := goodIn_r _ [26, 27, 28, 29, 30, 31, 13, 32, 22, 33, 34, 35, 130, 131, 132, 133, 134, 135, 136, 137, 138, 139, 140, 141, 142, 143, 144, 145, 146, 147, 148, 149, 150, 151, 152, 153, 154, 155, 156, 157, 158, 159] (by decide +kernel) (by decide +kernel)
set_option maxRecDepth 20000 in
theorem gX6_day_X6_cellsBarred : GoodIn wsX6_day (wsV RX6 119 RX6 yX6_cellsBarred wsX6_cellsBarred) := goodIn_app (goodIn_of _ (by decide +kernel)) ggX6_day_X6_cellsBarred
set_option maxRecDepth 20000 in
theorem ggX6_day_X6_isCoefficient : GoodIn wsX6_day wsX6_isCoefficient := goodIn_r _ [38, 39, 40, 15, 16, 13, 17] (by decide +kernel) (by decide +kernel)
set_option maxRecDepth 20000 in
theorem gX6_day_X6_isCoefficient : GoodIn wsX6_day (va_wsS RX6 210 yX6_isCoefficient wsX6_isCoefficient) := goodIn_app (goodIn_of _ (by decide +kernel)) ggX6_day_X6_isCoefficient
set_option maxRecDepth 20000 in
theorem ggX6_day_X6_dayOf : GoodIn wsX6_day wsX6_dayOf := goodIn_r _ [44, 8, 45, 46, 47, 48, 49, 13, 50, 1, 10, 51, 52, 53, 54, 6, 15, 16, 17, 36, 37, 38, 39, 40, 55, 56, 57, 58, 59, 60, 61, 62, 63, 64, 65, 66, 67, 3, 68, 69, 70, 71, 72, 73, 74, 75, 76, 77, 78, 79, 80, 81, 82, 83, 84, 85, 86, 87, 88, 89, 90, 91, 92, 93, 94, 95, 96, 97, 98, 99, 100, 101, 102, 103, 104, 105, 106, 107, 108, 109, 110, 111, 112, 113, 114, 115, 116, 117, 118, 119, 120, 121, 122, 123, 124, 125, 126, 127, 128, 129, 130, 131, 132, 133, 134, 135, 136, 137, 138, 139, 140, 141, 142, 143, 144, 145, 146, 147, 148, 149, 150, 151, 152, 153, 154, 155, 156, 157, 158, 159] (by decide +kernel) (by decide +kernel)
set_option maxRecDepth 20000 in
theorem gX6_day_X6_dayOf : GoodIn wsX6_day (wsV RX6 237 RX6 yX6_dayOf wsX6_dayOf) := goodIn_app (goodIn_of _ (by decide +kernel)) ggX6_day_X6_dayOf
theorem dX6_day_0 : decode cX6_day 0 = .ok (.iload_n 1, 1) := by decide +kernel
theorem dX6_day_1 : decode cX6_day 1 = .ok (.invokestatic 110, 3) := by decide +kernel
theorem dX6_day_4 : decode cX6_day 4 = .ok (.ifCond .eq 9, 3) := by decide +kernel
theorem dX6_day_7 : decode cX6_day 7 = .ok (.aload_n 0, 1) := by decide +kernel
theorem dX6_day_8 : decode cX6_day 8 = .ok (.iconst (-1), 1) := by decide +kernel
theorem dX6_day_9 : decode cX6_day 9 = .ok (.invokevirtual 114, 3) := by decide +kernel
theorem dX6_day_12 : decode cX6_day 12 = .ok (.ireturn, 1) := by decide +kernel
theorem dX6_day_13 : decode cX6_day 13 = .ok (.iload_n 2, 1) := by decide +kernel
theorem dX6_day_14 : decode cX6_day 14 = .ok (.i2l, 1) := by decide +kernel
theorem dX6_day_15 : decode cX6_day 15 = .ok (.lconst 0, 1) := by decide +kernel
theorem dX6_day_16 : decode cX6_day 16 = .ok (.ldc2_w 117, 3) := by decide +kernel
theorem dX6_day_19 : decode cX6_day 19 = .ok (.invokestatic 78, 3) := by decide +kernel
theorem dX6_day_22 : decode cX6_day 22 = .ok (.ifCond .eq 44, 3) := by decide +kernel
theorem dX6_day_25 : decode cX6_day 25 = .ok (.iload 4, 2) := by decide +kernel
theorem dX6_day_27 : decode cX6_day 27 = .ok (.i2l, 1) := by decide +kernel
theorem dX6_day_28 : decode cX6_day 28 = .ok (.lconst 0, 1) := by decide +kernel
theorem dX6_day_29 : decode cX6_day 29 = .ok (.ldc2_w 200, 3) := by decide +kernel
theorem dX6_day_32 : decode cX6_day 32 = .ok (.invokestatic 78, 3) := by decide +kernel
theorem dX6_day_35 : decode cX6_day 35 = .ok (.ifCond .eq 31, 3) := by decide +kernel
theorem dX6_day_38 : decode cX6_day 38 = .ok (.iload 5, 2) := by decide +kernel
theorem dX6_day_40 : decode cX6_day 40 = .ok (.i2l, 1) := by decide +kernel
theorem dX6_day_41 : decode cX6_day 41 = .ok (.lconst 0, 1) := by decide +kernel
theorem dX6_day_42 : decode cX6_day 42 = .ok (.ldc2_w 137, 3) := by decide +kernel
theorem dX6_day_45 : decode cX6_day 45 = .ok (.invokestatic 78, 3) := by decide +kernel
theorem dX6_day_48 : decode cX6_day 48 = .ok (.ifCond .ne 25, 3) := by decide +kernel
theorem dX6_day_51 : decode cX6_day 51 = .ok (.iload 5, 2) := by decide +kernel
theorem dX6_day_53 : decode cX6_day 53 = .ok (.i2l, 1) := by decide +kernel
theorem dX6_day_54 : decode cX6_day 54 = .ok (.ldc2_w 196, 3) := by decide +kernel
theorem dX6_day_57 : decode cX6_day 57 = .ok (.ldc2_w 233, 3) := by decide +kernel
theorem dX6_day_60 : decode cX6_day 60 = .ok (.invokestatic 78, 3) := by decide +kernel
theorem dX6_day_63 : decode cX6_day 63 = .ok (.ifCond .ne 10, 3) := by decide +kernel
theorem dX6_day_66 : decode cX6_day 66 = .ok (.aload_n 0, 1) := by decide +kernel
theorem dX6_day_67 : decode cX6_day 67 = .ok (.bipush (-2), 2) := by decide +kernel
theorem dX6_day_69 : decode cX6_day 69 = .ok (.invokevirtual 114, 3) := by decide +kernel
theorem dX6_day_72 : decode cX6_day 72 = .ok (.ireturn, 1) := by decide +kernel
theorem dX6_day_73 : decode cX6_day 73 = .ok (.aload_n 0, 1) := by decide +kernel
theorem dX6_day_74 : decode cX6_day 74 = .ok (.getfield 75, 3) := by decide +kernel
theorem dX6_day_77 : decode cX6_day 77 = .ok (.ifCond .ne 10, 3) := by decide +kernel
theorem dX6_day_80 : decode cX6_day 80 = .ok (.aload_n 0, 1) := by decide +kernel
theorem dX6_day_81 : decode cX6_day 81 = .ok (.bipush (-3), 2) := by decide +kernel
theorem dX6_day_83 : decode cX6_day 83 = .ok (.invokevirtual 114, 3) := by decide +kernel
theorem dX6_day_86 : decode cX6_day 86 = .ok (.ireturn, 1) := by decide +kernel
theorem dX6_day_87 : decode cX6_day 87 = .ok (.aload_n 0, 1) := by decide +kernel
theorem dX6_day_88 : decode cX6_day 88 = .ok (.iload_n 1, 1) := by decide +kernel
theorem dX6_day_89 : decode cX6_day 89 = .ok (.iload_n 2, 1) := by decide +kernel
theorem dX6_day_90 : decode cX6_day 90 = .ok (.iload_n 3, 1) := by decide +kernel
theorem dX6_day_91 : decode cX6_day 91 = .ok (.ldc2_w 235, 3) := by decide +kernel
theorem dX6_day_94 : decode cX6_day 94 = .ok (.iload 4, 2) := by decide +kernel
theorem dX6_day_96 : decode cX6_day 96 = .ok (.i2l, 1) := by decide +kernel
theorem dX6_day_97 : decode cX6_day 97 = .ok (.lmul, 1) := by decide +kernel
theorem dX6_day_98 : decode cX6_day 98 = .ok (.invokevirtual 119, 3) := by decide +kernel
theorem dX6_day_101 : decode cX6_day 101 = .ok (.istore 6, 2) := by decide +kernel
theorem dX6_day_103 : decode cX6_day 103 = .ok (.iload 6, 2) := by decide +kernel
theorem dX6_day_105 : decode cX6_day 105 = .ok (.ifCond .ge 6, 3) := by decide +kernel
theorem dX6_day_108 : decode cX6_day 108 = .ok (.iload 6, 2) := by decide +kernel
theorem dX6_day_110 : decode cX6_day 110 = .ok (.ireturn, 1) := by decide +kernel
theorem dX6_day_111 : decode cX6_day 111 = .ok (.bipush 60, 2) := by decide +kernel
theorem dX6_day_113 : decode cX6_day 113 = .ok (.iload_n 1, 1) := by decide +kernel
theorem dX6_day_114 : decode cX6_day 114 = .ok (.imul, 1) := by decide +kernel
theorem dX6_day_115 : decode cX6_day 115 = .ok (.iload_n 3, 1) := by decide +kernel
theorem dX6_day_116 : decode cX6_day 116 = .ok (.iadd, 1) := by decide +kernel
theorem dX6_day_117 : decode cX6_day 117 = .ok (.istore 7, 2) := by decide +kernel
theorem dX6_day_119 : decode cX6_day 119 = .ok (.iconst 0, 1) := by decide +kernel
theorem dX6_day_120 : decode cX6_day 120 = .ok (.istore 8, 2) := by decide +kernel
theorem dX6_day_122 : decode cX6_day 122 = .ok (.iload 8, 2) := by decide +kernel
theorem dX6_day_124 : decode cX6_day 124 = .ok (.iload 4, 2) := by decide +kernel
theorem dX6_day_126 : decode cX6_day 126 = .ok (.if_icmp .ge 61, 3) := by decide +kernel
theorem dX6_day_129 : decode cX6_day 129 = .ok (.aload_n 0, 1) := by decide +kernel
theorem dX6_day_130 : decode cX6_day 130 = .ok (.getfield 59, 3) := by decide +kernel
theorem dX6_day_133 : decode cX6_day 133 = .ok (.iload 7, 2) := by decide +kernel
theorem dX6_day_135 : decode cX6_day 135 = .ok (.iconst 3, 1) := by decide +kernel
theorem dX6_day_136 : decode cX6_day 136 = .ok (.iload 8, 2) := by decide +kernel
theorem dX6_day_138 : decode cX6_day 138 = .ok (.imul, 1) := by decide +kernel
theorem dX6_day_139 : decode cX6_day 139 = .ok (.iadd, 1) := by decide +kernel
theorem dX6_day_140 : decode cX6_day 140 = .ok (.iconst 1, 1) := by decide +kernel
theorem dX6_day_141 : decode cX6_day 141 = .ok (.iadd, 1) := by decide +kernel
theorem dX6_day_142 : decode cX6_day 142 = .ok (.iaload, 1) := by decide +kernel
theorem dX6_day_143 : decode cX6_day 143 = .ok (.i2l, 1) := by decide +kernel
theorem dX6_day_144 : decode cX6_day 144 = .ok (.lconst 0, 1) := by decide +kernel
theorem dX6_day_145 : decode cX6_day 145 = .ok (.ldc2_w 117, 3) := by decide +kernel
theorem dX6_day_148 : decode cX6_day 148 = .ok (.invokestatic 78, 3) := by decide +kernel
theorem dX6_day_151 : decode cX6_day 151 = .ok (.ifCond .eq 23, 3) := by decide +kernel
theorem dX6_day_154 : decode cX6_day 154 = .ok (.aload_n 0, 1) := by decide +kernel
theorem dX6_day_155 : decode cX6_day 155 = .ok (.getfield 59, 3) := by decide +kernel
theorem dX6_day_158 : decode cX6_day 158 = .ok (.iload 7, 2) := by decide +kernel
theorem dX6_day_160 : decode cX6_day 160 = .ok (.iconst 3, 1) := by decide +kernel
theorem dX6_day_161 : decode cX6_day 161 = .ok (.iload 8, 2) := by decide +kernel
theorem dX6_day_163 : decode cX6_day 163 = .ok (.imul, 1) := by decide +kernel
theorem dX6_day_164 : decode cX6_day 164 = .ok (.iadd, 1) := by decide +kernel
theorem dX6_day_165 : decode cX6_day 165 = .ok (.iconst 2, 1) := by decide +kernel
theorem dX6_day_166 : decode cX6_day 166 = .ok (.iadd, 1) := by decide +kernel
theorem dX6_day_167 : decode cX6_day 167 = .ok (.iaload, 1) := by decide +kernel
theorem dX6_day_168 : decode cX6_day 168 = .ok (.invokestatic 210, 3) := by decide +kernel
theorem dX6_day_171 : decode cX6_day 171 = .ok (.ifCond .ne 10, 3) := by decide +kernel
theorem dX6_day_174 : decode cX6_day 174 = .ok (.aload_n 0, 1) := by decide +kernel
theorem dX6_day_175 : decode cX6_day 175 = .ok (.bipush (-2), 2) := by decide +kernel
theorem dX6_day_177 : decode cX6_day 177 = .ok (.invokevirtual 114, 3) := by decide +kernel
theorem dX6_day_180 : decode cX6_day 180 = .ok (.ireturn, 1) := by decide +kernel
theorem dX6_day_181 : decode cX6_day 181 = .ok (.iinc 8 1, 3) := by decide +kernel
theorem dX6_day_184 : decode cX6_day 184 = .ok (.goto (-62), 3) := by decide +kernel
theorem dX6_day_187 : decode cX6_day 187 = .ok (.iconst 0, 1) := by decide +kernel
theorem dX6_day_188 : decode cX6_day 188 = .ok (.istore 8, 2) := by decide +kernel
theorem dX6_day_190 : decode cX6_day 190 = .ok (.iload 8, 2) := by decide +kernel
theorem dX6_day_192 : decode cX6_day 192 = .ok (.iconst 3, 1) := by decide +kernel
theorem dX6_day_193 : decode cX6_day 193 = .ok (.aload_n 0, 1) := by decide +kernel
theorem dX6_day_194 : decode cX6_day 194 = .ok (.getfield 75, 3) := by decide +kernel
theorem dX6_day_197 : decode cX6_day 197 = .ok (.imul, 1) := by decide +kernel
theorem dX6_day_198 : decode cX6_day 198 = .ok (.if_icmp .ge 23, 3) := by decide +kernel
theorem dX6_day_201 : decode cX6_day 201 = .ok (.aload_n 0, 1) := by decide +kernel
theorem dX6_day_202 : decode cX6_day 202 = .ok (.getfield 35, 3) := by decide +kernel
theorem dX6_day_205 : decode cX6_day 205 = .ok (.iload 8, 2) := by decide +kernel
theorem dX6_day_207 : decode cX6_day 207 = .ok (.aload_n 0, 1) := by decide +kernel
theorem dX6_day_208 : decode cX6_day 208 = .ok (.getfield 13, 3) := by decide +kernel
theorem dX6_day_211 : decode cX6_day 211 = .ok (.iload 8, 2) := by decide +kernel
theorem dX6_day_213 : decode cX6_day 213 = .ok (.iaload, 1) := by decide +kernel
theorem dX6_day_214 : decode cX6_day 214 = .ok (.iastore, 1) := by decide +kernel
theorem dX6_day_215 : decode cX6_day 215 = .ok (.iinc 8 1, 3) := by decide +kernel
theorem dX6_day_218 : decode cX6_day 218 = .ok (.goto (-28), 3) := by decide +kernel
theorem dX6_day_221 : decode cX6_day 221 = .ok (.aload_n 0, 1) := by decide +kernel
theorem dX6_day_222 : decode cX6_day 222 = .ok (.iload 7, 2) := by decide +kernel
theorem dX6_day_224 : decode cX6_day 224 = .ok (.iload 4, 2) := by decide +kernel
theorem dX6_day_226 : decode cX6_day 226 = .ok (.iload 5, 2) := by decide +kernel
theorem dX6_day_228 : decode cX6_day 228 = .ok (.invokevirtual 237, 3) := by decide +kernel
theorem dX6_day_231 : decode cX6_day 231 = .ok (.istore 8, 2) := by decide +kernel
theorem dX6_day_233 : decode cX6_day 233 = .ok (.iconst 0, 1) := by decide +kernel
theorem dX6_day_234 : decode cX6_day 234 = .ok (.istore 9, 2) := by decide +kernel
theorem dX6_day_236 : decode cX6_day 236 = .ok (.iload 9, 2) := by decide +kernel
theorem dX6_day_238 : decode cX6_day 238 = .ok (.iconst 3, 1) := by decide +kernel
theorem dX6_day_239 : decode cX6_day 239 = .ok (.aload_n 0, 1) := by decide +kernel
theorem dX6_day_240 : decode cX6_day 240 = .ok (.getfield 75, 3) := by decide +kernel
theorem dX6_day_243 : decode cX6_day 243 = .ok (.imul, 1) := by decide +kernel
theorem dX6_day_244 : decode cX6_day 244 = .ok (.if_icmp .ge 23, 3) := by decide +kernel
theorem dX6_day_247 : decode cX6_day 247 = .ok (.aload_n 0, 1) := by decide +kernel
theorem dX6_day_248 : decode cX6_day 248 = .ok (.getfield 13, 3) := by decide +kernel
theorem dX6_day_251 : decode cX6_day 251 = .ok (.iload 9, 2) := by decide +kernel
theorem dX6_day_253 : decode cX6_day 253 = .ok (.aload_n 0, 1) := by decide +kernel
theorem dX6_day_254 : decode cX6_day 254 = .ok (.getfield 35, 3) := by decide +kernel
theorem dX6_day_257 : decode cX6_day 257 = .ok (.iload 9, 2) := by decide +kernel
theorem dX6_day_259 : decode cX6_day 259 = .ok (.iaload, 1) := by decide +kernel
theorem dX6_day_260 : decode cX6_day 260 = .ok (.iastore, 1) := by decide +kernel
theorem dX6_day_261 : decode cX6_day 261 = .ok (.iinc 9 1, 3) := by decide +kernel
theorem dX6_day_264 : decode cX6_day 264 = .ok (.goto (-28), 3) := by decide +kernel
theorem dX6_day_267 : decode cX6_day 267 = .ok (.aload_n 0, 1) := by decide +kernel
theorem dX6_day_268 : decode cX6_day 268 = .ok (.iload 8, 2) := by decide +kernel
theorem dX6_day_270 : decode cX6_day 270 = .ok (.invokevirtual 114, 3) := by decide +kernel
theorem dX6_day_273 : decode cX6_day 273 = .ok (.ireturn, 1) := by decide +kernel
set_option maxRecDepth 20000 in
theorem ggX6_noRoot_X6_noPolynomial : GoodIn wsX6_noRoot wsX6_noPolynomial := goodIn_r _ [5, 6, 7, 8, 4, 9, 26, 27, 28, 29, 30, 31, 32, 33, 34, 35, 36, 37, 38, 39, 40, 41, 42, 43, 44, 45, 46, 47, 48, 49, 50, 51, 52, 53, 54, 55] (by decide +kernel) (by decide +kernel)
set_option maxRecDepth 20000 in
theorem gX6_noRoot_X6_noPolynomial : GoodIn wsX6_noRoot (wsV RX6 193 RX6 yX6_noPolynomial wsX6_noPolynomial) := goodIn_app (goodIn_of _ (by decide +kernel)) ggX6_noRoot_X6_noPolynomial
set_option maxRecDepth 20000 in
theorem ggX6_noRoot_X6_rootsOf : GoodIn wsX6_noRoot wsX6_rootsOf := goodIn_r _ [13, 14, 15, 16, 4, 17, 18, 19, 20, 21, 22, 23, 24, 25, 26, 27, 28, 29, 30, 31, 32, 33, 34, 35, 36, 37, 38, 39, 40, 41, 42, 43, 44, 45, 46, 47, 48, 49, 50, 51, 52, 53, 54, 55] (by decide +kernel) (by decide +kernel)
set_option maxRecDepth 20000 in
theorem gX6_noRoot_X6_rootsOf : GoodIn wsX6_noRoot (wsV RX6 170 RX6 yX6_rootsOf wsX6_rootsOf) := goodIn_app (goodIn_of _ (by decide +kernel)) ggX6_noRoot_X6_rootsOf
set_option maxRecDepth 20000 in
theorem ggX6_noRoot_X6_in : GoodIn wsX6_noRoot wsX6_in := goodIn_r _ [9] (by decide +kernel) (by decide +kernel)
set_option maxRecDepth 20000 in
theorem gX6_noRoot_X6_in : GoodIn wsX6_noRoot (va_wsS RX6 78 yX6_in wsX6_in) := goodIn_app (goodIn_of _ (by decide +kernel)) ggX6_noRoot_X6_in
theorem dX6_noRoot_0 : decode cX6_noRoot 0 = .ok (.aload_n 0, 1) := by decide +kernel
