theorem dX1_holdOn_25 : decode cX1_holdOn 25 = .ok (.getfield 9, 3) := by decide +kernel
theorem dX1_holdOn_28 : decode cX1_holdOn 28 = .ok (.iload_n 2, 1) := by decide +kernel
theorem dX1_holdOn_29 : decode cX1_holdOn 29 = .ok (.iaload, 1) := by decide +kernel
theorem dX1_holdOn_30 : decode cX1_holdOn 30 = .ok (.aload_n 0, 1) := by decide +kernel
theorem dX1_holdOn_31 : decode cX1_holdOn 31 = .ok (.getfield 15, 3) := by decide +kernel
theorem dX1_holdOn_34 : decode cX1_holdOn 34 = .ok (.iload_n 2, 1) := by decide +kernel
theorem dX1_holdOn_35 : decode cX1_holdOn 35 = .ok (.iaload, 1) := by decide +kernel
theorem dX1_holdOn_36 : decode cX1_holdOn 36 = .ok (.invokevirtual 31, 3) := by decide +kernel
theorem dX1_holdOn_39 : decode cX1_holdOn 39 = .ok (.iconst 1, 1) := by decide +kernel
theorem dX1_holdOn_40 : decode cX1_holdOn 40 = .ok (.iadd, 1) := by decide +kernel
theorem dX1_holdOn_41 : decode cX1_holdOn 41 = .ok (.aload_n 0, 1) := by decide +kernel
theorem dX1_holdOn_42 : decode cX1_holdOn 42 = .ok (.getfield 18, 3) := by decide +kernel
theorem dX1_holdOn_45 : decode cX1_holdOn 45 = .ok (.iload_n 2, 1) := by decide +kernel
theorem dX1_holdOn_46 : decode cX1_holdOn 46 = .ok (.iaload, 1) := by decide +kernel
theorem dX1_holdOn_47 : decode cX1_holdOn 47 = .ok (.if_icmp .eq 5, 3) := by decide +kernel
theorem dX1_holdOn_50 : decode cX1_holdOn 50 = .ok (.iconst 0, 1) := by decide +kernel
theorem dX1_holdOn_51 : decode cX1_holdOn 51 = .ok (.ireturn, 1) := by decide +kernel
theorem dX1_holdOn_52 : decode cX1_holdOn 52 = .ok (.iinc 2 1, 3) := by decide +kernel
theorem dX1_holdOn_55 : decode cX1_holdOn 55 = .ok (.goto (-53), 3) := by decide +kernel
theorem dX1_holdOn_58 : decode cX1_holdOn 58 = .ok (.iconst 1, 1) := by decide +kernel
theorem dX1_holdOn_59 : decode cX1_holdOn 59 = .ok (.ireturn, 1) := by decide +kernel
theorem dX2_init_0 : decode cX2_init 0 = .ok (.aload_n 0, 1) := by decide +kernel
theorem dX2_init_1 : decode cX2_init 1 = .ok (.invokespecial 3, 3) := by decide +kernel
theorem dX2_init_4 : decode cX2_init 4 = .ok (.aload_n 0, 1) := by decide +kernel
theorem dX2_init_5 : decode cX2_init 5 = .ok (.iload_n 1, 1) := by decide +kernel
theorem dX2_init_6 : decode cX2_init 6 = .ok (.putfield 9, 3) := by decide +kernel
theorem dX2_init_9 : decode cX2_init 9 = .ok (.aload_n 0, 1) := by decide +kernel
theorem dX2_init_10 : decode cX2_init 10 = .ok (.iload_n 2, 1) := by decide +kernel
theorem dX2_init_11 : decode cX2_init 11 = .ok (.newarray .int, 2) := by decide +kernel
theorem dX2_init_13 : decode cX2_init 13 = .ok (.putfield 15, 3) := by decide +kernel
theorem dX2_init_16 : decode cX2_init 16 = .ok (.return_, 1) := by decide +kernel
theorem dX2_cut_0 : decode cX2_cut 0 = .ok (.aload_n 0, 1) := by decide +kernel
theorem dX2_cut_1 : decode cX2_cut 1 = .ok (.getfield 9, 3) := by decide +kernel
theorem dX2_cut_4 : decode cX2_cut 4 = .ok (.ifCond .ne 6, 3) := by decide +kernel
theorem dX2_cut_7 : decode cX2_cut 7 = .ok (.iload_n 1, 1) := by decide +kernel
theorem dX2_cut_8 : decode cX2_cut 8 = .ok (.i2b, 1) := by decide +kernel
theorem dX2_cut_9 : decode cX2_cut 9 = .ok (.ireturn, 1) := by decide +kernel
theorem dX2_cut_10 : decode cX2_cut 10 = .ok (.aload_n 0, 1) := by decide +kernel
theorem dX2_cut_11 : decode cX2_cut 11 = .ok (.getfield 9, 3) := by decide +kernel
theorem dX2_cut_14 : decode cX2_cut 14 = .ok (.iconst 1, 1) := by decide +kernel
theorem dX2_cut_15 : decode cX2_cut 15 = .ok (.if_icmp .ne 8, 3) := by decide +kernel
theorem dX2_cut_18 : decode cX2_cut 18 = .ok (.iload_n 1, 1) := by decide +kernel
theorem dX2_cut_19 : decode cX2_cut 19 = .ok (.i2s, 1) := by decide +kernel
theorem dX2_cut_20 : decode cX2_cut 20 = .ok (.goto 4, 3) := by decide +kernel
theorem dX2_cut_23 : decode cX2_cut 23 = .ok (.iload_n 1, 1) := by decide +kernel
theorem dX2_cut_24 : decode cX2_cut 24 = .ok (.ireturn, 1) := by decide +kernel
theorem dX2_hasCells_0 : decode cX2_hasCells 0 = .ok (.iload_n 1, 1) := by decide +kernel
theorem dX2_hasCells_1 : decode cX2_hasCells 1 = .ok (.ifCond .lt 31, 3) := by decide +kernel
theorem dX2_hasCells_4 : decode cX2_hasCells 4 = .ok (.iload_n 1, 1) := by decide +kernel
theorem dX2_hasCells_5 : decode cX2_hasCells 5 = .ok (.aload_n 0, 1) := by decide +kernel
theorem dX2_hasCells_6 : decode cX2_hasCells 6 = .ok (.getfield 15, 3) := by decide +kernel
theorem dX2_hasCells_9 : decode cX2_hasCells 9 = .ok (.arraylength, 1) := by decide +kernel
theorem dX2_hasCells_10 : decode cX2_hasCells 10 = .ok (.if_icmp .gt 22, 3) := by decide +kernel
theorem dX2_hasCells_13 : decode cX2_hasCells 13 = .ok (.iload_n 2, 1) := by decide +kernel
theorem dX2_hasCells_14 : decode cX2_hasCells 14 = .ok (.ifCond .lt 18, 3) := by decide +kernel
theorem dX2_hasCells_17 : decode cX2_hasCells 17 = .ok (.iload_n 2, 1) := by decide +kernel
theorem dX2_hasCells_18 : decode cX2_hasCells 18 = .ok (.aload_n 0, 1) := by decide +kernel
theorem dX2_hasCells_19 : decode cX2_hasCells 19 = .ok (.getfield 15, 3) := by decide +kernel
theorem dX2_hasCells_22 : decode cX2_hasCells 22 = .ok (.arraylength, 1) := by decide +kernel
theorem dX2_hasCells_23 : decode cX2_hasCells 23 = .ok (.iload_n 1, 1) := by decide +kernel
theorem dX2_hasCells_24 : decode cX2_hasCells 24 = .ok (.isub, 1) := by decide +kernel
theorem dX2_hasCells_25 : decode cX2_hasCells 25 = .ok (.if_icmp .gt 7, 3) := by decide +kernel
theorem dX2_hasCells_28 : decode cX2_hasCells 28 = .ok (.iconst 1, 1) := by decide +kernel
theorem dX2_hasCells_29 : decode cX2_hasCells 29 = .ok (.goto 4, 3) := by decide +kernel
theorem dX2_hasCells_32 : decode cX2_hasCells 32 = .ok (.iconst 0, 1) := by decide +kernel
theorem dX2_hasCells_33 : decode cX2_hasCells 33 = .ok (.ireturn, 1) := by decide +kernel
set_option maxRecDepth 20000 in
theorem ggX3_init_X4_init : GoodIn wsX3_init wsX4_init := goodIn_r _ [9, 10, 2, 3, 11, 12, 13, 14, 15, 16] (by decide +kernel) (by decide +kernel)
set_option maxRecDepth 20000 in
theorem gX3_init_X4_init_n11 : GoodIn wsX3_init (wsX4_init) := ggX3_init_X4_init
theorem dX3_init_0 : decode cX3_init 0 = .ok (.aload_n 0, 1) := by decide +kernel
theorem dX3_init_1 : decode cX3_init 1 = .ok (.invokespecial 3, 3) := by decide +kernel
theorem dX3_init_4 : decode cX3_init 4 = .ok (.aload_n 0, 1) := by decide +kernel
theorem dX3_init_5 : decode cX3_init 5 = .ok (.new 9, 3) := by decide +kernel
theorem dX3_init_8 : decode cX3_init 8 = .ok (.dup, 1) := by decide +kernel
theorem dX3_init_9 : decode cX3_init 9 = .ok (.invokespecial 11, 3) := by decide +kernel
theorem dX3_init_12 : decode cX3_init 12 = .ok (.putfield 12, 3) := by decide +kernel
theorem dX3_init_15 : decode cX3_init 15 = .ok (.return_, 1) := by decide +kernel
set_option maxRecDepth 20000 in
theorem ggX3_firstFault_X3_goesOnWith : GoodIn wsX3_firstFault wsX3_goesOnWith := goodIn_r _ [8, 3, 1, 2, 9, 10, 11, 12, 7, 13, 14, 15, 16, 17, 18, 19, 20, 21, 22, 23, 24, 25, 26, 27] (by decide +kernel) (by decide +kernel)
set_option maxRecDepth 20000 in
theorem gX3_firstFault_X3_goesOnWith : GoodIn wsX3_firstFault (wsV RX3 25 RX3 yX3_goesOnWith wsX3_goesOnWith) := goodIn_app (goodIn_of _ (by decide +kernel)) ggX3_firstFault_X3_goesOnWith
theorem dX3_firstFault_0 : decode cX3_firstFault 0 = .ok (.aload_n 0, 1) := by decide +kernel
theorem dX3_firstFault_1 : decode cX3_firstFault 1 = .ok (.getfield 12, 3) := by decide +kernel
theorem dX3_firstFault_4 : decode cX3_firstFault 4 = .ok (.iconst 0, 1) := by decide +kernel
theorem dX3_firstFault_5 : decode cX3_firstFault 5 = .ok (.putfield 18, 3) := by decide +kernel
theorem dX3_firstFault_8 : decode cX3_firstFault 8 = .ok (.aload_n 0, 1) := by decide +kernel
theorem dX3_firstFault_9 : decode cX3_firstFault 9 = .ok (.iconst 0, 1) := by decide +kernel
theorem dX3_firstFault_10 : decode cX3_firstFault 10 = .ok (.putfield 22, 3) := by decide +kernel
theorem dX3_firstFault_13 : decode cX3_firstFault 13 = .ok (.iconst 0, 1) := by decide +kernel
theorem dX3_firstFault_14 : decode cX3_firstFault 14 = .ok (.istore 4, 2) := by decide +kernel
theorem dX3_firstFault_16 : decode cX3_firstFault 16 = .ok (.iload 4, 2) := by decide +kernel
theorem dX3_firstFault_18 : decode cX3_firstFault 18 = .ok (.iload_n 3, 1) := by decide +kernel
theorem dX3_firstFault_19 : decode cX3_firstFault 19 = .ok (.if_icmp .ge 25, 3) := by decide +kernel
theorem dX3_firstFault_22 : decode cX3_firstFault 22 = .ok (.aload_n 0, 1) := by decide +kernel
theorem dX3_firstFault_23 : decode cX3_firstFault 23 = .ok (.aload_n 1, 1) := by decide +kernel
theorem dX3_firstFault_24 : decode cX3_firstFault 24 = .ok (.iload_n 2, 1) := by decide +kernel
theorem dX3_firstFault_25 : decode cX3_firstFault 25 = .ok (.iload 4, 2) := by decide +kernel
theorem dX3_firstFault_27 : decode cX3_firstFault 27 = .ok (.iadd, 1) := by decide +kernel
theorem dX3_firstFault_28 : decode cX3_firstFault 28 = .ok (.iaload, 1) := by decide +kernel
theorem dX3_firstFault_29 : decode cX3_firstFault 29 = .ok (.invokevirtual 25, 3) := by decide +kernel
theorem dX3_firstFault_32 : decode cX3_firstFault 32 = .ok (.ifCond .ne 6, 3) := by decide +kernel
theorem dX3_firstFault_35 : decode cX3_firstFault 35 = .ok (.iload 4, 2) := by decide +kernel
theorem dX3_firstFault_37 : decode cX3_firstFault 37 = .ok (.ireturn, 1) := by decide +kernel
theorem dX3_firstFault_38 : decode cX3_firstFault 38 = .ok (.iinc 4 1, 3) := by decide +kernel
theorem dX3_firstFault_41 : decode cX3_firstFault 41 = .ok (.goto (-25), 3) := by decide +kernel
theorem dX3_firstFault_44 : decode cX3_firstFault 44 = .ok (.aload_n 0, 1) := by decide +kernel
theorem dX3_firstFault_45 : decode cX3_firstFault 45 = .ok (.getfield 22, 3) := by decide +kernel
theorem dX3_firstFault_48 : decode cX3_firstFault 48 = .ok (.iconst 1, 1) := by decide +kernel
theorem dX3_firstFault_49 : decode cX3_firstFault 49 = .ok (.if_icmp .ne 18, 3) := by decide +kernel
theorem dX3_firstFault_52 : decode cX3_firstFault 52 = .ok (.aload_n 0, 1) := by decide +kernel
theorem dX3_firstFault_53 : decode cX3_firstFault 53 = .ok (.getfield 12, 3) := by decide +kernel
theorem dX3_firstFault_56 : decode cX3_firstFault 56 = .ok (.getfield 18, 3) := by decide +kernel
theorem dX3_firstFault_59 : decode cX3_firstFault 59 = .ok (.ifCond .le 8, 3) := by decide +kernel
theorem dX3_firstFault_62 : decode cX3_firstFault 62 = .ok (.bipush (-9), 2) := by decide +kernel
theorem dX3_firstFault_64 : decode cX3_firstFault 64 = .ok (.goto 4, 3) := by decide +kernel
theorem dX3_firstFault_67 : decode cX3_firstFault 67 = .ok (.iload_n 3, 1) := by decide +kernel
theorem dX3_firstFault_68 : decode cX3_firstFault 68 = .ok (.ireturn, 1) := by decide +kernel
set_option maxRecDepth 20000 in
theorem ggX3_goesOnWith_X3_takesLetter : GoodIn wsX3_goesOnWith wsX3_takesLetter := goodIn_r _ [9, 2, 10, 3, 11, 1, 17, 18, 19, 20, 21, 22, 23] (by decide +kernel) (by decide +kernel)
set_option maxRecDepth 20000 in
theorem gX3_goesOnWith_X3_takesLetter : GoodIn wsX3_goesOnWith (wsV RX3 29 RX3 yX3_takesLetter wsX3_takesLetter) := goodIn_app (goodIn_of _ (by decide +kernel)) ggX3_goesOnWith_X3_takesLetter
set_option maxRecDepth 20000 in
theorem ggX3_goesOnWith_X3_takesDigit : GoodIn wsX3_goesOnWith wsX3_takesDigit := goodIn_r _ [15, 2, 16, 3, 11, 4, 1, 17, 18, 19, 20, 21, 22, 23] (by decide +kernel) (by decide +kernel)
set_option maxRecDepth 20000 in
theorem gX3_goesOnWith_X3_takesDigit : GoodIn wsX3_goesOnWith (wsV RX3 36 RX3 yX3_takesDigit wsX3_takesDigit) := goodIn_app (goodIn_of _ (by decide +kernel)) ggX3_goesOnWith_X3_takesDigit
theorem dX3_goesOnWith_0 : decode cX3_goesOnWith 0 = .ok (.aload_n 0, 1) := by decide +kernel
theorem dX3_goesOnWith_1 : decode cX3_goesOnWith 1 = .ok (.getfield 22, 3) := by decide +kernel
theorem dX3_goesOnWith_4 : decode cX3_goesOnWith 4 = .ok (.tableswitch 118 0 3 #[32, 49, 77, 83], 32) := by decide +kernel
theorem dX3_goesOnWith_36 : decode cX3_goesOnWith 36 = .ok (.aload_n 0, 1) := by decide +kernel
theorem dX3_goesOnWith_37 : decode cX3_goesOnWith 37 = .ok (.iconst 1, 1) := by decide +kernel
theorem dX3_goesOnWith_38 : decode cX3_goesOnWith 38 = .ok (.putfield 22, 3) := by decide +kernel
theorem dX3_goesOnWith_41 : decode cX3_goesOnWith 41 = .ok (.iload_n 1, 1) := by decide +kernel
theorem dX3_goesOnWith_42 : decode cX3_goesOnWith 42 = .ok (.bipush 112, 2) := by decide +kernel
theorem dX3_goesOnWith_44 : decode cX3_goesOnWith 44 = .ok (.if_icmp .ne 7, 3) := by decide +kernel
theorem dX3_goesOnWith_47 : decode cX3_goesOnWith 47 = .ok (.iconst 1, 1) := by decide +kernel
theorem dX3_goesOnWith_48 : decode cX3_goesOnWith 48 = .ok (.goto 4, 3) := by decide +kernel
theorem dX3_goesOnWith_51 : decode cX3_goesOnWith 51 = .ok (.iconst 0, 1) := by decide +kernel
theorem dX3_goesOnWith_52 : decode cX3_goesOnWith 52 = .ok (.ireturn, 1) := by decide +kernel
theorem dX3_goesOnWith_53 : decode cX3_goesOnWith 53 = .ok (.aload_n 0, 1) := by decide +kernel
theorem dX3_goesOnWith_54 : decode cX3_goesOnWith 54 = .ok (.iconst 2, 1) := by decide +kernel
theorem dX3_goesOnWith_55 : decode cX3_goesOnWith 55 = .ok (.putfield 22, 3) := by decide +kernel
theorem dX3_goesOnWith_58 : decode cX3_goesOnWith 58 = .ok (.iload_n 1, 1) := by decide +kernel
theorem dX3_goesOnWith_59 : decode cX3_goesOnWith 59 = .ok (.bipush 59, 2) := by decide +kernel
theorem dX3_goesOnWith_61 : decode cX3_goesOnWith 61 = .ok (.if_icmp .ne 18, 3) := by decide +kernel
theorem dX3_goesOnWith_64 : decode cX3_goesOnWith 64 = .ok (.aload_n 0, 1) := by decide +kernel
theorem dX3_goesOnWith_65 : decode cX3_goesOnWith 65 = .ok (.getfield 12, 3) := by decide +kernel
theorem dX3_goesOnWith_68 : decode cX3_goesOnWith 68 = .ok (.getfield 18, 3) := by decide +kernel
theorem dX3_goesOnWith_71 : decode cX3_goesOnWith 71 = .ok (.iconst 4, 1) := by decide +kernel
theorem dX3_goesOnWith_72 : decode cX3_goesOnWith 72 = .ok (.if_icmp .ge 7, 3) := by decide +kernel
theorem dX3_goesOnWith_75 : decode cX3_goesOnWith 75 = .ok (.iconst 1, 1) := by decide +kernel
theorem dX3_goesOnWith_76 : decode cX3_goesOnWith 76 = .ok (.goto 4, 3) := by decide +kernel
theorem dX3_goesOnWith_79 : decode cX3_goesOnWith 79 = .ok (.iconst 0, 1) := by decide +kernel
theorem dX3_goesOnWith_80 : decode cX3_goesOnWith 80 = .ok (.ireturn, 1) := by decide +kernel
theorem dX3_goesOnWith_81 : decode cX3_goesOnWith 81 = .ok (.aload_n 0, 1) := by decide +kernel
theorem dX3_goesOnWith_82 : decode cX3_goesOnWith 82 = .ok (.iload_n 1, 1) := by decide +kernel
theorem dX3_goesOnWith_83 : decode cX3_goesOnWith 83 = .ok (.invokevirtual 29, 3) := by decide +kernel
theorem dX3_goesOnWith_86 : decode cX3_goesOnWith 86 = .ok (.ireturn, 1) := by decide +kernel
theorem dX3_goesOnWith_87 : decode cX3_goesOnWith 87 = .ok (.aload_n 0, 1) := by decide +kernel
theorem dX3_goesOnWith_88 : decode cX3_goesOnWith 88 = .ok (.iload_n 1, 1) := by decide +kernel
theorem dX3_goesOnWith_89 : decode cX3_goesOnWith 89 = .ok (.bipush 45, 2) := by decide +kernel
theorem dX3_goesOnWith_91 : decode cX3_goesOnWith 91 = .ok (.if_icmp .ne 7, 3) := by decide +kernel
theorem dX3_goesOnWith_94 : decode cX3_goesOnWith 94 = .ok (.iconst 1, 1) := by decide +kernel
theorem dX3_goesOnWith_95 : decode cX3_goesOnWith 95 = .ok (.goto 4, 3) := by decide +kernel
theorem dX3_goesOnWith_98 : decode cX3_goesOnWith 98 = .ok (.iconst 0, 1) := by decide +kernel
theorem dX3_goesOnWith_99 : decode cX3_goesOnWith 99 = .ok (.putfield 32, 3) := by decide +kernel
theorem dX3_goesOnWith_102 : decode cX3_goesOnWith 102 = .ok (.aload_n 0, 1) := by decide +kernel
theorem dX3_goesOnWith_103 : decode cX3_goesOnWith 103 = .ok (.getfield 32, 3) := by decide +kernel
theorem dX3_goesOnWith_106 : decode cX3_goesOnWith 106 = .ok (.ifCond .eq 10, 3) := by decide +kernel
theorem dX3_goesOnWith_109 : decode cX3_goesOnWith 109 = .ok (.aload_n 0, 1) := by decide +kernel
theorem dX3_goesOnWith_110 : decode cX3_goesOnWith 110 = .ok (.iconst 4, 1) := by decide +kernel
theorem dX3_goesOnWith_111 : decode cX3_goesOnWith 111 = .ok (.putfield 22, 3) := by decide +kernel
theorem dX3_goesOnWith_114 : decode cX3_goesOnWith 114 = .ok (.iconst 1, 1) := by decide +kernel
theorem dX3_goesOnWith_115 : decode cX3_goesOnWith 115 = .ok (.ireturn, 1) := by decide +kernel
theorem dX3_goesOnWith_116 : decode cX3_goesOnWith 116 = .ok (.aload_n 0, 1) := by decide +kernel
theorem dX3_goesOnWith_117 : decode cX3_goesOnWith 117 = .ok (.iload_n 1, 1) := by decide +kernel
theorem dX3_goesOnWith_118 : decode cX3_goesOnWith 118 = .ok (.invokevirtual 36, 3) := by decide +kernel
theorem dX3_goesOnWith_121 : decode cX3_goesOnWith 121 = .ok (.ireturn, 1) := by decide +kernel
theorem dX3_goesOnWith_122 : decode cX3_goesOnWith 122 = .ok (.aload_n 0, 1) := by decide +kernel
theorem dX3_goesOnWith_123 : decode cX3_goesOnWith 123 = .ok (.iload_n 1, 1) := by decide +kernel
theorem dX3_goesOnWith_124 : decode cX3_goesOnWith 124 = .ok (.invokevirtual 36, 3) := by decide +kernel
theorem dX3_goesOnWith_127 : decode cX3_goesOnWith 127 = .ok (.ireturn, 1) := by decide +kernel
theorem dX3_takesLetter_0 : decode cX3_takesLetter 0 = .ok (.iload_n 1, 1) := by decide +kernel
theorem dX3_takesLetter_1 : decode cX3_takesLetter 1 = .ok (.bipush 112, 2) := by decide +kernel
theorem dX3_takesLetter_3 : decode cX3_takesLetter 3 = .ok (.if_icmp .ne 7, 3) := by decide +kernel
theorem dX3_takesLetter_6 : decode cX3_takesLetter 6 = .ok (.iconst 0, 1) := by decide +kernel
theorem dX3_takesLetter_7 : decode cX3_takesLetter 7 = .ok (.goto 25, 3) := by decide +kernel
theorem dX3_takesLetter_10 : decode cX3_takesLetter 10 = .ok (.iload_n 1, 1) := by decide +kernel
theorem dX3_takesLetter_11 : decode cX3_takesLetter 11 = .ok (.bipush 109, 2) := by decide +kernel
theorem dX3_takesLetter_13 : decode cX3_takesLetter 13 = .ok (.if_icmp .ne 7, 3) := by decide +kernel
theorem dX3_takesLetter_16 : decode cX3_takesLetter 16 = .ok (.iconst 1, 1) := by decide +kernel
theorem dX3_takesLetter_17 : decode cX3_takesLetter 17 = .ok (.goto 15, 3) := by decide +kernel
theorem dX3_takesLetter_20 : decode cX3_takesLetter 20 = .ok (.iload_n 1, 1) := by decide +kernel
theorem dX3_takesLetter_21 : decode cX3_takesLetter 21 = .ok (.bipush 115, 2) := by decide +kernel
theorem dX3_takesLetter_23 : decode cX3_takesLetter 23 = .ok (.if_icmp .ne 7, 3) := by decide +kernel
theorem dX3_takesLetter_26 : decode cX3_takesLetter 26 = .ok (.iconst 2, 1) := by decide +kernel
theorem dX3_takesLetter_27 : decode cX3_takesLetter 27 = .ok (.goto 5, 3) := by decide +kernel
theorem dX3_takesLetter_30 : decode cX3_takesLetter 30 = .ok (.bipush (-9), 2) := by decide +kernel
theorem dX3_takesLetter_32 : decode cX3_takesLetter 32 = .ok (.istore_n 2, 1) := by decide +kernel
theorem dX3_takesLetter_33 : decode cX3_takesLetter 33 = .ok (.iload_n 2, 1) := by decide +kernel
theorem dX3_takesLetter_34 : decode cX3_takesLetter 34 = .ok (.bipush (-9), 2) := by decide +kernel
theorem dX3_takesLetter_36 : decode cX3_takesLetter 36 = .ok (.if_icmp .ne 5, 3) := by decide +kernel
theorem dX3_takesLetter_39 : decode cX3_takesLetter 39 = .ok (.iconst 0, 1) := by decide +kernel
theorem dX3_takesLetter_40 : decode cX3_takesLetter 40 = .ok (.ireturn, 1) := by decide +kernel
theorem dX3_takesLetter_41 : decode cX3_takesLetter 41 = .ok (.aload_n 0, 1) := by decide +kernel
theorem dX3_takesLetter_42 : decode cX3_takesLetter 42 = .ok (.getfield 12, 3) := by decide +kernel
theorem dX3_takesLetter_45 : decode cX3_takesLetter 45 = .ok (.getfield 39, 3) := by decide +kernel
theorem dX3_takesLetter_48 : decode cX3_takesLetter 48 = .ok (.aload_n 0, 1) := by decide +kernel
theorem dX3_takesLetter_49 : decode cX3_takesLetter 49 = .ok (.getfield 12, 3) := by decide +kernel
theorem dX3_takesLetter_52 : decode cX3_takesLetter 52 = .ok (.getfield 18, 3) := by decide +kernel
theorem dX3_takesLetter_55 : decode cX3_takesLetter 55 = .ok (.iload_n 2, 1) := by decide +kernel
theorem dX3_takesLetter_56 : decode cX3_takesLetter 56 = .ok (.iastore, 1) := by decide +kernel
theorem dX3_takesLetter_57 : decode cX3_takesLetter 57 = .ok (.aload_n 0, 1) := by decide +kernel
theorem dX3_takesLetter_58 : decode cX3_takesLetter 58 = .ok (.iconst 0, 1) := by decide +kernel
theorem dX3_takesLetter_59 : decode cX3_takesLetter 59 = .ok (.putfield 43, 3) := by decide +kernel
theorem dX3_takesLetter_62 : decode cX3_takesLetter 62 = .ok (.aload_n 0, 1) := by decide +kernel
theorem dX3_takesLetter_63 : decode cX3_takesLetter 63 = .ok (.iconst 3, 1) := by decide +kernel
theorem dX3_takesLetter_64 : decode cX3_takesLetter 64 = .ok (.putfield 22, 3) := by decide +kernel
theorem dX3_takesLetter_67 : decode cX3_takesLetter 67 = .ok (.iconst 1, 1) := by decide +kernel
theorem dX3_takesLetter_68 : decode cX3_takesLetter 68 = .ok (.ireturn, 1) := by decide +kernel
theorem dX3_takesDigit_0 : decode cX3_takesDigit 0 = .ok (.iload_n 1, 1) := by decide +kernel
theorem dX3_takesDigit_1 : decode cX3_takesDigit 1 = .ok (.bipush 48, 2) := by decide +kernel
theorem dX3_takesDigit_3 : decode cX3_takesDigit 3 = .ok (.if_icmp .lt 9, 3) := by decide +kernel
theorem dX3_takesDigit_6 : decode cX3_takesDigit 6 = .ok (.iload_n 1, 1) := by decide +kernel
theorem dX3_takesDigit_7 : decode cX3_takesDigit 7 = .ok (.bipush 57, 2) := by decide +kernel
theorem dX3_takesDigit_9 : decode cX3_takesDigit 9 = .ok (.if_icmp .le 5, 3) := by decide +kernel
theorem dX3_takesDigit_12 : decode cX3_takesDigit 12 = .ok (.iconst 0, 1) := by decide +kernel
theorem dX3_takesDigit_13 : decode cX3_takesDigit 13 = .ok (.ireturn, 1) := by decide +kernel
theorem dX3_takesDigit_14 : decode cX3_takesDigit 14 = .ok (.iload_n 1, 1) := by decide +kernel
theorem dX3_takesDigit_15 : decode cX3_takesDigit 15 = .ok (.bipush 48, 2) := by decide +kernel
theorem dX3_takesDigit_17 : decode cX3_takesDigit 17 = .ok (.isub, 1) := by decide +kernel
theorem dX3_takesDigit_18 : decode cX3_takesDigit 18 = .ok (.istore_n 2, 1) := by decide +kernel
theorem dX3_takesDigit_19 : decode cX3_takesDigit 19 = .ok (.aload_n 0, 1) := by decide +kernel
theorem dX3_takesDigit_20 : decode cX3_takesDigit 20 = .ok (.getfield 12, 3) := by decide +kernel
theorem dX3_takesDigit_23 : decode cX3_takesDigit 23 = .ok (.getfield 46, 3) := by decide +kernel
theorem dX3_takesDigit_26 : decode cX3_takesDigit 26 = .ok (.aload_n 0, 1) := by decide +kernel
theorem dX3_takesDigit_27 : decode cX3_takesDigit 27 = .ok (.getfield 12, 3) := by decide +kernel
theorem dX3_takesDigit_30 : decode cX3_takesDigit 30 = .ok (.getfield 18, 3) := by decide +kernel
theorem dX3_takesDigit_33 : decode cX3_takesDigit 33 = .ok (.iconst 3, 1) := by decide +kernel
theorem dX3_takesDigit_34 : decode cX3_takesDigit 34 = .ok (.imul, 1) := by decide +kernel
theorem dX3_takesDigit_35 : decode cX3_takesDigit 35 = .ok (.aload_n 0, 1) := by decide +kernel
theorem dX3_takesDigit_36 : decode cX3_takesDigit 36 = .ok (.getfield 43, 3) := by decide +kernel
theorem dX3_takesDigit_39 : decode cX3_takesDigit 39 = .ok (.iadd, 1) := by decide +kernel
theorem dX3_takesDigit_40 : decode cX3_takesDigit 40 = .ok (.aload_n 0, 1) := by decide +kernel
theorem dX3_takesDigit_41 : decode cX3_takesDigit 41 = .ok (.getfield 32, 3) := by decide +kernel
theorem dX3_takesDigit_44 : decode cX3_takesDigit 44 = .ok (.ifCond .eq 8, 3) := by decide +kernel
theorem dX3_takesDigit_47 : decode cX3_takesDigit 47 = .ok (.iload_n 2, 1) := by decide +kernel
theorem dX3_takesDigit_48 : decode cX3_takesDigit 48 = .ok (.ineg, 1) := by decide +kernel
theorem dX3_takesDigit_49 : decode cX3_takesDigit 49 = .ok (.goto 4, 3) := by decide +kernel
theorem dX3_takesDigit_52 : decode cX3_takesDigit 52 = .ok (.iload_n 2, 1) := by decide +kernel
theorem dX3_takesDigit_53 : decode cX3_takesDigit 53 = .ok (.iastore, 1) := by decide +kernel
theorem dX3_takesDigit_54 : decode cX3_takesDigit 54 = .ok (.aload_n 0, 1) := by decide +kernel
theorem dX3_takesDigit_55 : decode cX3_takesDigit 55 = .ok (.dup, 1) := by decide +kernel
theorem dX3_takesDigit_56 : decode cX3_takesDigit 56 = .ok (.getfield 43, 3) := by decide +kernel
theorem dX3_takesDigit_59 : decode cX3_takesDigit 59 = .ok (.iconst 1, 1) := by decide +kernel
theorem dX3_takesDigit_60 : decode cX3_takesDigit 60 = .ok (.iadd, 1) := by decide +kernel
theorem dX3_takesDigit_61 : decode cX3_takesDigit 61 = .ok (.putfield 43, 3) := by decide +kernel
theorem dX3_takesDigit_64 : decode cX3_takesDigit 64 = .ok (.aload_n 0, 1) := by decide +kernel
theorem dX3_takesDigit_65 : decode cX3_takesDigit 65 = .ok (.iconst 3, 1) := by decide +kernel
theorem dX3_takesDigit_66 : decode cX3_takesDigit 66 = .ok (.putfield 22, 3) := by decide +kernel
theorem dX3_takesDigit_69 : decode cX3_takesDigit 69 = .ok (.aload_n 0, 1) := by decide +kernel
theorem dX3_takesDigit_70 : decode cX3_takesDigit 70 = .ok (.getfield 43, 3) := by decide +kernel
theorem dX3_takesDigit_73 : decode cX3_takesDigit 73 = .ok (.iconst 3, 1) := by decide +kernel
theorem dX3_takesDigit_74 : decode cX3_takesDigit 74 = .ok (.if_icmp .ne 21, 3) := by decide +kernel
theorem dX3_takesDigit_77 : decode cX3_takesDigit 77 = .ok (.aload_n 0, 1) := by decide +kernel
theorem dX3_takesDigit_78 : decode cX3_takesDigit 78 = .ok (.getfield 12, 3) := by decide +kernel
theorem dX3_takesDigit_81 : decode cX3_takesDigit 81 = .ok (.dup, 1) := by decide +kernel
theorem dX3_takesDigit_82 : decode cX3_takesDigit 82 = .ok (.getfield 18, 3) := by decide +kernel
theorem dX3_takesDigit_85 : decode cX3_takesDigit 85 = .ok (.iconst 1, 1) := by decide +kernel
theorem dX3_takesDigit_86 : decode cX3_takesDigit 86 = .ok (.iadd, 1) := by decide +kernel
theorem dX3_takesDigit_87 : decode cX3_takesDigit 87 = .ok (.putfield 18, 3) := by decide +kernel
theorem dX3_takesDigit_90 : decode cX3_takesDigit 90 = .ok (.aload_n 0, 1) := by decide +kernel
theorem dX3_takesDigit_91 : decode cX3_takesDigit 91 = .ok (.iconst 1, 1) := by decide +kernel
theorem dX3_takesDigit_92 : decode cX3_takesDigit 92 = .ok (.putfield 22, 3) := by decide +kernel
theorem dX3_takesDigit_95 : decode cX3_takesDigit 95 = .ok (.iconst 1, 1) := by decide +kernel
theorem dX3_takesDigit_96 : decode cX3_takesDigit 96 = .ok (.ireturn, 1) := by decide +kernel
theorem dX4_init_0 : decode cX4_init 0 = .ok (.aload_n 0, 1) := by decide +kernel
theorem dX4_init_1 : decode cX4_init 1 = .ok (.invokespecial 3, 3) := by decide +kernel
theorem dX4_init_4 : decode cX4_init 4 = .ok (.aload_n 0, 1) := by decide +kernel
theorem dX4_init_5 : decode cX4_init 5 = .ok (.iconst 4, 1) := by decide +kernel
theorem dX4_init_6 : decode cX4_init 6 = .ok (.newarray .int, 2) := by decide +kernel
theorem dX4_init_8 : decode cX4_init 8 = .ok (.putfield 9, 3) := by decide +kernel
theorem dX4_init_11 : decode cX4_init 11 = .ok (.aload_n 0, 1) := by decide +kernel
theorem dX4_init_12 : decode cX4_init 12 = .ok (.bipush 12, 2) := by decide +kernel
theorem dX4_init_14 : decode cX4_init 14 = .ok (.newarray .int, 2) := by decide +kernel
theorem dX4_init_16 : decode cX4_init 16 = .ok (.putfield 15, 3) := by decide +kernel
theorem dX4_init_19 : decode cX4_init 19 = .ok (.return_, 1) := by decide +kernel
theorem dX4_become_0 : decode cX4_become 0 = .ok (.aload_n 0, 1) := by decide +kernel
theorem dX4_become_1 : decode cX4_become 1 = .ok (.aload_n 1, 1) := by decide +kernel
theorem dX4_become_2 : decode cX4_become 2 = .ok (.getfield 18, 3) := by decide +kernel
theorem dX4_become_5 : decode cX4_become 5 = .ok (.putfield 18, 3) := by decide +kernel
theorem dX4_become_8 : decode cX4_become 8 = .ok (.aload_n 1, 1) := by decide +kernel
theorem dX4_become_9 : decode cX4_become 9 = .ok (.getfield 9, 3) := by decide +kernel
theorem dX4_become_12 : decode cX4_become 12 = .ok (.iconst 0, 1) := by decide +kernel
theorem dX4_become_13 : decode cX4_become 13 = .ok (.aload_n 0, 1) := by decide +kernel
theorem dX4_become_14 : decode cX4_become 14 = .ok (.getfield 9, 3) := by decide +kernel
theorem dX4_become_17 : decode cX4_become 17 = .ok (.iconst 0, 1) := by decide +kernel
theorem dX4_become_18 : decode cX4_become 18 = .ok (.aload_n 0, 1) := by decide +kernel
theorem dX4_become_19 : decode cX4_become 19 = .ok (.getfield 9, 3) := by decide +kernel
theorem dX4_become_22 : decode cX4_become 22 = .ok (.arraylength, 1) := by decide +kernel
theorem dX4_become_23 : decode cX4_become 23 = .ok (.invokestatic 22, 3) := by decide +kernel
theorem dX4_become_26 : decode cX4_become 26 = .ok (.aload_n 1, 1) := by decide +kernel
theorem dX4_become_27 : decode cX4_become 27 = .ok (.getfield 15, 3) := by decide +kernel
theorem dX4_become_30 : decode cX4_become 30 = .ok (.iconst 0, 1) := by decide +kernel
theorem dX4_become_31 : decode cX4_become 31 = .ok (.aload_n 0, 1) := by decide +kernel
theorem dX4_become_32 : decode cX4_become 32 = .ok (.getfield 15, 3) := by decide +kernel
theorem dX4_become_35 : decode cX4_become 35 = .ok (.iconst 0, 1) := by decide +kernel
theorem dX4_become_36 : decode cX4_become 36 = .ok (.aload_n 0, 1) := by decide +kernel
theorem dX4_become_37 : decode cX4_become 37 = .ok (.getfield 15, 3) := by decide +kernel
theorem dX4_become_40 : decode cX4_become 40 = .ok (.arraylength, 1) := by decide +kernel
theorem dX4_become_41 : decode cX4_become 41 = .ok (.invokestatic 22, 3) := by decide +kernel
theorem dX4_become_44 : decode cX4_become 44 = .ok (.return_, 1) := by decide +kernel
theorem dX4_exact_0 : decode cX4_exact 0 = .ok (.aload_n 0, 1) := by decide +kernel
theorem dX4_exact_1 : decode cX4_exact 1 = .ok (.getfield 15, 3) := by decide +kernel
theorem dX4_exact_4 : decode cX4_exact 4 = .ok (.iload_n 1, 1) := by decide +kernel
theorem dX4_exact_5 : decode cX4_exact 5 = .ok (.iconst 3, 1) := by decide +kernel
theorem dX4_exact_6 : decode cX4_exact 6 = .ok (.imul, 1) := by decide +kernel
theorem dX4_exact_7 : decode cX4_exact 7 = .ok (.iaload, 1) := by decide +kernel
theorem dX4_exact_8 : decode cX4_exact 8 = .ok (.istore_n 3, 1) := by decide +kernel
theorem dX4_exact_9 : decode cX4_exact 9 = .ok (.aload_n 0, 1) := by decide +kernel
theorem dX4_exact_10 : decode cX4_exact 10 = .ok (.getfield 15, 3) := by decide +kernel
theorem dX4_exact_13 : decode cX4_exact 13 = .ok (.iload_n 1, 1) := by decide +kernel
theorem dX4_exact_14 : decode cX4_exact 14 = .ok (.iconst 3, 1) := by decide +kernel
theorem dX4_exact_15 : decode cX4_exact 15 = .ok (.imul, 1) := by decide +kernel
theorem dX4_exact_16 : decode cX4_exact 16 = .ok (.iconst 1, 1) := by decide +kernel
theorem dX4_exact_17 : decode cX4_exact 17 = .ok (.iadd, 1) := by decide +kernel
theorem dX4_exact_18 : decode cX4_exact 18 = .ok (.iaload, 1) := by decide +kernel
theorem dX4_exact_19 : decode cX4_exact 19 = .ok (.istore 4, 2) := by decide +kernel
theorem dX4_exact_21 : decode cX4_exact 21 = .ok (.aload_n 0, 1) := by decide +kernel
theorem dX4_exact_22 : decode cX4_exact 22 = .ok (.getfield 15, 3) := by decide +kernel
theorem dX4_exact_25 : decode cX4_exact 25 = .ok (.iload_n 1, 1) := by decide +kernel
theorem dX4_exact_26 : decode cX4_exact 26 = .ok (.iconst 3, 1) := by decide +kernel
theorem dX4_exact_27 : decode cX4_exact 27 = .ok (.imul, 1) := by decide +kernel
theorem dX4_exact_28 : decode cX4_exact 28 = .ok (.iconst 2, 1) := by decide +kernel
theorem dX4_exact_29 : decode cX4_exact 29 = .ok (.iadd, 1) := by decide +kernel
theorem dX4_exact_30 : decode cX4_exact 30 = .ok (.iaload, 1) := by decide +kernel
theorem dX4_exact_31 : decode cX4_exact 31 = .ok (.istore 5, 2) := by decide +kernel
theorem dX4_exact_33 : decode cX4_exact 33 = .ok (.aload_n 0, 1) := by decide +kernel
theorem dX4_exact_34 : decode cX4_exact 34 = .ok (.getfield 9, 3) := by decide +kernel
theorem dX4_exact_37 : decode cX4_exact 37 = .ok (.iload_n 1, 1) := by decide +kernel
theorem dX4_exact_38 : decode cX4_exact 38 = .ok (.iaload, 1) := by decide +kernel
theorem dX4_exact_39 : decode cX4_exact 39 = .ok (.ifCond .eq 8, 3) := by decide +kernel
theorem dX4_exact_42 : decode cX4_exact 42 = .ok (.iload 4, 2) := by decide +kernel
theorem dX4_exact_44 : decode cX4_exact 44 = .ok (.ineg, 1) := by decide +kernel
theorem dX4_exact_45 : decode cX4_exact 45 = .ok (.istore 4, 2) := by decide +kernel
theorem dX4_exact_47 : decode cX4_exact 47 = .ok (.aload_n 0, 1) := by decide +kernel
theorem dX4_exact_48 : decode cX4_exact 48 = .ok (.getfield 9, 3) := by decide +kernel
theorem dX4_exact_51 : decode cX4_exact 51 = .ok (.iload_n 1, 1) := by decide +kernel
theorem dX4_exact_52 : decode cX4_exact 52 = .ok (.iaload, 1) := by decide +kernel
theorem dX4_exact_53 : decode cX4_exact 53 = .ok (.iconst 2, 1) := by decide +kernel
theorem dX4_exact_54 : decode cX4_exact 54 = .ok (.if_icmp .ne 20, 3) := by decide +kernel
theorem dX4_exact_57 : decode cX4_exact 57 = .ok (.iload_n 3, 1) := by decide +kernel
theorem dX4_exact_58 : decode cX4_exact 58 = .ok (.iload 4, 2) := by decide +kernel
theorem dX4_exact_60 : decode cX4_exact 60 = .ok (.iadd, 1) := by decide +kernel
theorem dX4_exact_61 : decode cX4_exact 61 = .ok (.iload 5, 2) := by decide +kernel
theorem dX4_exact_63 : decode cX4_exact 63 = .ok (.iadd, 1) := by decide +kernel
theorem dX4_exact_64 : decode cX4_exact 64 = .ok (.istore_n 3, 1) := by decide +kernel
theorem dX4_exact_65 : decode cX4_exact 65 = .ok (.iload 4, 2) := by decide +kernel
theorem dX4_exact_67 : decode cX4_exact 67 = .ok (.iconst 2, 1) := by decide +kernel
theorem dX4_exact_68 : decode cX4_exact 68 = .ok (.iload 5, 2) := by decide +kernel
theorem dX4_exact_70 : decode cX4_exact 70 = .ok (.imul, 1) := by decide +kernel
theorem dX4_exact_71 : decode cX4_exact 71 = .ok (.iadd, 1) := by decide +kernel
theorem dX4_exact_72 : decode cX4_exact 72 = .ok (.istore 4, 2) := by decide +kernel
theorem dX4_exact_74 : decode cX4_exact 74 = .ok (.iload_n 2, 1) := by decide +kernel
theorem dX4_exact_75 : decode cX4_exact 75 = .ok (.ifCond .ne 5, 3) := by decide +kernel
theorem dX4_exact_78 : decode cX4_exact 78 = .ok (.iload_n 3, 1) := by decide +kernel
theorem dX4_exact_79 : decode cX4_exact 79 = .ok (.ireturn, 1) := by decide +kernel
theorem dX4_exact_80 : decode cX4_exact 80 = .ok (.iload_n 2, 1) := by decide +kernel
theorem dX4_exact_81 : decode cX4_exact 81 = .ok (.iconst 1, 1) := by decide +kernel
theorem dX4_exact_82 : decode cX4_exact 82 = .ok (.if_icmp .ne 8, 3) := by decide +kernel
theorem dX4_exact_85 : decode cX4_exact 85 = .ok (.iload 4, 2) := by decide +kernel
theorem dX4_exact_87 : decode cX4_exact 87 = .ok (.goto 5, 3) := by decide +kernel
theorem dX4_exact_90 : decode cX4_exact 90 = .ok (.iload 5, 2) := by decide +kernel
theorem dX4_exact_92 : decode cX4_exact 92 = .ok (.ireturn, 1) := by decide +kernel
set_option maxRecDepth 20000 in
theorem ggX5_init_X4_init : GoodIn wsX5_init wsX4_init := goodIn_r _ [25, 26, 2, 3, 27, 28, 29, 64, 65, 66] (by decide +kernel) (by decide +kernel)
set_option maxRecDepth 20000 in
theorem gX5_init_X4_init_n19 : GoodIn wsX5_init (wsX4_init) := ggX5_init_X4_init
set_option maxRecDepth 20000 in
theorem ggX5_init_X0_init : GoodIn wsX5_init wsX0_init := goodIn_r _ [31, 32, 2, 3, 27, 33, 34, 35, 36, 37, 38, 39, 40, 41, 42, 43, 67, 68, 69, 70, 71, 72, 73, 74, 75, 76, 77, 78, 79, 80] (by decide +kernel) (by decide +kernel)
set_option maxRecDepth 20000 in
theorem gX5_init_X0_init_n26 : GoodIn wsX5_init (wsX0_init) := ggX5_init_X0_init
set_option maxRecDepth 20000 in
theorem ggX5_init_X3_init : GoodIn wsX5_init wsX3_init := goodIn_r _ [45, 46, 2, 3, 47, 7, 8, 48, 24, 25, 26, 27, 28, 29, 64, 65, 66, 81, 82, 83, 84] (by decide +kernel) (by decide +kernel)
set_option maxRecDepth 20000 in
theorem gX5_init_X3_init_n39 : GoodIn wsX5_init (wsX3_init) := ggX5_init_X3_init
set_option maxRecDepth 20000 in
theorem ggX5_init_X1_init : GoodIn wsX5_init wsX1_init := goodIn_r _ [50, 51, 2, 3, 27, 52, 53, 54, 85, 86, 87, 88] (by decide +kernel) (by decide +kernel)
set_option maxRecDepth 20000 in
theorem gX5_init_X1_init_n46 : GoodIn wsX5_init (wsX1_init) := ggX5_init_X1_init
theorem dX5_init_0 : decode cX5_init 0 = .ok (.aload_n 0, 1) := by decide +kernel
theorem dX5_init_1 : decode cX5_init 1 = .ok (.invokespecial 5, 3) := by decide +kernel
theorem dX5_init_4 : decode cX5_init 4 = .ok (.aload_n 0, 1) := by decide +kernel
theorem dX5_init_5 : decode cX5_init 5 = .ok (.iconst 4, 1) := by decide +kernel
theorem dX5_init_6 : decode cX5_init 6 = .ok (.anewarray 11, 3) := by decide +kernel
theorem dX5_init_9 : decode cX5_init 9 = .ok (.putfield 13, 3) := by decide +kernel
theorem dX5_init_12 : decode cX5_init 12 = .ok (.aload_n 0, 1) := by decide +kernel
theorem dX5_init_13 : decode cX5_init 13 = .ok (.new 17, 3) := by decide +kernel
theorem dX5_init_16 : decode cX5_init 16 = .ok (.dup, 1) := by decide +kernel
theorem dX5_init_17 : decode cX5_init 17 = .ok (.invokespecial 19, 3) := by decide +kernel
theorem dX5_init_20 : decode cX5_init 20 = .ok (.putfield 20, 3) := by decide +kernel
theorem dX5_init_23 : decode cX5_init 23 = .ok (.aload_n 0, 1) := by decide +kernel
theorem dX5_init_24 : decode cX5_init 24 = .ok (.new 24, 3) := by decide +kernel
theorem dX5_init_27 : decode cX5_init 27 = .ok (.dup, 1) := by decide +kernel
theorem dX5_init_28 : decode cX5_init 28 = .ok (.invokespecial 26, 3) := by decide +kernel
theorem dX5_init_31 : decode cX5_init 31 = .ok (.putfield 27, 3) := by decide +kernel
theorem dX5_init_34 : decode cX5_init 34 = .ok (.aload_n 0, 1) := by decide +kernel
theorem dX5_init_35 : decode cX5_init 35 = .ok (.new 17, 3) := by decide +kernel
theorem dX5_init_38 : decode cX5_init 38 = .ok (.dup, 1) := by decide +kernel
theorem dX5_init_39 : decode cX5_init 39 = .ok (.invokespecial 19, 3) := by decide +kernel
theorem dX5_init_42 : decode cX5_init 42 = .ok (.putfield 31, 3) := by decide +kernel
theorem dX5_init_45 : decode cX5_init 45 = .ok (.aload_n 0, 1) := by decide +kernel
theorem dX5_init_46 : decode cX5_init 46 = .ok (.new 24, 3) := by decide +kernel
theorem dX5_init_49 : decode cX5_init 49 = .ok (.dup, 1) := by decide +kernel
theorem dX5_init_50 : decode cX5_init 50 = .ok (.invokespecial 26, 3) := by decide +kernel
theorem dX5_init_53 : decode cX5_init 53 = .ok (.putfield 34, 3) := by decide +kernel
theorem dX5_init_56 : decode cX5_init 56 = .ok (.aload_n 0, 1) := by decide +kernel
theorem dX5_init_57 : decode cX5_init 57 = .ok (.new 37, 3) := by decide +kernel
theorem dX5_init_60 : decode cX5_init 60 = .ok (.dup, 1) := by decide +kernel
theorem dX5_init_61 : decode cX5_init 61 = .ok (.invokespecial 39, 3) := by decide +kernel
theorem dX5_init_64 : decode cX5_init 64 = .ok (.putfield 40, 3) := by decide +kernel
theorem dX5_init_67 : decode cX5_init 67 = .ok (.aload_n 0, 1) := by decide +kernel
theorem dX5_init_68 : decode cX5_init 68 = .ok (.new 44, 3) := by decide +kernel
theorem dX5_init_71 : decode cX5_init 71 = .ok (.dup, 1) := by decide +kernel
theorem dX5_init_72 : decode cX5_init 72 = .ok (.invokespecial 46, 3) := by decide +kernel
theorem dX5_init_75 : decode cX5_init 75 = .ok (.putfield 47, 3) := by decide +kernel
theorem dX5_init_78 : decode cX5_init 78 = .ok (.return_, 1) := by decide +kernel
set_option maxRecDepth 20000 in
theorem ggX5_polynomials_X5_isSheet : GoodIn wsX5_polynomials wsX5_isSheet := goodIn_r _ [14, 15, 16, 13, 17] (by decide +kernel) (by decide +kernel)
set_option maxRecDepth 20000 in
theorem gX5_polynomials_X5_isSheet : GoodIn wsX5_polynomials (va_wsS RX5 55 yX5_isSheet wsX5_isSheet) := goodIn_app (goodIn_of _ (by decide +kernel)) ggX5_polynomials_X5_isSheet
set_option maxRecDepth 20000 in
theorem ggX5_polynomials_X5_isBelow : GoodIn wsX5_polynomials wsX5_isBelow := goodIn_r _ [17] (by decide +kernel) (by decide +kernel)
set_option maxRecDepth 20000 in
theorem gX5_polynomials_X5_isBelow : GoodIn wsX5_polynomials (va_wsS RX5 59 yX5_isBelow wsX5_isBelow) := goodIn_app (goodIn_of _ (by decide +kernel)) ggX5_polynomials_X5_isBelow
set_option maxRecDepth 20000 in
theorem ggX5_polynomials_X5_faultOfCells : GoodIn wsX5_polynomials wsX5_faultOfCells := goodIn_r _ [20, 21, 22, 23, 24, 25, 26, 27, 129, 130] (by decide +kernel) (by decide +kernel)
set_option maxRecDepth 20000 in
theorem gX5_polynomials_X5_faultOfCells : GoodIn wsX5_polynomials (va_wsS RX5 63 yX5_faultOfCells wsX5_faultOfCells) := goodIn_app (goodIn_of _ (by decide +kernel)) ggX5_polynomials_X5_faultOfCells
set_option maxRecDepth 20000 in
theorem ggX5_polynomials_X5_failed : GoodIn wsX5_polynomials wsX5_failed := goodIn_r _ [31, 1, 120, 121, 122, 123, 124, 125, 126, 127, 128] (by decide +kernel) (by decide +kernel)
set_option maxRecDepth 20000 in
theorem gX5_polynomials_X5_failed : GoodIn wsX5_polynomials (wsV RX5 67 RX5 yX5_failed wsX5_failed) := goodIn_app (goodIn_of _ (by decide +kernel)) ggX5_polynomials_X5_failed
set_option maxRecDepth 20000 in
theorem ggX5_polynomials_X3_firstFault : GoodIn wsX5_polynomials wsX3_firstFault := goodIn_r _ [36, 37, 38, 39, 40, 41, 42, 35, 43, 44, 45, 46, 47, 48, 49, 50, 51, 52, 53, 54, 55, 131, 132, 133, 134, 139, 140, 141] (by decide +kernel) (by decide +kernel)
set_option maxRecDepth 20000 in
theorem gX5_polynomials_X3_firstFault : GoodIn wsX5_polynomials (wsV RX5 75 RX3 yX3_firstFault wsX3_firstFault) := goodIn_app (goodIn_of _ (by decide +kernel)) ggX5_polynomials_X3_firstFault
set_option maxRecDepth 20000 in
theorem ggX5_polynomials_X4_become : GoodIn wsX5_polynomials wsX4_become := goodIn_r _ [60, 61, 62, 63, 64, 65, 66, 67, 139, 140, 141] (by decide +kernel) (by decide +kernel)
set_option maxRecDepth 20000 in
theorem gX5_polynomials_X4_become : GoodIn wsX5_polynomials (wsV RX5 82 RX4 yX4_become wsX4_become) := goodIn_app (goodIn_of _ (by decide +kernel)) ggX5_polynomials_X4_become
set_option maxRecDepth 20000 in
theorem ggX5_polynomials_X0_lay : GoodIn wsX5_polynomials wsX0_lay := goodIn_r _ [72, 73, 74, 75, 76, 77, 78, 79, 80, 59, 81, 67, 62, 82, 83, 84, 71, 85, 86, 87, 88, 89, 90, 91, 92, 93, 94, 95, 96, 97, 98, 99, 100, 101, 102, 103, 104, 105, 106, 107, 108, 109, 110, 111, 112, 113, 114, 115, 116, 117, 118, 119, 139, 140, 141, 142, 143, 144, 145, 146, 147, 148, 149, 150, 151, 152, 153, 154, 155] (by decide +kernel) (by decide +kernel)
set_option maxRecDepth 20000 in
theorem gX5_polynomials_X0_lay : GoodIn wsX5_polynomials (wsV RX5 89 RX0 yX0_lay wsX0_lay) := goodIn_app (goodIn_of _ (by decide +kernel)) ggX5_polynomials_X0_lay
theorem dX5_polynomials_0 : decode cX5_polynomials 0 = .ok (.aload_n 0, 1) := by decide +kernel
theorem dX5_polynomials_1 : decode cX5_polynomials 1 = .ok (.iconst 0, 1) := by decide +kernel
theorem dX5_polynomials_2 : decode cX5_polynomials 2 = .ok (.putfield 51, 3) := by decide +kernel
theorem dX5_polynomials_5 : decode cX5_polynomials 5 = .ok (.iload_n 1, 1) := by decide +kernel
theorem dX5_polynomials_6 : decode cX5_polynomials 6 = .ok (.invokestatic 55, 3) := by decide +kernel
theorem dX5_polynomials_9 : decode cX5_polynomials 9 = .ok (.ifCond .ne 5, 3) := by decide +kernel
theorem dX5_polynomials_12 : decode cX5_polynomials 12 = .ok (.iconst (-1), 1) := by decide +kernel
theorem dX5_polynomials_13 : decode cX5_polynomials 13 = .ok (.ireturn, 1) := by decide +kernel
theorem dX5_polynomials_14 : decode cX5_polynomials 14 = .ok (.iload_n 2, 1) := by decide +kernel
theorem dX5_polynomials_15 : decode cX5_polynomials 15 = .ok (.iconst 3, 1) := by decide +kernel
theorem dX5_polynomials_16 : decode cX5_polynomials 16 = .ok (.invokestatic 59, 3) := by decide +kernel
theorem dX5_polynomials_19 : decode cX5_polynomials 19 = .ok (.ifCond .ne 6, 3) := by decide +kernel
theorem dX5_polynomials_22 : decode cX5_polynomials 22 = .ok (.bipush (-2), 2) := by decide +kernel
theorem dX5_polynomials_24 : decode cX5_polynomials 24 = .ok (.ireturn, 1) := by decide +kernel
theorem dX5_polynomials_25 : decode cX5_polynomials 25 = .ok (.aload_n 0, 1) := by decide +kernel
theorem dX5_polynomials_26 : decode cX5_polynomials 26 = .ok (.getfield 13, 3) := by decide +kernel
theorem dX5_polynomials_29 : decode cX5_polynomials 29 = .ok (.iload_n 1, 1) := by decide +kernel
theorem dX5_polynomials_30 : decode cX5_polynomials 30 = .ok (.aaload, 1) := by decide +kernel
theorem dX5_polynomials_31 : decode cX5_polynomials 31 = .ok (.astore 5, 2) := by decide +kernel
theorem dX5_polynomials_33 : decode cX5_polynomials 33 = .ok (.aload 5, 2) := by decide +kernel
theorem dX5_polynomials_35 : decode cX5_polynomials 35 = .ok (.iload_n 2, 1) := by decide +kernel
theorem dX5_polynomials_36 : decode cX5_polynomials 36 = .ok (.iload_n 3, 1) := by decide +kernel
theorem dX5_polynomials_37 : decode cX5_polynomials 37 = .ok (.iload 4, 2) := by decide +kernel
theorem dX5_polynomials_39 : decode cX5_polynomials 39 = .ok (.invokestatic 63, 3) := by decide +kernel
theorem dX5_polynomials_42 : decode cX5_polynomials 42 = .ok (.istore 6, 2) := by decide +kernel
theorem dX5_polynomials_44 : decode cX5_polynomials 44 = .ok (.iload 6, 2) := by decide +kernel
theorem dX5_polynomials_46 : decode cX5_polynomials 46 = .ok (.ifCond .eq 10, 3) := by decide +kernel
theorem dX5_polynomials_49 : decode cX5_polynomials 49 = .ok (.aload_n 0, 1) := by decide +kernel
theorem dX5_polynomials_50 : decode cX5_polynomials 50 = .ok (.iload 6, 2) := by decide +kernel
theorem dX5_polynomials_52 : decode cX5_polynomials 52 = .ok (.invokevirtual 67, 3) := by decide +kernel
theorem dX5_polynomials_55 : decode cX5_polynomials 55 = .ok (.ireturn, 1) := by decide +kernel
theorem dX5_polynomials_56 : decode cX5_polynomials 56 = .ok (.aload_n 0, 1) := by decide +kernel
theorem dX5_polynomials_57 : decode cX5_polynomials 57 = .ok (.getfield 40, 3) := by decide +kernel
theorem dX5_polynomials_60 : decode cX5_polynomials 60 = .ok (.aload 5, 2) := by decide +kernel
theorem dX5_polynomials_62 : decode cX5_polynomials 62 = .ok (.getfield 71, 3) := by decide +kernel
theorem dX5_polynomials_65 : decode cX5_polynomials 65 = .ok (.iload_n 3, 1) := by decide +kernel
theorem dX5_polynomials_66 : decode cX5_polynomials 66 = .ok (.iload 4, 2) := by decide +kernel
theorem dX5_polynomials_68 : decode cX5_polynomials 68 = .ok (.invokevirtual 75, 3) := by decide +kernel
theorem dX5_polynomials_71 : decode cX5_polynomials 71 = .ok (.istore 7, 2) := by decide +kernel
theorem dX5_polynomials_73 : decode cX5_polynomials 73 = .ok (.iload 7, 2) := by decide +kernel
theorem dX5_polynomials_75 : decode cX5_polynomials 75 = .ok (.bipush (-9), 2) := by decide +kernel
theorem dX5_polynomials_77 : decode cX5_polynomials 77 = .ok (.if_icmp .eq 9, 3) := by decide +kernel
theorem dX5_polynomials_80 : decode cX5_polynomials 80 = .ok (.bipush (-100), 2) := by decide +kernel
theorem dX5_polynomials_82 : decode cX5_polynomials 82 = .ok (.iload 7, 2) := by decide +kernel
theorem dX5_polynomials_84 : decode cX5_polynomials 84 = .ok (.isub, 1) := by decide +kernel
theorem dX5_polynomials_85 : decode cX5_polynomials 85 = .ok (.ireturn, 1) := by decide +kernel
theorem dX5_polynomials_86 : decode cX5_polynomials 86 = .ok (.aload_n 0, 1) := by decide +kernel
theorem dX5_polynomials_87 : decode cX5_polynomials 87 = .ok (.getfield 20, 3) := by decide +kernel
theorem dX5_polynomials_90 : decode cX5_polynomials 90 = .ok (.aload_n 0, 1) := by decide +kernel
theorem dX5_polynomials_91 : decode cX5_polynomials 91 = .ok (.getfield 40, 3) := by decide +kernel
theorem dX5_polynomials_94 : decode cX5_polynomials 94 = .ok (.getfield 79, 3) := by decide +kernel
theorem dX5_polynomials_97 : decode cX5_polynomials 97 = .ok (.invokevirtual 82, 3) := by decide +kernel
theorem dX5_polynomials_100 : decode cX5_polynomials 100 = .ok (.aload_n 0, 1) := by decide +kernel
theorem dX5_polynomials_101 : decode cX5_polynomials 101 = .ok (.getfield 47, 3) := by decide +kernel
theorem dX5_polynomials_104 : decode cX5_polynomials 104 = .ok (.iconst 0, 1) := by decide +kernel
theorem dX5_polynomials_105 : decode cX5_polynomials 105 = .ok (.putfield 86, 3) := by decide +kernel
theorem dX5_polynomials_108 : decode cX5_polynomials 108 = .ok (.aload_n 0, 1) := by decide +kernel
theorem dX5_polynomials_109 : decode cX5_polynomials 109 = .ok (.getfield 27, 3) := by decide +kernel
theorem dX5_polynomials_112 : decode cX5_polynomials 112 = .ok (.aload_n 0, 1) := by decide +kernel
theorem dX5_polynomials_113 : decode cX5_polynomials 113 = .ok (.getfield 20, 3) := by decide +kernel
theorem dX5_polynomials_116 : decode cX5_polynomials 116 = .ok (.invokevirtual 89, 3) := by decide +kernel
theorem dX5_polynomials_119 : decode cX5_polynomials 119 = .ok (.aload_n 0, 1) := by decide +kernel
theorem dX5_polynomials_120 : decode cX5_polynomials 120 = .ok (.getfield 20, 3) := by decide +kernel
theorem dX5_polynomials_123 : decode cX5_polynomials 123 = .ok (.getfield 92, 3) := by decide +kernel
theorem dX5_polynomials_126 : decode cX5_polynomials 126 = .ok (.ireturn, 1) := by decide +kernel
set_option maxRecDepth 20000 in
theorem ggX5_ofPolynomial_X5_isPolynomial : GoodIn wsX5_ofPolynomial wsX5_isPolynomial := goodIn_r _ [10, 1, 11, 12, 13, 9, 14, 22, 23, 24, 25, 26, 27, 28, 29, 30, 31, 32, 33] (by decide +kernel) (by decide +kernel)
set_option maxRecDepth 20000 in
theorem gX5_ofPolynomial_X5_isPolynomial : GoodIn wsX5_ofPolynomial (wsV RX5 93 RX5 yX5_isPolynomial wsX5_isPolynomial) := goodIn_app (goodIn_of _ (by decide +kernel)) ggX5_ofPolynomial_X5_isPolynomial
set_option maxRecDepth 20000 in
theorem ggX5_ofPolynomial_X4_exact : GoodIn wsX5_ofPolynomial wsX4_exact := goodIn_r _ [19, 20, 21, 31, 32, 33] (by decide +kernel) (by decide +kernel)
set_option maxRecDepth 20000 in
theorem gX5_ofPolynomial_X4_exact : GoodIn wsX5_ofPolynomial (wsV RX5 105 RX4 yX4_exact wsX4_exact) := goodIn_app (goodIn_of _ (by decide +kernel)) ggX5_ofPolynomial_X4_exact
theorem dX5_ofPolynomial_0 : decode cX5_ofPolynomial 0 = .ok (.aload_n 0, 1) := by decide +kernel
theorem dX5_ofPolynomial_1 : decode cX5_ofPolynomial 1 = .ok (.iload_n 1, 1) := by decide +kernel
theorem dX5_ofPolynomial_2 : decode cX5_ofPolynomial 2 = .ok (.invokevirtual 93, 3) := by decide +kernel
theorem dX5_ofPolynomial_5 : decode cX5_ofPolynomial 5 = .ok (.ifCond .ne 5, 3) := by decide +kernel
theorem dX5_ofPolynomial_8 : decode cX5_ofPolynomial 8 = .ok (.iconst (-1), 1) := by decide +kernel
theorem dX5_ofPolynomial_9 : decode cX5_ofPolynomial 9 = .ok (.ireturn, 1) := by decide +kernel
theorem dX5_ofPolynomial_10 : decode cX5_ofPolynomial 10 = .ok (.iload_n 2, 1) := by decide +kernel
theorem dX5_ofPolynomial_11 : decode cX5_ofPolynomial 11 = .ok (.ifCond .ne 13, 3) := by decide +kernel
theorem dX5_ofPolynomial_14 : decode cX5_ofPolynomial 14 = .ok (.aload_n 0, 1) := by decide +kernel
theorem dX5_ofPolynomial_15 : decode cX5_ofPolynomial 15 = .ok (.getfield 20, 3) := by decide +kernel
theorem dX5_ofPolynomial_18 : decode cX5_ofPolynomial 18 = .ok (.getfield 96, 3) := by decide +kernel
theorem dX5_ofPolynomial_21 : decode cX5_ofPolynomial 21 = .ok (.iload_n 1, 1) := by decide +kernel
theorem dX5_ofPolynomial_22 : decode cX5_ofPolynomial 22 = .ok (.iaload, 1) := by decide +kernel
theorem dX5_ofPolynomial_23 : decode cX5_ofPolynomial 23 = .ok (.ireturn, 1) := by decide +kernel
theorem dX5_ofPolynomial_24 : decode cX5_ofPolynomial 24 = .ok (.iload_n 2, 1) := by decide +kernel
theorem dX5_ofPolynomial_25 : decode cX5_ofPolynomial 25 = .ok (.iconst 1, 1) := by decide +kernel
theorem dX5_ofPolynomial_26 : decode cX5_ofPolynomial 26 = .ok (.if_icmp .ne 13, 3) := by decide +kernel
theorem dX5_ofPolynomial_29 : decode cX5_ofPolynomial 29 = .ok (.aload_n 0, 1) := by decide +kernel
theorem dX5_ofPolynomial_30 : decode cX5_ofPolynomial 30 = .ok (.getfield 27, 3) := by decide +kernel
theorem dX5_ofPolynomial_33 : decode cX5_ofPolynomial 33 = .ok (.getfield 99, 3) := by decide +kernel
theorem dX5_ofPolynomial_36 : decode cX5_ofPolynomial 36 = .ok (.iload_n 1, 1) := by decide +kernel
theorem dX5_ofPolynomial_37 : decode cX5_ofPolynomial 37 = .ok (.iaload, 1) := by decide +kernel
theorem dX5_ofPolynomial_38 : decode cX5_ofPolynomial 38 = .ok (.ireturn, 1) := by decide +kernel
theorem dX5_ofPolynomial_39 : decode cX5_ofPolynomial 39 = .ok (.iload_n 2, 1) := by decide +kernel
theorem dX5_ofPolynomial_40 : decode cX5_ofPolynomial 40 = .ok (.bipush 10, 2) := by decide +kernel
theorem dX5_ofPolynomial_42 : decode cX5_ofPolynomial 42 = .ok (.if_icmp .lt 29, 3) := by decide +kernel
theorem dX5_ofPolynomial_45 : decode cX5_ofPolynomial 45 = .ok (.iload_n 2, 1) := by decide +kernel
theorem dX5_ofPolynomial_46 : decode cX5_ofPolynomial 46 = .ok (.bipush 13, 2) := by decide +kernel
theorem dX5_ofPolynomial_48 : decode cX5_ofPolynomial 48 = .ok (.if_icmp .ge 23, 3) := by decide +kernel
theorem dX5_ofPolynomial_51 : decode cX5_ofPolynomial 51 = .ok (.aload_n 0, 1) := by decide +kernel
theorem dX5_ofPolynomial_52 : decode cX5_ofPolynomial 52 = .ok (.getfield 20, 3) := by decide +kernel
theorem dX5_ofPolynomial_55 : decode cX5_ofPolynomial 55 = .ok (.getfield 102, 3) := by decide +kernel
theorem dX5_ofPolynomial_58 : decode cX5_ofPolynomial 58 = .ok (.iload_n 1, 1) := by decide +kernel
theorem dX5_ofPolynomial_59 : decode cX5_ofPolynomial 59 = .ok (.iconst 3, 1) := by decide +kernel
theorem dX5_ofPolynomial_60 : decode cX5_ofPolynomial 60 = .ok (.imul, 1) := by decide +kernel
theorem dX5_ofPolynomial_61 : decode cX5_ofPolynomial 61 = .ok (.iload_n 2, 1) := by decide +kernel
theorem dX5_ofPolynomial_62 : decode cX5_ofPolynomial 62 = .ok (.iadd, 1) := by decide +kernel
theorem dX5_ofPolynomial_63 : decode cX5_ofPolynomial 63 = .ok (.bipush 10, 2) := by decide +kernel
theorem dX5_ofPolynomial_65 : decode cX5_ofPolynomial 65 = .ok (.isub, 1) := by decide +kernel
theorem dX5_ofPolynomial_66 : decode cX5_ofPolynomial 66 = .ok (.iaload, 1) := by decide +kernel
theorem dX5_ofPolynomial_67 : decode cX5_ofPolynomial 67 = .ok (.bipush 9, 2) := by decide +kernel
theorem dX5_ofPolynomial_69 : decode cX5_ofPolynomial 69 = .ok (.iadd, 1) := by decide +kernel
theorem dX5_ofPolynomial_70 : decode cX5_ofPolynomial 70 = .ok (.ireturn, 1) := by decide +kernel
theorem dX5_ofPolynomial_71 : decode cX5_ofPolynomial 71 = .ok (.iload_n 2, 1) := by decide +kernel
theorem dX5_ofPolynomial_72 : decode cX5_ofPolynomial 72 = .ok (.bipush 20, 2) := by decide +kernel
theorem dX5_ofPolynomial_74 : decode cX5_ofPolynomial 74 = .ok (.if_icmp .lt 25, 3) := by decide +kernel
theorem dX5_ofPolynomial_77 : decode cX5_ofPolynomial 77 = .ok (.iload_n 2, 1) := by decide +kernel
theorem dX5_ofPolynomial_78 : decode cX5_ofPolynomial 78 = .ok (.bipush 23, 2) := by decide +kernel
theorem dX5_ofPolynomial_80 : decode cX5_ofPolynomial 80 = .ok (.if_icmp .ge 19, 3) := by decide +kernel
theorem dX5_ofPolynomial_83 : decode cX5_ofPolynomial 83 = .ok (.aload_n 0, 1) := by decide +kernel
theorem dX5_ofPolynomial_84 : decode cX5_ofPolynomial 84 = .ok (.getfield 20, 3) := by decide +kernel
theorem dX5_ofPolynomial_87 : decode cX5_ofPolynomial 87 = .ok (.iload_n 1, 1) := by decide +kernel
theorem dX5_ofPolynomial_88 : decode cX5_ofPolynomial 88 = .ok (.iload_n 2, 1) := by decide +kernel
theorem dX5_ofPolynomial_89 : decode cX5_ofPolynomial 89 = .ok (.bipush 20, 2) := by decide +kernel
theorem dX5_ofPolynomial_91 : decode cX5_ofPolynomial 91 = .ok (.isub, 1) := by decide +kernel
theorem dX5_ofPolynomial_92 : decode cX5_ofPolynomial 92 = .ok (.invokevirtual 105, 3) := by decide +kernel
theorem dX5_ofPolynomial_95 : decode cX5_ofPolynomial 95 = .ok (.bipush 100, 2) := by decide +kernel
theorem dX5_ofPolynomial_97 : decode cX5_ofPolynomial 97 = .ok (.iadd, 1) := by decide +kernel
theorem dX5_ofPolynomial_98 : decode cX5_ofPolynomial 98 = .ok (.ireturn, 1) := by decide +kernel
theorem dX5_ofPolynomial_99 : decode cX5_ofPolynomial 99 = .ok (.bipush (-2), 2) := by decide +kernel
theorem dX5_ofPolynomial_101 : decode cX5_ofPolynomial 101 = .ok (.ireturn, 1) := by decide +kernel
set_option maxRecDepth 20000 in
theorem ggX5_value_X5_isPolynomial : GoodIn wsX5_value wsX5_isPolynomial := goodIn_r _ [9, 4, 10, 11, 12, 8, 13, 21, 22, 23, 24, 25, 26, 27, 28, 29, 30, 31, 32] (by decide +kernel) (by decide +kernel)
set_option maxRecDepth 20000 in
theorem gX5_value_X5_isPolynomial : GoodIn wsX5_value (wsV RX5 93 RX5 yX5_isPolynomial wsX5_isPolynomial) := goodIn_app (goodIn_of _ (by decide +kernel)) ggX5_value_X5_isPolynomial
set_option maxRecDepth 20000 in
theorem ggX5_value_X4_exact : GoodIn wsX5_value wsX4_exact := goodIn_r _ [18, 19, 20, 30, 31, 32] (by decide +kernel) (by decide +kernel)
set_option maxRecDepth 20000 in
theorem gX5_value_X4_exact : GoodIn wsX5_value (wsV RX5 105 RX4 yX4_exact wsX4_exact) := goodIn_app (goodIn_of _ (by decide +kernel)) ggX5_value_X4_exact
theorem dX5_value_0 : decode cX5_value 0 = .ok (.aload_n 0, 1) := by decide +kernel
theorem dX5_value_1 : decode cX5_value 1 = .ok (.iload_n 1, 1) := by decide +kernel
theorem dX5_value_2 : decode cX5_value 2 = .ok (.invokevirtual 93, 3) := by decide +kernel
theorem dX5_value_5 : decode cX5_value 5 = .ok (.ifCond .eq 15, 3) := by decide +kernel
theorem dX5_value_8 : decode cX5_value 8 = .ok (.iload_n 2, 1) := by decide +kernel
theorem dX5_value_9 : decode cX5_value 9 = .ok (.ldc 109, 2) := by decide +kernel
theorem dX5_value_11 : decode cX5_value 11 = .ok (.if_icmp .lt 9, 3) := by decide +kernel
theorem dX5_value_14 : decode cX5_value 14 = .ok (.iload_n 2, 1) := by decide +kernel
theorem dX5_value_15 : decode cX5_value 15 = .ok (.ldc 110, 2) := by decide +kernel
theorem dX5_value_17 : decode cX5_value 17 = .ok (.if_icmp .le 7, 3) := by decide +kernel
theorem dX5_value_20 : decode cX5_value 20 = .ok (.ldc2_w 111, 3) := by decide +kernel
theorem dX5_value_23 : decode cX5_value 23 = .ok (.lreturn, 1) := by decide +kernel
theorem dX5_value_24 : decode cX5_value 24 = .ok (.iload_n 2, 1) := by decide +kernel
theorem dX5_value_25 : decode cX5_value 25 = .ok (.i2l, 1) := by decide +kernel
theorem dX5_value_26 : decode cX5_value 26 = .ok (.lstore_n 3, 1) := by decide +kernel
theorem dX5_value_27 : decode cX5_value 27 = .ok (.aload_n 0, 1) := by decide +kernel
theorem dX5_value_28 : decode cX5_value 28 = .ok (.getfield 20, 3) := by decide +kernel
theorem dX5_value_31 : decode cX5_value 31 = .ok (.iload_n 1, 1) := by decide +kernel
theorem dX5_value_32 : decode cX5_value 32 = .ok (.iconst 0, 1) := by decide +kernel
theorem dX5_value_33 : decode cX5_value 33 = .ok (.invokevirtual 105, 3) := by decide +kernel
theorem dX5_value_36 : decode cX5_value 36 = .ok (.i2l, 1) := by decide +kernel
theorem dX5_value_37 : decode cX5_value 37 = .ok (.aload_n 0, 1) := by decide +kernel
theorem dX5_value_38 : decode cX5_value 38 = .ok (.getfield 20, 3) := by decide +kernel
theorem dX5_value_41 : decode cX5_value 41 = .ok (.iload_n 1, 1) := by decide +kernel
theorem dX5_value_42 : decode cX5_value 42 = .ok (.iconst 1, 1) := by decide +kernel
theorem dX5_value_43 : decode cX5_value 43 = .ok (.invokevirtual 105, 3) := by decide +kernel
theorem dX5_value_46 : decode cX5_value 46 = .ok (.i2l, 1) := by decide +kernel
theorem dX5_value_47 : decode cX5_value 47 = .ok (.lload_n 3, 1) := by decide +kernel
theorem dX5_value_48 : decode cX5_value 48 = .ok (.lmul, 1) := by decide +kernel
theorem dX5_value_49 : decode cX5_value 49 = .ok (.ladd, 1) := by decide +kernel
theorem dX5_value_50 : decode cX5_value 50 = .ok (.aload_n 0, 1) := by decide +kernel
theorem dX5_value_51 : decode cX5_value 51 = .ok (.getfield 20, 3) := by decide +kernel
theorem dX5_value_54 : decode cX5_value 54 = .ok (.iload_n 1, 1) := by decide +kernel
theorem dX5_value_55 : decode cX5_value 55 = .ok (.iconst 2, 1) := by decide +kernel
theorem dX5_value_56 : decode cX5_value 56 = .ok (.invokevirtual 105, 3) := by decide +kernel
theorem dX5_value_59 : decode cX5_value 59 = .ok (.i2l, 1) := by decide +kernel
theorem dX5_value_60 : decode cX5_value 60 = .ok (.lload_n 3, 1) := by decide +kernel
theorem dX5_value_61 : decode cX5_value 61 = .ok (.lmul, 1) := by decide +kernel
theorem dX5_value_62 : decode cX5_value 62 = .ok (.lload_n 3, 1) := by decide +kernel
theorem dX5_value_63 : decode cX5_value 63 = .ok (.lmul, 1) := by decide +kernel
theorem dX5_value_64 : decode cX5_value 64 = .ok (.ladd, 1) := by decide +kernel
theorem dX5_value_65 : decode cX5_value 65 = .ok (.lreturn, 1) := by decide +kernel
set_option maxRecDepth 20000 in
theorem ggX5_tune_X5_isPolynomial : GoodIn wsX5_tune wsX5_isPolynomial := goodIn_r _ [8, 1, 9, 10, 11, 7, 12, 71, 72, 73, 74, 75, 76, 77, 78, 79, 80, 81, 82] (by decide +kernel) (by decide +kernel)
set_option maxRecDepth 20000 in
theorem gX5_tune_X5_isPolynomial : GoodIn wsX5_tune (wsV RX5 93 RX5 yX5_isPolynomial wsX5_isPolynomial) := goodIn_app (goodIn_of _ (by decide +kernel)) ggX5_tune_X5_isPolynomial
set_option maxRecDepth 20000 in
theorem ggX5_tune_X5_isBelow : GoodIn wsX5_tune wsX5_isBelow := goodIn_r _ [12] (by decide +kernel) (by decide +kernel)
set_option maxRecDepth 20000 in
theorem gX5_tune_X5_isBelow : GoodIn wsX5_tune (va_wsS RX5 59 yX5_isBelow wsX5_isBelow) := goodIn_app (goodIn_of _ (by decide +kernel)) ggX5_tune_X5_isBelow
set_option maxRecDepth 20000 in
theorem ggX5_tune_X5_isNumber : GoodIn wsX5_tune wsX5_isNumber := goodIn_r _ [15] (by decide +kernel) (by decide +kernel)
set_option maxRecDepth 20000 in
theorem gX5_tune_X5_isNumber : GoodIn wsX5_tune (va_wsS RX5 113 yX5_isNumber wsX5_isNumber) := goodIn_app (goodIn_of _ (by decide +kernel)) ggX5_tune_X5_isNumber
set_option maxRecDepth 20000 in
theorem ggX5_tune_X0_lay : GoodIn wsX5_tune wsX0_lay := goodIn_r _ [20, 21, 22, 23, 24, 25, 26, 27, 28, 29, 30, 31, 32, 33, 34, 35, 19, 36, 37, 38, 39, 40, 41, 42, 43, 44, 45, 46, 47, 48, 49, 50, 51, 52, 53, 54, 55, 56, 57, 58, 59, 60, 61, 62, 63, 64, 65, 66, 67, 68, 69, 70, 80, 81, 82, 83, 84, 85, 86, 87, 88, 89, 90, 91, 92, 93, 94, 95, 96] (by decide +kernel) (by decide +kernel)
set_option maxRecDepth 20000 in
theorem gX5_tune_X0_lay : GoodIn wsX5_tune (wsV RX5 89 RX0 yX0_lay wsX0_lay) := goodIn_app (goodIn_of _ (by decide +kernel)) ggX5_tune_X0_lay
theorem dX5_tune_0 : decode cX5_tune 0 = .ok (.aload_n 0, 1) := by decide +kernel
theorem dX5_tune_1 : decode cX5_tune 1 = .ok (.iload_n 1, 1) := by decide +kernel
theorem dX5_tune_2 : decode cX5_tune 2 = .ok (.invokevirtual 93, 3) := by decide +kernel
theorem dX5_tune_5 : decode cX5_tune 5 = .ok (.ifCond .ne 5, 3) := by decide +kernel
theorem dX5_tune_8 : decode cX5_tune 8 = .ok (.iconst (-1), 1) := by decide +kernel
theorem dX5_tune_9 : decode cX5_tune 9 = .ok (.ireturn, 1) := by decide +kernel
theorem dX5_tune_10 : decode cX5_tune 10 = .ok (.iload_n 2, 1) := by decide +kernel
theorem dX5_tune_11 : decode cX5_tune 11 = .ok (.iconst 3, 1) := by decide +kernel
theorem dX5_tune_12 : decode cX5_tune 12 = .ok (.invokestatic 59, 3) := by decide +kernel
theorem dX5_tune_15 : decode cX5_tune 15 = .ok (.ifCond .eq 10, 3) := by decide +kernel
theorem dX5_tune_18 : decode cX5_tune 18 = .ok (.iload_n 3, 1) := by decide +kernel
theorem dX5_tune_19 : decode cX5_tune 19 = .ok (.invokestatic 113, 3) := by decide +kernel
theorem dX5_tune_22 : decode cX5_tune 22 = .ok (.ifCond .ne 6, 3) := by decide +kernel
theorem dX5_tune_25 : decode cX5_tune 25 = .ok (.bipush (-2), 2) := by decide +kernel
theorem dX5_tune_27 : decode cX5_tune 27 = .ok (.ireturn, 1) := by decide +kernel
theorem dX5_tune_28 : decode cX5_tune 28 = .ok (.aload_n 0, 1) := by decide +kernel
theorem dX5_tune_29 : decode cX5_tune 29 = .ok (.getfield 20, 3) := by decide +kernel
theorem dX5_tune_32 : decode cX5_tune 32 = .ok (.getfield 102, 3) := by decide +kernel
theorem dX5_tune_35 : decode cX5_tune 35 = .ok (.iload_n 1, 1) := by decide +kernel
theorem dX5_tune_36 : decode cX5_tune 36 = .ok (.iconst 3, 1) := by decide +kernel
theorem dX5_tune_37 : decode cX5_tune 37 = .ok (.imul, 1) := by decide +kernel
theorem dX5_tune_38 : decode cX5_tune 38 = .ok (.iload_n 2, 1) := by decide +kernel
theorem dX5_tune_39 : decode cX5_tune 39 = .ok (.iadd, 1) := by decide +kernel
theorem dX5_tune_40 : decode cX5_tune 40 = .ok (.iaload, 1) := by decide +kernel
theorem dX5_tune_41 : decode cX5_tune 41 = .ok (.istore 4, 2) := by decide +kernel
theorem dX5_tune_43 : decode cX5_tune 43 = .ok (.aload_n 0, 1) := by decide +kernel
theorem dX5_tune_44 : decode cX5_tune 44 = .ok (.getfield 20, 3) := by decide +kernel
theorem dX5_tune_47 : decode cX5_tune 47 = .ok (.getfield 102, 3) := by decide +kernel
theorem dX5_tune_50 : decode cX5_tune 50 = .ok (.iload_n 1, 1) := by decide +kernel
theorem dX5_tune_51 : decode cX5_tune 51 = .ok (.iconst 3, 1) := by decide +kernel
theorem dX5_tune_52 : decode cX5_tune 52 = .ok (.imul, 1) := by decide +kernel
theorem dX5_tune_53 : decode cX5_tune 53 = .ok (.iload_n 2, 1) := by decide +kernel
theorem dX5_tune_54 : decode cX5_tune 54 = .ok (.iadd, 1) := by decide +kernel
theorem dX5_tune_55 : decode cX5_tune 55 = .ok (.iload_n 3, 1) := by decide +kernel
theorem dX5_tune_56 : decode cX5_tune 56 = .ok (.iastore, 1) := by decide +kernel
theorem dX5_tune_57 : decode cX5_tune 57 = .ok (.aload_n 0, 1) := by decide +kernel
theorem dX5_tune_58 : decode cX5_tune 58 = .ok (.getfield 27, 3) := by decide +kernel
theorem dX5_tune_61 : decode cX5_tune 61 = .ok (.aload_n 0, 1) := by decide +kernel
theorem dX5_tune_62 : decode cX5_tune 62 = .ok (.getfield 20, 3) := by decide +kernel
theorem dX5_tune_65 : decode cX5_tune 65 = .ok (.invokevirtual 89, 3) := by decide +kernel
theorem dX5_tune_68 : decode cX5_tune 68 = .ok (.iload 4, 2) := by decide +kernel
theorem dX5_tune_70 : decode cX5_tune 70 = .ok (.bipush 9, 2) := by decide +kernel
theorem dX5_tune_72 : decode cX5_tune 72 = .ok (.iadd, 1) := by decide +kernel
theorem dX5_tune_73 : decode cX5_tune 73 = .ok (.ireturn, 1) := by decide +kernel
set_option maxRecDepth 20000 in
theorem ggX5_day_X5_isSheet : GoodIn wsX5_day wsX5_isSheet := goodIn_r _ [11, 12, 13, 10, 14] (by decide +kernel) (by decide +kernel)
set_option maxRecDepth 20000 in
theorem gX5_day_X5_isSheet : GoodIn wsX5_day (va_wsS RX5 55 yX5_isSheet wsX5_isSheet) := goodIn_app (goodIn_of _ (by decide +kernel)) ggX5_day_X5_isSheet
set_option maxRecDepth 20000 in
theorem ggX5_day_X5_isBelow : GoodIn wsX5_day wsX5_isBelow := goodIn_r _ [14] (by decide +kernel) (by decide +kernel)
set_option maxRecDepth 20000 in
theorem gX5_day_X5_isBelow : GoodIn wsX5_day (va_wsS RX5 59 yX5_isBelow wsX5_isBelow) := goodIn_app (goodIn_of _ (by decide +kernel)) ggX5_day_X5_isBelow
set_option maxRecDepth 20000 in
theorem ggX5_day_X5_isAskedOfDay : GoodIn wsX5_day wsX5_isAskedOfDay := goodIn_r _ [17] (by decide +kernel) (by decide +kernel)
set_option maxRecDepth 20000 in
theorem gX5_day_X5_isAskedOfDay : GoodIn wsX5_day (va_wsS RX5 116 yX5_isAskedOfDay wsX5_isAskedOfDay) := goodIn_app (goodIn_of _ (by decide +kernel)) ggX5_day_X5_isAskedOfDay
set_option maxRecDepth 20000 in
theorem ggX5_day_X5_faultOfCells : GoodIn wsX5_day wsX5_faultOfCells := goodIn_r _ [20, 21, 22, 23, 24, 25, 26, 27, 174, 175] (by decide +kernel) (by decide +kernel)
set_option maxRecDepth 20000 in
theorem gX5_day_X5_faultOfCells : GoodIn wsX5_day (va_wsS RX5 63 yX5_faultOfCells wsX5_faultOfCells) := goodIn_app (goodIn_of _ (by decide +kernel)) ggX5_day_X5_faultOfCells
set_option maxRecDepth 20000 in
theorem ggX5_day_X5_failed : GoodIn wsX5_day wsX5_failed := goodIn_r _ [31, 1, 162, 163, 164, 165, 166, 167, 168, 169, 170] (by decide +kernel) (by decide +kernel)
set_option maxRecDepth 20000 in
theorem gX5_day_X5_failed : GoodIn wsX5_day (wsV RX5 67 RX5 yX5_failed wsX5_failed) := goodIn_app (goodIn_of _ (by decide +kernel)) ggX5_day_X5_failed
set_option maxRecDepth 20000 in
theorem ggX5_day_X5_areActs : GoodIn wsX5_day wsX5_areActs := goodIn_r _ [34, 12, 13, 10, 14, 35, 36, 37] (by decide +kernel) (by decide +kernel)
set_option maxRecDepth 20000 in
theorem gX5_day_X5_areActs : GoodIn wsX5_day (va_wsS RX5 119 yX5_areActs wsX5_areActs) := goodIn_app (goodIn_of _ (by decide +kernel)) ggX5_day_X5_areActs
set_option maxRecDepth 20000 in
theorem ggX5_day_X5_firstWrong : GoodIn wsX5_day wsX5_firstWrong := goodIn_r _ [41, 42, 43, 44, 10, 45, 2, 3, 12, 13, 14, 162, 163, 164, 165, 166, 167, 168, 169, 170, 171, 172, 173] (by decide +kernel) (by decide +kernel)
set_option maxRecDepth 20000 in
theorem gX5_day_X5_firstWrong : GoodIn wsX5_day (wsV RX5 123 RX5 yX5_firstWrong wsX5_firstWrong) := goodIn_app (goodIn_of _ (by decide +kernel)) ggX5_day_X5_firstWrong
set_option maxRecDepth 20000 in
theorem ggX5_day_X5_tellDay : GoodIn wsX5_day wsX5_tellDay := goodIn_r _ [49, 7, 2, 50, 51, 52, 53, 54, 55, 56, 57, 58, 59, 60, 61, 62, 162, 163, 164, 165, 166, 167, 168, 169, 170, 171, 172, 173] (by decide +kernel) (by decide +kernel)
set_option maxRecDepth 20000 in
theorem gX5_day_X5_tellDay : GoodIn wsX5_day (wsV RX5 126 RX5 yX5_tellDay wsX5_tellDay) := goodIn_app (goodIn_of _ (by decide +kernel)) ggX5_day_X5_tellDay
set_option maxRecDepth 20000 in
theorem ggX5_day_X0_lay : GoodIn wsX5_day wsX0_lay := goodIn_r _ [67, 68, 69, 70, 71, 72, 73, 74, 75, 54, 76, 62, 57, 77, 78, 79, 66, 80, 81, 82, 83, 84, 85, 86, 87, 88, 89, 90, 91, 92, 93, 94, 95, 96, 97, 98, 99, 100, 101, 102, 103, 104, 105, 106, 107, 108, 109, 110, 111, 112, 113, 114, 171, 172, 173, 176, 177, 178, 179, 180, 181, 182, 183, 184, 185, 186, 187, 188, 189] (by decide +kernel) (by decide +kernel)
set_option maxRecDepth 20000 in
theorem gX5_day_X0_lay : GoodIn wsX5_day (wsV RX5 89 RX0 yX0_lay wsX0_lay) := goodIn_app (goodIn_of _ (by decide +kernel)) ggX5_day_X0_lay
set_option maxRecDepth 20000 in
theorem ggX5_day_X5_ofDay : GoodIn wsX5_day wsX5_ofDay := goodIn_r _ [118, 6, 119, 120, 121, 122, 123, 124, 66, 125, 126, 127, 128, 129, 130, 131, 132, 133, 70, 134, 135, 136, 137, 69, 138, 139, 140, 141, 93, 142, 143, 144, 145, 71, 99, 100, 101, 102, 103, 104, 105, 106, 85, 87, 88, 86, 107, 108, 109, 110, 111, 112, 113, 114, 146, 147, 148, 149, 150, 151, 152, 153, 154, 155, 156, 157, 158, 159, 160, 161, 72, 42, 43, 44, 10, 45, 2, 3, 12, 13, 14, 162, 163, 164, 165, 166, 167, 168, 169, 170, 176, 177, 178, 179, 180, 181, 182, 183, 184, 185, 186, 187, 188, 189, 171, 172, 173] (by decide +kernel) (by decide +kernel)
set_option maxRecDepth 20000 in
theorem gX5_day_X5_ofDay : GoodIn wsX5_day (wsV RX5 130 RX5 yX5_ofDay wsX5_ofDay) := goodIn_app (goodIn_of _ (by decide +kernel)) ggX5_day_X5_ofDay
theorem dX5_day_0 : decode cX5_day 0 = .ok (.aload_n 0, 1) := by decide +kernel
theorem dX5_day_1 : decode cX5_day 1 = .ok (.iconst 0, 1) := by decide +kernel
theorem dX5_day_2 : decode cX5_day 2 = .ok (.putfield 51, 3) := by decide +kernel
theorem dX5_day_5 : decode cX5_day 5 = .ok (.iload_n 1, 1) := by decide +kernel
theorem dX5_day_6 : decode cX5_day 6 = .ok (.invokestatic 55, 3) := by decide +kernel
theorem dX5_day_9 : decode cX5_day 9 = .ok (.ifCond .ne 5, 3) := by decide +kernel
theorem dX5_day_12 : decode cX5_day 12 = .ok (.iconst (-1), 1) := by decide +kernel
theorem dX5_day_13 : decode cX5_day 13 = .ok (.ireturn, 1) := by decide +kernel
theorem dX5_day_14 : decode cX5_day 14 = .ok (.iload_n 2, 1) := by decide +kernel
theorem dX5_day_15 : decode cX5_day 15 = .ok (.iconst 3, 1) := by decide +kernel
theorem dX5_day_16 : decode cX5_day 16 = .ok (.invokestatic 59, 3) := by decide +kernel
theorem dX5_day_19 : decode cX5_day 19 = .ok (.ifCond .eq 23, 3) := by decide +kernel
theorem dX5_day_22 : decode cX5_day 22 = .ok (.iload 4, 2) := by decide +kernel
theorem dX5_day_24 : decode cX5_day 24 = .ok (.ifCond .lt 18, 3) := by decide +kernel
theorem dX5_day_27 : decode cX5_day 27 = .ok (.iload 4, 2) := by decide +kernel
theorem dX5_day_29 : decode cX5_day 29 = .ok (.bipush 20, 2) := by decide +kernel
theorem dX5_day_31 : decode cX5_day 31 = .ok (.if_icmp .gt 11, 3) := by decide +kernel
theorem dX5_day_34 : decode cX5_day 34 = .ok (.iload 5, 2) := by decide +kernel
theorem dX5_day_36 : decode cX5_day 36 = .ok (.invokestatic 116, 3) := by decide +kernel
theorem dX5_day_39 : decode cX5_day 39 = .ok (.ifCond .ne 6, 3) := by decide +kernel
theorem dX5_day_42 : decode cX5_day 42 = .ok (.bipush (-2), 2) := by decide +kernel
theorem dX5_day_44 : decode cX5_day 44 = .ok (.ireturn, 1) := by decide +kernel
theorem dX5_day_45 : decode cX5_day 45 = .ok (.aload_n 0, 1) := by decide +kernel
theorem dX5_day_46 : decode cX5_day 46 = .ok (.getfield 20, 3) := by decide +kernel
theorem dX5_day_49 : decode cX5_day 49 = .ok (.getfield 92, 3) := by decide +kernel
theorem dX5_day_52 : decode cX5_day 52 = .ok (.ifCond .ne 6, 3) := by decide +kernel
theorem dX5_day_55 : decode cX5_day 55 = .ok (.bipush (-3), 2) := by decide +kernel
theorem dX5_day_57 : decode cX5_day 57 = .ok (.ireturn, 1) := by decide +kernel
theorem dX5_day_58 : decode cX5_day 58 = .ok (.aload_n 0, 1) := by decide +kernel
theorem dX5_day_59 : decode cX5_day 59 = .ok (.getfield 13, 3) := by decide +kernel
theorem dX5_day_62 : decode cX5_day 62 = .ok (.iload_n 1, 1) := by decide +kernel
theorem dX5_day_63 : decode cX5_day 63 = .ok (.aaload, 1) := by decide +kernel
theorem dX5_day_64 : decode cX5_day 64 = .ok (.astore 6, 2) := by decide +kernel
theorem dX5_day_66 : decode cX5_day 66 = .ok (.aload 6, 2) := by decide +kernel
theorem dX5_day_68 : decode cX5_day 68 = .ok (.iload_n 2, 1) := by decide +kernel
theorem dX5_day_69 : decode cX5_day 69 = .ok (.iload_n 3, 1) := by decide +kernel
theorem dX5_day_70 : decode cX5_day 70 = .ok (.iload 4, 2) := by decide +kernel
theorem dX5_day_72 : decode cX5_day 72 = .ok (.iconst 3, 1) := by decide +kernel
theorem dX5_day_73 : decode cX5_day 73 = .ok (.imul, 1) := by decide +kernel
theorem dX5_day_74 : decode cX5_day 74 = .ok (.invokestatic 63, 3) := by decide +kernel
theorem dX5_day_77 : decode cX5_day 77 = .ok (.istore 7, 2) := by decide +kernel
theorem dX5_day_79 : decode cX5_day 79 = .ok (.iload 7, 2) := by decide +kernel
theorem dX5_day_81 : decode cX5_day 81 = .ok (.ifCond .eq 10, 3) := by decide +kernel
theorem dX5_day_84 : decode cX5_day 84 = .ok (.aload_n 0, 1) := by decide +kernel
theorem dX5_day_85 : decode cX5_day 85 = .ok (.iload 7, 2) := by decide +kernel
theorem dX5_day_87 : decode cX5_day 87 = .ok (.invokevirtual 67, 3) := by decide +kernel
theorem dX5_day_90 : decode cX5_day 90 = .ok (.ireturn, 1) := by decide +kernel
theorem dX5_day_91 : decode cX5_day 91 = .ok (.aload 6, 2) := by decide +kernel
theorem dX5_day_93 : decode cX5_day 93 = .ok (.getfield 71, 3) := by decide +kernel
theorem dX5_day_96 : decode cX5_day 96 = .ok (.astore 8, 2) := by decide +kernel
theorem dX5_day_98 : decode cX5_day 98 = .ok (.aload 8, 2) := by decide +kernel
theorem dX5_day_100 : decode cX5_day 100 = .ok (.iload_n 3, 1) := by decide +kernel
theorem dX5_day_101 : decode cX5_day 101 = .ok (.iload 4, 2) := by decide +kernel
theorem dX5_day_103 : decode cX5_day 103 = .ok (.invokestatic 119, 3) := by decide +kernel
theorem dX5_day_106 : decode cX5_day 106 = .ok (.ifCond .ne 6, 3) := by decide +kernel
theorem dX5_day_109 : decode cX5_day 109 = .ok (.bipush (-2), 2) := by decide +kernel
theorem dX5_day_111 : decode cX5_day 111 = .ok (.ireturn, 1) := by decide +kernel
theorem dX5_day_112 : decode cX5_day 112 = .ok (.aload_n 0, 1) := by decide +kernel
theorem dX5_day_113 : decode cX5_day 113 = .ok (.aload 8, 2) := by decide +kernel
theorem dX5_day_115 : decode cX5_day 115 = .ok (.iload_n 3, 1) := by decide +kernel
theorem dX5_day_116 : decode cX5_day 116 = .ok (.iload 4, 2) := by decide +kernel
theorem dX5_day_118 : decode cX5_day 118 = .ok (.invokevirtual 123, 3) := by decide +kernel
theorem dX5_day_121 : decode cX5_day 121 = .ok (.istore 9, 2) := by decide +kernel
theorem dX5_day_123 : decode cX5_day 123 = .ok (.iload 5, 2) := by decide +kernel
theorem dX5_day_125 : decode cX5_day 125 = .ok (.iconst 1, 1) := by decide +kernel
theorem dX5_day_126 : decode cX5_day 126 = .ok (.if_icmp .ne 6, 3) := by decide +kernel
theorem dX5_day_129 : decode cX5_day 129 = .ok (.iload 9, 2) := by decide +kernel
theorem dX5_day_131 : decode cX5_day 131 = .ok (.ireturn, 1) := by decide +kernel
theorem dX5_day_132 : decode cX5_day 132 = .ok (.iload 9, 2) := by decide +kernel
theorem dX5_day_134 : decode cX5_day 134 = .ok (.bipush (-9), 2) := by decide +kernel
theorem dX5_day_136 : decode cX5_day 136 = .ok (.if_icmp .eq 9, 3) := by decide +kernel
theorem dX5_day_139 : decode cX5_day 139 = .ok (.bipush (-100), 2) := by decide +kernel
theorem dX5_day_141 : decode cX5_day 141 = .ok (.iload 9, 2) := by decide +kernel
theorem dX5_day_143 : decode cX5_day 143 = .ok (.isub, 1) := by decide +kernel
theorem dX5_day_144 : decode cX5_day 144 = .ok (.ireturn, 1) := by decide +kernel
theorem dX5_day_145 : decode cX5_day 145 = .ok (.aload_n 0, 1) := by decide +kernel
theorem dX5_day_146 : decode cX5_day 146 = .ok (.aload 8, 2) := by decide +kernel
theorem dX5_day_148 : decode cX5_day 148 = .ok (.iload_n 3, 1) := by decide +kernel
theorem dX5_day_149 : decode cX5_day 149 = .ok (.iload 4, 2) := by decide +kernel
theorem dX5_day_151 : decode cX5_day 151 = .ok (.invokevirtual 126, 3) := by decide +kernel
theorem dX5_day_154 : decode cX5_day 154 = .ok (.aload_n 0, 1) := by decide +kernel
theorem dX5_day_155 : decode cX5_day 155 = .ok (.getfield 34, 3) := by decide +kernel
theorem dX5_day_158 : decode cX5_day 158 = .ok (.aload_n 0, 1) := by decide +kernel
theorem dX5_day_159 : decode cX5_day 159 = .ok (.getfield 31, 3) := by decide +kernel
theorem dX5_day_162 : decode cX5_day 162 = .ok (.invokevirtual 89, 3) := by decide +kernel
theorem dX5_day_165 : decode cX5_day 165 = .ok (.aload_n 0, 1) := by decide +kernel
theorem dX5_day_166 : decode cX5_day 166 = .ok (.iload 5, 2) := by decide +kernel
theorem dX5_day_168 : decode cX5_day 168 = .ok (.invokevirtual 130, 3) := by decide +kernel
theorem dX5_day_171 : decode cX5_day 171 = .ok (.ireturn, 1) := by decide +kernel
theorem dX5_isAskedOfDay_0 : decode cX5_isAskedOfDay 0 = .ok (.iload_n 0, 1) := by decide +kernel
theorem dX5_isAskedOfDay_1 : decode cX5_isAskedOfDay 1 = .ok (.ifCond .lt 8, 3) := by decide +kernel
theorem dX5_isAskedOfDay_4 : decode cX5_isAskedOfDay 4 = .ok (.iload_n 0, 1) := by decide +kernel
theorem dX5_isAskedOfDay_5 : decode cX5_isAskedOfDay 5 = .ok (.iconst 4, 1) := by decide +kernel
theorem dX5_isAskedOfDay_6 : decode cX5_isAskedOfDay 6 = .ok (.if_icmp .le 15, 3) := by decide +kernel
theorem dX5_isAskedOfDay_9 : decode cX5_isAskedOfDay 9 = .ok (.iload_n 0, 1) := by decide +kernel
theorem dX5_isAskedOfDay_10 : decode cX5_isAskedOfDay 10 = .ok (.bipush 10, 2) := by decide +kernel
theorem dX5_isAskedOfDay_12 : decode cX5_isAskedOfDay 12 = .ok (.if_icmp .lt 13, 3) := by decide +kernel
theorem dX5_isAskedOfDay_15 : decode cX5_isAskedOfDay 15 = .ok (.iload_n 0, 1) := by decide +kernel
theorem dX5_isAskedOfDay_16 : decode cX5_isAskedOfDay 16 = .ok (.bipush 14, 2) := by decide +kernel
theorem dX5_isAskedOfDay_18 : decode cX5_isAskedOfDay 18 = .ok (.if_icmp .ge 7, 3) := by decide +kernel
theorem dX5_isAskedOfDay_21 : decode cX5_isAskedOfDay 21 = .ok (.iconst 1, 1) := by decide +kernel
theorem dX5_isAskedOfDay_22 : decode cX5_isAskedOfDay 22 = .ok (.goto 4, 3) := by decide +kernel
theorem dX5_isAskedOfDay_25 : decode cX5_isAskedOfDay 25 = .ok (.iconst 0, 1) := by decide +kernel
theorem dX5_isAskedOfDay_26 : decode cX5_isAskedOfDay 26 = .ok (.ireturn, 1) := by decide +kernel
set_option maxRecDepth 20000 in
theorem ggX5_areActs_X5_isBelow : GoodIn wsX5_areActs wsX5_isBelow := goodIn_r _ [4] (by decide +kernel) (by decide +kernel)
set_option maxRecDepth 20000 in
theorem gX5_areActs_X5_isBelow : GoodIn wsX5_areActs (va_wsS RX5 59 yX5_isBelow wsX5_isBelow) := goodIn_app (goodIn_of _ (by decide +kernel)) ggX5_areActs_X5_isBelow
set_option maxRecDepth 20000 in
theorem ggX5_areActs_X5_isNumber : GoodIn wsX5_areActs wsX5_isNumber := goodIn_r _ [7] (by decide +kernel) (by decide +kernel)
set_option maxRecDepth 20000 in
theorem gX5_areActs_X5_isNumber : GoodIn wsX5_areActs (va_wsS RX5 113 yX5_isNumber wsX5_isNumber) := goodIn_app (goodIn_of _ (by decide +kernel)) ggX5_areActs_X5_isNumber
theorem dX5_areActs_0 : decode cX5_areActs 0 = .ok (.iconst 0, 1) := by decide +kernel
theorem dX5_areActs_1 : decode cX5_areActs 1 = .ok (.istore_n 3, 1) := by decide +kernel
theorem dX5_areActs_2 : decode cX5_areActs 2 = .ok (.iload_n 3, 1) := by decide +kernel
theorem dX5_areActs_3 : decode cX5_areActs 3 = .ok (.iload_n 2, 1) := by decide +kernel
theorem dX5_areActs_4 : decode cX5_areActs 4 = .ok (.if_icmp .ge 43, 3) := by decide +kernel
theorem dX5_areActs_7 : decode cX5_areActs 7 = .ok (.iload_n 1, 1) := by decide +kernel
theorem dX5_areActs_8 : decode cX5_areActs 8 = .ok (.iload_n 3, 1) := by decide +kernel
theorem dX5_areActs_9 : decode cX5_areActs 9 = .ok (.iconst 3, 1) := by decide +kernel
theorem dX5_areActs_10 : decode cX5_areActs 10 = .ok (.imul, 1) := by decide +kernel
theorem dX5_areActs_11 : decode cX5_areActs 11 = .ok (.iadd, 1) := by decide +kernel
theorem dX5_areActs_12 : decode cX5_areActs 12 = .ok (.istore 4, 2) := by decide +kernel
theorem dX5_areActs_14 : decode cX5_areActs 14 = .ok (.aload_n 0, 1) := by decide +kernel
theorem dX5_areActs_15 : decode cX5_areActs 15 = .ok (.iload 4, 2) := by decide +kernel
theorem dX5_areActs_17 : decode cX5_areActs 17 = .ok (.iconst 1, 1) := by decide +kernel
theorem dX5_areActs_18 : decode cX5_areActs 18 = .ok (.iadd, 1) := by decide +kernel
theorem dX5_areActs_19 : decode cX5_areActs 19 = .ok (.iaload, 1) := by decide +kernel
theorem dX5_areActs_20 : decode cX5_areActs 20 = .ok (.iconst 3, 1) := by decide +kernel
theorem dX5_areActs_21 : decode cX5_areActs 21 = .ok (.invokestatic 59, 3) := by decide +kernel
theorem dX5_areActs_24 : decode cX5_areActs 24 = .ok (.ifCond .eq 15, 3) := by decide +kernel
theorem dX5_areActs_27 : decode cX5_areActs 27 = .ok (.aload_n 0, 1) := by decide +kernel
theorem dX5_areActs_28 : decode cX5_areActs 28 = .ok (.iload 4, 2) := by decide +kernel
theorem dX5_areActs_30 : decode cX5_areActs 30 = .ok (.iconst 2, 1) := by decide +kernel
theorem dX5_areActs_31 : decode cX5_areActs 31 = .ok (.iadd, 1) := by decide +kernel
theorem dX5_areActs_32 : decode cX5_areActs 32 = .ok (.iaload, 1) := by decide +kernel
theorem dX5_areActs_33 : decode cX5_areActs 33 = .ok (.invokestatic 113, 3) := by decide +kernel
theorem dX5_areActs_36 : decode cX5_areActs 36 = .ok (.ifCond .ne 5, 3) := by decide +kernel
theorem dX5_areActs_39 : decode cX5_areActs 39 = .ok (.iconst 0, 1) := by decide +kernel
theorem dX5_areActs_40 : decode cX5_areActs 40 = .ok (.ireturn, 1) := by decide +kernel
theorem dX5_areActs_41 : decode cX5_areActs 41 = .ok (.iinc 3 1, 3) := by decide +kernel
theorem dX5_areActs_44 : decode cX5_areActs 44 = .ok (.goto (-42), 3) := by decide +kernel
theorem dX5_areActs_47 : decode cX5_areActs 47 = .ok (.iconst 1, 1) := by decide +kernel
theorem dX5_areActs_48 : decode cX5_areActs 48 = .ok (.ireturn, 1) := by decide +kernel
set_option maxRecDepth 20000 in
theorem ggX5_firstWrong_X5_isPolynomial : GoodIn wsX5_firstWrong wsX5_isPolynomial := goodIn_r _ [5, 6, 7, 8, 9, 4, 10, 11, 12, 13, 14, 15, 16, 17, 18, 19, 20, 21, 22] (by decide +kernel) (by decide +kernel)
set_option maxRecDepth 20000 in
theorem gX5_firstWrong_X5_isPolynomial : GoodIn wsX5_firstWrong (wsV RX5 93 RX5 yX5_isPolynomial wsX5_isPolynomial) := goodIn_app (goodIn_of _ (by decide +kernel)) ggX5_firstWrong_X5_isPolynomial
theorem dX5_firstWrong_0 : decode cX5_firstWrong 0 = .ok (.iconst 0, 1) := by decide +kernel
theorem dX5_firstWrong_1 : decode cX5_firstWrong 1 = .ok (.istore 4, 2) := by decide +kernel
theorem dX5_firstWrong_3 : decode cX5_firstWrong 3 = .ok (.iload 4, 2) := by decide +kernel
theorem dX5_firstWrong_5 : decode cX5_firstWrong 5 = .ok (.iload_n 3, 1) := by decide +kernel
theorem dX5_firstWrong_6 : decode cX5_firstWrong 6 = .ok (.if_icmp .ge 27, 3) := by decide +kernel
theorem dX5_firstWrong_9 : decode cX5_firstWrong 9 = .ok (.aload_n 0, 1) := by decide +kernel
theorem dX5_firstWrong_10 : decode cX5_firstWrong 10 = .ok (.aload_n 1, 1) := by decide +kernel
theorem dX5_firstWrong_11 : decode cX5_firstWrong 11 = .ok (.iload_n 2, 1) := by decide +kernel
theorem dX5_firstWrong_12 : decode cX5_firstWrong 12 = .ok (.iload 4, 2) := by decide +kernel
theorem dX5_firstWrong_14 : decode cX5_firstWrong 14 = .ok (.iconst 3, 1) := by decide +kernel
theorem dX5_firstWrong_15 : decode cX5_firstWrong 15 = .ok (.imul, 1) := by decide +kernel
theorem dX5_firstWrong_16 : decode cX5_firstWrong 16 = .ok (.iadd, 1) := by decide +kernel
theorem dX5_firstWrong_17 : decode cX5_firstWrong 17 = .ok (.iaload, 1) := by decide +kernel
theorem dX5_firstWrong_18 : decode cX5_firstWrong 18 = .ok (.invokevirtual 93, 3) := by decide +kernel
theorem dX5_firstWrong_21 : decode cX5_firstWrong 21 = .ok (.ifCond .ne 6, 3) := by decide +kernel
theorem dX5_firstWrong_24 : decode cX5_firstWrong 24 = .ok (.iload 4, 2) := by decide +kernel
theorem dX5_firstWrong_26 : decode cX5_firstWrong 26 = .ok (.ireturn, 1) := by decide +kernel
theorem dX5_firstWrong_27 : decode cX5_firstWrong 27 = .ok (.iinc 4 1, 3) := by decide +kernel
theorem dX5_firstWrong_30 : decode cX5_firstWrong 30 = .ok (.goto (-27), 3) := by decide +kernel
theorem dX5_firstWrong_33 : decode cX5_firstWrong 33 = .ok (.bipush (-9), 2) := by decide +kernel
theorem dX5_firstWrong_35 : decode cX5_firstWrong 35 = .ok (.ireturn, 1) := by decide +kernel
set_option maxRecDepth 20000 in
theorem ggX5_tellDay_X4_become : GoodIn wsX5_tellDay wsX4_become := goodIn_r _ [8, 9, 10, 11, 12, 13, 14, 15, 25, 26, 27] (by decide +kernel) (by decide +kernel)
set_option maxRecDepth 20000 in
theorem gX5_tellDay_X4_become : GoodIn wsX5_tellDay (wsV RX5 82 RX4 yX4_become wsX4_become) := goodIn_app (goodIn_of _ (by decide +kernel)) ggX5_tellDay_X4_become
theorem dX5_tellDay_0 : decode cX5_tellDay 0 = .ok (.aload_n 0, 1) := by decide +kernel
theorem dX5_tellDay_1 : decode cX5_tellDay 1 = .ok (.getfield 31, 3) := by decide +kernel
theorem dX5_tellDay_4 : decode cX5_tellDay 4 = .ok (.aload_n 0, 1) := by decide +kernel
theorem dX5_tellDay_5 : decode cX5_tellDay 5 = .ok (.getfield 20, 3) := by decide +kernel
theorem dX5_tellDay_8 : decode cX5_tellDay 8 = .ok (.invokevirtual 82, 3) := by decide +kernel
theorem dX5_tellDay_11 : decode cX5_tellDay 11 = .ok (.iconst 0, 1) := by decide +kernel
theorem dX5_tellDay_12 : decode cX5_tellDay 12 = .ok (.istore 4, 2) := by decide +kernel
theorem dX5_tellDay_14 : decode cX5_tellDay 14 = .ok (.iload 4, 2) := by decide +kernel
theorem dX5_tellDay_16 : decode cX5_tellDay 16 = .ok (.iload_n 3, 1) := by decide +kernel
theorem dX5_tellDay_17 : decode cX5_tellDay 17 = .ok (.if_icmp .ge 44, 3) := by decide +kernel
theorem dX5_tellDay_20 : decode cX5_tellDay 20 = .ok (.iload_n 2, 1) := by decide +kernel
theorem dX5_tellDay_21 : decode cX5_tellDay 21 = .ok (.iload 4, 2) := by decide +kernel
theorem dX5_tellDay_23 : decode cX5_tellDay 23 = .ok (.iconst 3, 1) := by decide +kernel
theorem dX5_tellDay_24 : decode cX5_tellDay 24 = .ok (.imul, 1) := by decide +kernel
theorem dX5_tellDay_25 : decode cX5_tellDay 25 = .ok (.iadd, 1) := by decide +kernel
theorem dX5_tellDay_26 : decode cX5_tellDay 26 = .ok (.istore 5, 2) := by decide +kernel
theorem dX5_tellDay_28 : decode cX5_tellDay 28 = .ok (.aload_n 0, 1) := by decide +kernel
theorem dX5_tellDay_29 : decode cX5_tellDay 29 = .ok (.getfield 31, 3) := by decide +kernel
theorem dX5_tellDay_32 : decode cX5_tellDay 32 = .ok (.getfield 102, 3) := by decide +kernel
theorem dX5_tellDay_35 : decode cX5_tellDay 35 = .ok (.aload_n 1, 1) := by decide +kernel
theorem dX5_tellDay_36 : decode cX5_tellDay 36 = .ok (.iload 5, 2) := by decide +kernel
theorem dX5_tellDay_38 : decode cX5_tellDay 38 = .ok (.iaload, 1) := by decide +kernel
theorem dX5_tellDay_39 : decode cX5_tellDay 39 = .ok (.iconst 3, 1) := by decide +kernel
theorem dX5_tellDay_40 : decode cX5_tellDay 40 = .ok (.imul, 1) := by decide +kernel
theorem dX5_tellDay_41 : decode cX5_tellDay 41 = .ok (.aload_n 1, 1) := by decide +kernel
theorem dX5_tellDay_42 : decode cX5_tellDay 42 = .ok (.iload 5, 2) := by decide +kernel
theorem dX5_tellDay_44 : decode cX5_tellDay 44 = .ok (.iconst 1, 1) := by decide +kernel
theorem dX5_tellDay_45 : decode cX5_tellDay 45 = .ok (.iadd, 1) := by decide +kernel
theorem dX5_tellDay_46 : decode cX5_tellDay 46 = .ok (.iaload, 1) := by decide +kernel
theorem dX5_tellDay_47 : decode cX5_tellDay 47 = .ok (.iadd, 1) := by decide +kernel
theorem dX5_tellDay_48 : decode cX5_tellDay 48 = .ok (.aload_n 1, 1) := by decide +kernel
theorem dX5_tellDay_49 : decode cX5_tellDay 49 = .ok (.iload 5, 2) := by decide +kernel
theorem dX5_tellDay_51 : decode cX5_tellDay 51 = .ok (.iconst 2, 1) := by decide +kernel
theorem dX5_tellDay_52 : decode cX5_tellDay 52 = .ok (.iadd, 1) := by decide +kernel
theorem dX5_tellDay_53 : decode cX5_tellDay 53 = .ok (.iaload, 1) := by decide +kernel
theorem dX5_tellDay_54 : decode cX5_tellDay 54 = .ok (.iastore, 1) := by decide +kernel
theorem dX5_tellDay_55 : decode cX5_tellDay 55 = .ok (.iinc 4 1, 3) := by decide +kernel
theorem dX5_tellDay_58 : decode cX5_tellDay 58 = .ok (.goto (-44), 3) := by decide +kernel
theorem dX5_tellDay_61 : decode cX5_tellDay 61 = .ok (.return_, 1) := by decide +kernel
set_option maxRecDepth 20000 in
theorem ggX5_ofDay_X0_gatherRows : GoodIn wsX5_ofDay wsX0_gatherRows := goodIn_r _ [9, 10, 11, 12, 13, 14, 15, 16, 8, 17, 18, 19, 20, 21, 22, 23, 24, 25, 26, 27, 28, 29, 30, 31, 32, 33, 34, 35, 36, 37, 38, 39, 40, 41, 42, 43, 44, 45, 46, 47, 48, 49, 50, 51, 52, 53, 54, 55, 56, 57, 90, 91, 92, 93, 94, 95, 96, 97, 98, 99, 100, 101, 102, 103] (by decide +kernel) (by decide +kernel)
set_option maxRecDepth 20000 in
theorem gX5_ofDay_X0_gatherRows : GoodIn wsX5_ofDay (wsV RX5 136 RX0 yX0_gatherRows wsX0_gatherRows) := goodIn_app (goodIn_of _ (by decide +kernel)) ggX5_ofDay_X0_gatherRows
set_option maxRecDepth 20000 in
theorem ggX5_ofDay_X0_spotsAllAbove : GoodIn wsX5_ofDay wsX0_spotsAllAbove := goodIn_r _ [61, 14, 15, 16, 8, 17, 18, 62, 63, 64, 65, 23, 24, 25, 26, 27, 28, 29, 30, 31, 32, 33, 34, 35, 36, 37, 38, 39, 40, 41, 42, 43, 44, 45, 46, 47, 48, 49, 50, 51, 52, 53, 90, 91, 92, 93, 94, 95, 96, 97, 98, 99, 100, 101, 102, 103] (by decide +kernel) (by decide +kernel)
set_option maxRecDepth 20000 in
theorem gX5_ofDay_X0_spotsAllAbove : GoodIn wsX5_ofDay (wsV RX5 142 RX0 yX0_spotsAllAbove wsX0_spotsAllAbove) := goodIn_app (goodIn_of _ (by decide +kernel)) ggX5_ofDay_X0_spotsAllAbove
set_option maxRecDepth 20000 in
theorem ggX5_ofDay_X0_rootless : GoodIn wsX5_ofDay wsX0_rootless := goodIn_r _ [69, 23, 70, 90, 91, 92, 93, 94, 95, 96, 97, 98, 99, 100, 101, 102, 103] (by decide +kernel) (by decide +kernel)
set_option maxRecDepth 20000 in
theorem gX5_ofDay_X0_rootless : GoodIn wsX5_ofDay (wsV RX5 146 RX0 yX0_rootless wsX0_rootless) := goodIn_app (goodIn_of _ (by decide +kernel)) ggX5_ofDay_X0_rootless
set_option maxRecDepth 20000 in
theorem ggX5_ofDay_X5_isPolynomial : GoodIn wsX5_ofDay wsX5_isPolynomial := goodIn_r _ [75, 76, 77, 78, 79, 74, 80, 81, 82, 83, 84, 85, 86, 87, 88, 89, 104, 105, 106] (by decide +kernel) (by decide +kernel)
set_option maxRecDepth 20000 in
theorem gX5_ofDay_X5_isPolynomial : GoodIn wsX5_ofDay (wsV RX5 93 RX5 yX5_isPolynomial wsX5_isPolynomial) := goodIn_app (goodIn_of _ (by decide +kernel)) ggX5_ofDay_X5_isPolynomial
theorem dX5_ofDay_0 : decode cX5_ofDay 0 = .ok (.iload_n 1, 1) := by decide +kernel
theorem dX5_ofDay_1 : decode cX5_ofDay 1 = .ok (.tableswitch 74 0 4 #[35, 74, 43, 58, 66], 35) := by decide +kernel
theorem dX5_ofDay_36 : decode cX5_ofDay 36 = .ok (.aload_n 0, 1) := by decide +kernel
theorem dX5_ofDay_37 : decode cX5_ofDay 37 = .ok (.getfield 34, 3) := by decide +kernel
theorem dX5_ofDay_40 : decode cX5_ofDay 40 = .ok (.getfield 133, 3) := by decide +kernel
theorem dX5_ofDay_43 : decode cX5_ofDay 43 = .ok (.ireturn, 1) := by decide +kernel
theorem dX5_ofDay_44 : decode cX5_ofDay 44 = .ok (.aload_n 0, 1) := by decide +kernel
theorem dX5_ofDay_45 : decode cX5_ofDay 45 = .ok (.getfield 34, 3) := by decide +kernel
theorem dX5_ofDay_48 : decode cX5_ofDay 48 = .ok (.invokevirtual 136, 3) := by decide +kernel
theorem dX5_ofDay_51 : decode cX5_ofDay 51 = .ok (.aload_n 0, 1) := by decide +kernel
theorem dX5_ofDay_52 : decode cX5_ofDay 52 = .ok (.getfield 34, 3) := by decide +kernel
theorem dX5_ofDay_55 : decode cX5_ofDay 55 = .ok (.getfield 139, 3) := by decide +kernel
theorem dX5_ofDay_58 : decode cX5_ofDay 58 = .ok (.ireturn, 1) := by decide +kernel
theorem dX5_ofDay_59 : decode cX5_ofDay 59 = .ok (.aload_n 0, 1) := by decide +kernel
theorem dX5_ofDay_60 : decode cX5_ofDay 60 = .ok (.getfield 34, 3) := by decide +kernel
theorem dX5_ofDay_63 : decode cX5_ofDay 63 = .ok (.invokevirtual 142, 3) := by decide +kernel
theorem dX5_ofDay_66 : decode cX5_ofDay 66 = .ok (.ireturn, 1) := by decide +kernel
theorem dX5_ofDay_67 : decode cX5_ofDay 67 = .ok (.aload_n 0, 1) := by decide +kernel
theorem dX5_ofDay_68 : decode cX5_ofDay 68 = .ok (.getfield 34, 3) := by decide +kernel
theorem dX5_ofDay_71 : decode cX5_ofDay 71 = .ok (.invokevirtual 146, 3) := by decide +kernel
theorem dX5_ofDay_74 : decode cX5_ofDay 74 = .ok (.ireturn, 1) := by decide +kernel
theorem dX5_ofDay_75 : decode cX5_ofDay 75 = .ok (.aload_n 0, 1) := by decide +kernel
theorem dX5_ofDay_76 : decode cX5_ofDay 76 = .ok (.iload_n 1, 1) := by decide +kernel
theorem dX5_ofDay_77 : decode cX5_ofDay 77 = .ok (.bipush 10, 2) := by decide +kernel
theorem dX5_ofDay_79 : decode cX5_ofDay 79 = .ok (.isub, 1) := by decide +kernel
theorem dX5_ofDay_80 : decode cX5_ofDay 80 = .ok (.invokevirtual 93, 3) := by decide +kernel
theorem dX5_ofDay_83 : decode cX5_ofDay 83 = .ok (.ifCond .eq 18, 3) := by decide +kernel
theorem dX5_ofDay_86 : decode cX5_ofDay 86 = .ok (.aload_n 0, 1) := by decide +kernel
theorem dX5_ofDay_87 : decode cX5_ofDay 87 = .ok (.getfield 34, 3) := by decide +kernel
theorem dX5_ofDay_90 : decode cX5_ofDay 90 = .ok (.getfield 99, 3) := by decide +kernel
theorem dX5_ofDay_93 : decode cX5_ofDay 93 = .ok (.iload_n 1, 1) := by decide +kernel
theorem dX5_ofDay_94 : decode cX5_ofDay 94 = .ok (.bipush 10, 2) := by decide +kernel
theorem dX5_ofDay_96 : decode cX5_ofDay 96 = .ok (.isub, 1) := by decide +kernel
theorem dX5_ofDay_97 : decode cX5_ofDay 97 = .ok (.iaload, 1) := by decide +kernel
theorem dX5_ofDay_98 : decode cX5_ofDay 98 = .ok (.goto 5, 3) := by decide +kernel
theorem dX5_ofDay_101 : decode cX5_ofDay 101 = .ok (.bipush (-9), 2) := by decide +kernel
theorem dX5_ofDay_103 : decode cX5_ofDay 103 = .ok (.ireturn, 1) := by decide +kernel
set_option maxRecDepth 20000 in
theorem ggX5_called_X5_isRoot : GoodIn wsX5_called wsX5_isRoot := goodIn_r _ [6, 1, 7, 8, 9, 10, 5, 11, 12, 13, 14, 15, 16, 43, 44, 45, 46, 47, 48, 49, 50, 51, 52, 53, 54, 55, 56, 57, 58, 59, 60, 61, 62, 63, 64, 65, 66, 67, 68] (by decide +kernel) (by decide +kernel)
set_option maxRecDepth 20000 in
theorem gX5_called_X5_isRoot : GoodIn wsX5_called (wsV RX5 149 RX5 yX5_isRoot wsX5_isRoot) := goodIn_app (goodIn_of _ (by decide +kernel)) ggX5_called_X5_isRoot
set_option maxRecDepth 20000 in
theorem ggX5_called_X0_nameOf : GoodIn wsX5_called wsX0_nameOf := goodIn_r _ [21, 22, 23, 24, 20, 25, 26, 27, 28, 29, 30, 31, 32, 33, 34, 35, 36, 37, 38, 39, 40, 41, 42, 52, 53, 54, 55, 56, 57, 58, 59, 60, 61, 62, 63, 64, 65] (by decide +kernel) (by decide +kernel)
set_option maxRecDepth 20000 in
theorem gX5_called_X0_nameOf : GoodIn wsX5_called (wsV RX5 152 RX0 yX0_nameOf wsX0_nameOf) := goodIn_app (goodIn_of _ (by decide +kernel)) ggX5_called_X0_nameOf
theorem dX5_called_0 : decode cX5_called 0 = .ok (.aload_n 0, 1) := by decide +kernel
theorem dX5_called_1 : decode cX5_called 1 = .ok (.iload_n 1, 1) := by decide +kernel
theorem dX5_called_2 : decode cX5_called 2 = .ok (.iload_n 2, 1) := by decide +kernel
theorem dX5_called_3 : decode cX5_called 3 = .ok (.invokevirtual 149, 3) := by decide +kernel
theorem dX5_called_6 : decode cX5_called 6 = .ok (.ifCond .ne 5, 3) := by decide +kernel
theorem dX5_called_9 : decode cX5_called 9 = .ok (.iconst (-1), 1) := by decide +kernel
theorem dX5_called_10 : decode cX5_called 10 = .ok (.ireturn, 1) := by decide +kernel
theorem dX5_called_11 : decode cX5_called 11 = .ok (.aload_n 0, 1) := by decide +kernel
theorem dX5_called_12 : decode cX5_called 12 = .ok (.getfield 27, 3) := by decide +kernel
theorem dX5_called_15 : decode cX5_called 15 = .ok (.iload_n 1, 1) := by decide +kernel
theorem dX5_called_16 : decode cX5_called 16 = .ok (.iload_n 2, 1) := by decide +kernel
theorem dX5_called_17 : decode cX5_called 17 = .ok (.invokevirtual 152, 3) := by decide +kernel
theorem dX5_called_20 : decode cX5_called 20 = .ok (.ireturn, 1) := by decide +kernel
set_option maxRecDepth 20000 in
theorem ggX5_byName_X5_isPolynomial : GoodIn wsX5_byName wsX5_isPolynomial := goodIn_r _ [7, 8, 9, 10, 11, 6, 12, 39, 40, 41, 42, 43, 44, 45, 46, 47, 62, 63, 64] (by decide +kernel) (by decide +kernel)
set_option maxRecDepth 20000 in
theorem gX5_byName_X5_isPolynomial : GoodIn wsX5_byName (wsV RX5 93 RX5 yX5_isPolynomial wsX5_isPolynomial) := goodIn_app (goodIn_of _ (by decide +kernel)) ggX5_byName_X5_isPolynomial
set_option maxRecDepth 20000 in
theorem ggX5_byName_X5_isBelow : GoodIn wsX5_byName wsX5_isBelow := goodIn_r _ [12] (by decide +kernel) (by decide +kernel)
set_option maxRecDepth 20000 in
theorem gX5_byName_X5_isBelow : GoodIn wsX5_byName (va_wsS RX5 59 yX5_isBelow wsX5_isBelow) := goodIn_app (goodIn_of _ (by decide +kernel)) ggX5_byName_X5_isBelow
set_option maxRecDepth 20000 in
theorem ggX5_byName_X0_nameOf : GoodIn wsX5_byName wsX0_nameOf := goodIn_r _ [17, 18, 19, 20, 16, 21, 22, 23, 24, 25, 26, 27, 28, 29, 30, 31, 32, 33, 34, 35, 36, 37, 38, 48, 49, 50, 51, 52, 53, 54, 55, 56, 57, 58, 59, 60, 61] (by decide +kernel) (by decide +kernel)
set_option maxRecDepth 20000 in
theorem gX5_byName_X0_nameOf : GoodIn wsX5_byName (wsV RX5 152 RX0 yX0_nameOf wsX0_nameOf) := goodIn_app (goodIn_of _ (by decide +kernel)) ggX5_byName_X0_nameOf
theorem dX5_byName_0 : decode cX5_byName 0 = .ok (.aload_n 0, 1) := by decide +kernel
theorem dX5_byName_1 : decode cX5_byName 1 = .ok (.iload_n 1, 1) := by decide +kernel
theorem dX5_byName_2 : decode cX5_byName 2 = .ok (.invokevirtual 93, 3) := by decide +kernel
theorem dX5_byName_5 : decode cX5_byName 5 = .ok (.ifCond .ne 5, 3) := by decide +kernel
theorem dX5_byName_8 : decode cX5_byName 8 = .ok (.iconst (-1), 1) := by decide +kernel
theorem dX5_byName_9 : decode cX5_byName 9 = .ok (.ireturn, 1) := by decide +kernel
theorem dX5_byName_10 : decode cX5_byName 10 = .ok (.iload_n 2, 1) := by decide +kernel
theorem dX5_byName_11 : decode cX5_byName 11 = .ok (.bipush 9, 2) := by decide +kernel
theorem dX5_byName_13 : decode cX5_byName 13 = .ok (.invokestatic 59, 3) := by decide +kernel
theorem dX5_byName_16 : decode cX5_byName 16 = .ok (.ifCond .ne 6, 3) := by decide +kernel
theorem dX5_byName_19 : decode cX5_byName 19 = .ok (.bipush (-2), 2) := by decide +kernel
theorem dX5_byName_21 : decode cX5_byName 21 = .ok (.ireturn, 1) := by decide +kernel
theorem dX5_byName_22 : decode cX5_byName 22 = .ok (.iconst 0, 1) := by decide +kernel
theorem dX5_byName_23 : decode cX5_byName 23 = .ok (.istore_n 3, 1) := by decide +kernel
theorem dX5_byName_24 : decode cX5_byName 24 = .ok (.iload_n 3, 1) := by decide +kernel
theorem dX5_byName_25 : decode cX5_byName 25 = .ok (.aload_n 0, 1) := by decide +kernel
theorem dX5_byName_26 : decode cX5_byName 26 = .ok (.getfield 27, 3) := by decide +kernel
theorem dX5_byName_29 : decode cX5_byName 29 = .ok (.getfield 99, 3) := by decide +kernel
theorem dX5_byName_32 : decode cX5_byName 32 = .ok (.iload_n 1, 1) := by decide +kernel
theorem dX5_byName_33 : decode cX5_byName 33 = .ok (.iaload, 1) := by decide +kernel
theorem dX5_byName_34 : decode cX5_byName 34 = .ok (.if_icmp .ge 24, 3) := by decide +kernel
theorem dX5_byName_37 : decode cX5_byName 37 = .ok (.aload_n 0, 1) := by decide +kernel
theorem dX5_byName_38 : decode cX5_byName 38 = .ok (.getfield 27, 3) := by decide +kernel
theorem dX5_byName_41 : decode cX5_byName 41 = .ok (.iload_n 1, 1) := by decide +kernel
theorem dX5_byName_42 : decode cX5_byName 42 = .ok (.iload_n 3, 1) := by decide +kernel
theorem dX5_byName_43 : decode cX5_byName 43 = .ok (.invokevirtual 152, 3) := by decide +kernel
theorem dX5_byName_46 : decode cX5_byName 46 = .ok (.iload_n 2, 1) := by decide +kernel
theorem dX5_byName_47 : decode cX5_byName 47 = .ok (.if_icmp .ne 5, 3) := by decide +kernel
theorem dX5_byName_50 : decode cX5_byName 50 = .ok (.iload_n 3, 1) := by decide +kernel
theorem dX5_byName_51 : decode cX5_byName 51 = .ok (.ireturn, 1) := by decide +kernel
theorem dX5_byName_52 : decode cX5_byName 52 = .ok (.iinc 3 1, 3) := by decide +kernel
theorem dX5_byName_55 : decode cX5_byName 55 = .ok (.goto (-31), 3) := by decide +kernel
theorem dX5_byName_58 : decode cX5_byName 58 = .ok (.bipush (-9), 2) := by decide +kernel
theorem dX5_byName_60 : decode cX5_byName 60 = .ok (.ireturn, 1) := by decide +kernel
set_option maxRecDepth 20000 in
theorem ggX5_signAt_X5_isRoot : GoodIn wsX5_signAt wsX5_isRoot := goodIn_r _ [6, 1, 7, 8, 9, 10, 5, 11, 12, 13, 14, 15, 16, 39, 40, 41, 42, 43, 44, 45, 46, 47, 48, 49, 50, 51, 52, 53, 54, 55, 56, 57, 58, 59, 60, 61, 62, 63, 64] (by decide +kernel) (by decide +kernel)
set_option maxRecDepth 20000 in
theorem gX5_signAt_X5_isRoot : GoodIn wsX5_signAt (wsV RX5 149 RX5 yX5_isRoot wsX5_isRoot) := goodIn_app (goodIn_of _ (by decide +kernel)) ggX5_signAt_X5_isRoot
set_option maxRecDepth 20000 in
theorem ggX5_signAt_X5_isPolynomial : GoodIn wsX5_signAt wsX5_isPolynomial := goodIn_r _ [11, 12, 13, 14, 15, 5, 16, 39, 40, 41, 42, 43, 44, 45, 46, 47, 62, 63, 64] (by decide +kernel) (by decide +kernel)
set_option maxRecDepth 20000 in
theorem gX5_signAt_X5_isPolynomial : GoodIn wsX5_signAt (wsV RX5 93 RX5 yX5_isPolynomial wsX5_isPolynomial) := goodIn_app (goodIn_of _ (by decide +kernel)) ggX5_signAt_X5_isPolynomial
set_option maxRecDepth 20000 in
theorem ggX5_signAt_X0_signAtRoot : GoodIn wsX5_signAt wsX0_signAtRoot := goodIn_r _ [21, 22, 23, 24, 25, 26, 27, 28, 29, 30, 31, 32, 33, 20, 34, 35, 36, 37, 38, 48, 49, 50, 51, 52, 53, 54, 55, 56, 57, 58, 59, 60, 61] (by decide +kernel) (by decide +kernel)
set_option maxRecDepth 20000 in
theorem gX5_signAt_X0_signAtRoot : GoodIn wsX5_signAt (wsV RX5 155 RX0 yX0_signAtRoot wsX0_signAtRoot) := goodIn_app (goodIn_of _ (by decide +kernel)) ggX5_signAt_X0_signAtRoot
theorem dX5_signAt_0 : decode cX5_signAt 0 = .ok (.aload_n 0, 1) := by decide +kernel
theorem dX5_signAt_1 : decode cX5_signAt 1 = .ok (.iload_n 1, 1) := by decide +kernel
theorem dX5_signAt_2 : decode cX5_signAt 2 = .ok (.iload_n 2, 1) := by decide +kernel
theorem dX5_signAt_3 : decode cX5_signAt 3 = .ok (.invokevirtual 149, 3) := by decide +kernel
theorem dX5_signAt_6 : decode cX5_signAt 6 = .ok (.ifCond .eq 11, 3) := by decide +kernel
theorem dX5_signAt_9 : decode cX5_signAt 9 = .ok (.aload_n 0, 1) := by decide +kernel
theorem dX5_signAt_10 : decode cX5_signAt 10 = .ok (.iload_n 3, 1) := by decide +kernel
theorem dX5_signAt_11 : decode cX5_signAt 11 = .ok (.invokevirtual 93, 3) := by decide +kernel
theorem dX5_signAt_14 : decode cX5_signAt 14 = .ok (.ifCond .ne 5, 3) := by decide +kernel
theorem dX5_signAt_17 : decode cX5_signAt 17 = .ok (.iconst (-1), 1) := by decide +kernel
theorem dX5_signAt_18 : decode cX5_signAt 18 = .ok (.ireturn, 1) := by decide +kernel
theorem dX5_signAt_19 : decode cX5_signAt 19 = .ok (.aload_n 0, 1) := by decide +kernel
theorem dX5_signAt_20 : decode cX5_signAt 20 = .ok (.getfield 27, 3) := by decide +kernel
theorem dX5_signAt_23 : decode cX5_signAt 23 = .ok (.iload_n 3, 1) := by decide +kernel
theorem dX5_signAt_24 : decode cX5_signAt 24 = .ok (.iconst 0, 1) := by decide +kernel
