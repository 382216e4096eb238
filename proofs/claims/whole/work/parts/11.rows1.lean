theorem dX0_init_0 : decode cX0_init 0 = .ok (.aload_n 0, 1) := by decide +kernel
theorem dX0_init_1 : decode cX0_init 1 = .ok (.invokespecial 3, 3) := by decide +kernel
theorem dX0_init_4 : decode cX0_init 4 = .ok (.aload_n 0, 1) := by decide +kernel
theorem dX0_init_5 : decode cX0_init 5 = .ok (.bipush 12, 2) := by decide +kernel
theorem dX0_init_7 : decode cX0_init 7 = .ok (.newarray .int, 2) := by decide +kernel
theorem dX0_init_9 : decode cX0_init 9 = .ok (.putfield 9, 3) := by decide +kernel
theorem dX0_init_12 : decode cX0_init 12 = .ok (.aload_n 0, 1) := by decide +kernel
theorem dX0_init_13 : decode cX0_init 13 = .ok (.iconst 4, 1) := by decide +kernel
theorem dX0_init_14 : decode cX0_init 14 = .ok (.newarray .int, 2) := by decide +kernel
theorem dX0_init_16 : decode cX0_init 16 = .ok (.putfield 15, 3) := by decide +kernel
theorem dX0_init_19 : decode cX0_init 19 = .ok (.aload_n 0, 1) := by decide +kernel
theorem dX0_init_20 : decode cX0_init 20 = .ok (.bipush 8, 2) := by decide +kernel
theorem dX0_init_22 : decode cX0_init 22 = .ok (.newarray .int, 2) := by decide +kernel
theorem dX0_init_24 : decode cX0_init 24 = .ok (.putfield 18, 3) := by decide +kernel
theorem dX0_init_27 : decode cX0_init 27 = .ok (.aload_n 0, 1) := by decide +kernel
theorem dX0_init_28 : decode cX0_init 28 = .ok (.bipush 8, 2) := by decide +kernel
theorem dX0_init_30 : decode cX0_init 30 = .ok (.newarray .int, 2) := by decide +kernel
theorem dX0_init_32 : decode cX0_init 32 = .ok (.putfield 21, 3) := by decide +kernel
theorem dX0_init_35 : decode cX0_init 35 = .ok (.aload_n 0, 1) := by decide +kernel
theorem dX0_init_36 : decode cX0_init 36 = .ok (.bipush 8, 2) := by decide +kernel
theorem dX0_init_38 : decode cX0_init 38 = .ok (.newarray .int, 2) := by decide +kernel
theorem dX0_init_40 : decode cX0_init 40 = .ok (.putfield 24, 3) := by decide +kernel
theorem dX0_init_43 : decode cX0_init 43 = .ok (.aload_n 0, 1) := by decide +kernel
theorem dX0_init_44 : decode cX0_init 44 = .ok (.bipush 8, 2) := by decide +kernel
theorem dX0_init_46 : decode cX0_init 46 = .ok (.newarray .int, 2) := by decide +kernel
theorem dX0_init_48 : decode cX0_init 48 = .ok (.putfield 27, 3) := by decide +kernel
theorem dX0_init_51 : decode cX0_init 51 = .ok (.aload_n 0, 1) := by decide +kernel
theorem dX0_init_52 : decode cX0_init 52 = .ok (.bipush 8, 2) := by decide +kernel
theorem dX0_init_54 : decode cX0_init 54 = .ok (.newarray .int, 2) := by decide +kernel
theorem dX0_init_56 : decode cX0_init 56 = .ok (.putfield 30, 3) := by decide +kernel
theorem dX0_init_59 : decode cX0_init 59 = .ok (.aload_n 0, 1) := by decide +kernel
theorem dX0_init_60 : decode cX0_init 60 = .ok (.bipush 8, 2) := by decide +kernel
theorem dX0_init_62 : decode cX0_init 62 = .ok (.newarray .int, 2) := by decide +kernel
theorem dX0_init_64 : decode cX0_init 64 = .ok (.putfield 33, 3) := by decide +kernel
theorem dX0_init_67 : decode cX0_init 67 = .ok (.aload_n 0, 1) := by decide +kernel
theorem dX0_init_68 : decode cX0_init 68 = .ok (.bipush 17, 2) := by decide +kernel
theorem dX0_init_70 : decode cX0_init 70 = .ok (.newarray .int, 2) := by decide +kernel
theorem dX0_init_72 : decode cX0_init 72 = .ok (.putfield 36, 3) := by decide +kernel
theorem dX0_init_75 : decode cX0_init 75 = .ok (.aload_n 0, 1) := by decide +kernel
theorem dX0_init_76 : decode cX0_init 76 = .ok (.bipush 17, 2) := by decide +kernel
theorem dX0_init_78 : decode cX0_init 78 = .ok (.newarray .int, 2) := by decide +kernel
theorem dX0_init_80 : decode cX0_init 80 = .ok (.putfield 39, 3) := by decide +kernel
theorem dX0_init_83 : decode cX0_init 83 = .ok (.aload_n 0, 1) := by decide +kernel
theorem dX0_init_84 : decode cX0_init 84 = .ok (.bipush 17, 2) := by decide +kernel
theorem dX0_init_86 : decode cX0_init 86 = .ok (.newarray .int, 2) := by decide +kernel
theorem dX0_init_88 : decode cX0_init 88 = .ok (.putfield 42, 3) := by decide +kernel
theorem dX0_init_91 : decode cX0_init 91 = .ok (.return_, 1) := by decide +kernel
set_option maxRecDepth 20000 in
theorem ggX0_lay_X4_exact : GoodIn wsX0_lay wsX4_exact := goodIn_r _ [10, 11, 12, 52, 53, 54] (by decide +kernel) (by decide +kernel)
set_option maxRecDepth 20000 in
theorem gX0_lay_X4_exact : GoodIn wsX0_lay (wsV RX0 55 RX4 yX4_exact wsX4_exact) := goodIn_app (goodIn_of _ (by decide +kernel)) ggX0_lay_X4_exact
set_option maxRecDepth 20000 in
theorem ggX0_lay_X0_findRoots : GoodIn wsX0_lay wsX0_findRoots := goodIn_r _ [17, 4, 5, 18, 19, 20, 16, 21, 22, 23, 24, 25, 55, 56, 57, 58, 59, 60, 61, 62, 63, 64, 65, 66, 67, 68] (by decide +kernel) (by decide +kernel)
set_option maxRecDepth 20000 in
theorem gX0_lay_X0_findRoots : GoodIn wsX0_lay (wsV RX0 58 RX0 yX0_findRoots wsX0_findRoots) := goodIn_app (goodIn_of _ (by decide +kernel)) ggX0_lay_X0_findRoots
set_option maxRecDepth 20000 in
theorem ggX0_lay_X0_enterInOrder : GoodIn wsX0_lay wsX0_enterInOrder := goodIn_r _ [29, 3, 30, 31, 32, 33, 34, 16, 35, 4, 23, 36, 37, 38, 39, 40, 41, 42, 43, 22, 24, 25, 44, 45, 46, 47, 48, 49, 50, 51, 55, 56, 57, 58, 59, 60, 61, 62, 63, 64, 65, 66, 67, 68] (by decide +kernel) (by decide +kernel)
set_option maxRecDepth 20000 in
theorem gX0_lay_X0_enterInOrder : GoodIn wsX0_lay (wsV RX0 62 RX0 yX0_enterInOrder wsX0_enterInOrder) := goodIn_app (goodIn_of _ (by decide +kernel)) ggX0_lay_X0_enterInOrder
theorem dX0_lay_0 : decode cX0_lay 0 = .ok (.aload_n 0, 1) := by decide +kernel
theorem dX0_lay_1 : decode cX0_lay 1 = .ok (.aload_n 1, 1) := by decide +kernel
theorem dX0_lay_2 : decode cX0_lay 2 = .ok (.getfield 45, 3) := by decide +kernel
theorem dX0_lay_5 : decode cX0_lay 5 = .ok (.putfield 51, 3) := by decide +kernel
theorem dX0_lay_8 : decode cX0_lay 8 = .ok (.aload_n 0, 1) := by decide +kernel
theorem dX0_lay_9 : decode cX0_lay 9 = .ok (.iconst 0, 1) := by decide +kernel
theorem dX0_lay_10 : decode cX0_lay 10 = .ok (.putfield 52, 3) := by decide +kernel
theorem dX0_lay_13 : decode cX0_lay 13 = .ok (.iconst 0, 1) := by decide +kernel
theorem dX0_lay_14 : decode cX0_lay 14 = .ok (.istore_n 2, 1) := by decide +kernel
theorem dX0_lay_15 : decode cX0_lay 15 = .ok (.iload_n 2, 1) := by decide +kernel
theorem dX0_lay_16 : decode cX0_lay 16 = .ok (.aload_n 0, 1) := by decide +kernel
theorem dX0_lay_17 : decode cX0_lay 17 = .ok (.getfield 51, 3) := by decide +kernel
theorem dX0_lay_20 : decode cX0_lay 20 = .ok (.if_icmp .ge 67, 3) := by decide +kernel
theorem dX0_lay_23 : decode cX0_lay 23 = .ok (.iconst 0, 1) := by decide +kernel
theorem dX0_lay_24 : decode cX0_lay 24 = .ok (.istore_n 3, 1) := by decide +kernel
theorem dX0_lay_25 : decode cX0_lay 25 = .ok (.iload_n 3, 1) := by decide +kernel
theorem dX0_lay_26 : decode cX0_lay 26 = .ok (.iconst 3, 1) := by decide +kernel
theorem dX0_lay_27 : decode cX0_lay 27 = .ok (.if_icmp .ge 25, 3) := by decide +kernel
theorem dX0_lay_30 : decode cX0_lay 30 = .ok (.aload_n 0, 1) := by decide +kernel
theorem dX0_lay_31 : decode cX0_lay 31 = .ok (.getfield 9, 3) := by decide +kernel
theorem dX0_lay_34 : decode cX0_lay 34 = .ok (.iload_n 2, 1) := by decide +kernel
theorem dX0_lay_35 : decode cX0_lay 35 = .ok (.iconst 3, 1) := by decide +kernel
theorem dX0_lay_36 : decode cX0_lay 36 = .ok (.imul, 1) := by decide +kernel
theorem dX0_lay_37 : decode cX0_lay 37 = .ok (.iload_n 3, 1) := by decide +kernel
theorem dX0_lay_38 : decode cX0_lay 38 = .ok (.iadd, 1) := by decide +kernel
theorem dX0_lay_39 : decode cX0_lay 39 = .ok (.aload_n 1, 1) := by decide +kernel
theorem dX0_lay_40 : decode cX0_lay 40 = .ok (.iload_n 2, 1) := by decide +kernel
theorem dX0_lay_41 : decode cX0_lay 41 = .ok (.iload_n 3, 1) := by decide +kernel
theorem dX0_lay_42 : decode cX0_lay 42 = .ok (.invokevirtual 55, 3) := by decide +kernel
theorem dX0_lay_45 : decode cX0_lay 45 = .ok (.iastore, 1) := by decide +kernel
theorem dX0_lay_46 : decode cX0_lay 46 = .ok (.iinc 3 1, 3) := by decide +kernel
theorem dX0_lay_49 : decode cX0_lay 49 = .ok (.goto (-24), 3) := by decide +kernel
theorem dX0_lay_52 : decode cX0_lay 52 = .ok (.aload_n 0, 1) := by decide +kernel
theorem dX0_lay_53 : decode cX0_lay 53 = .ok (.iload_n 2, 1) := by decide +kernel
theorem dX0_lay_54 : decode cX0_lay 54 = .ok (.invokevirtual 58, 3) := by decide +kernel
theorem dX0_lay_57 : decode cX0_lay 57 = .ok (.iconst 0, 1) := by decide +kernel
theorem dX0_lay_58 : decode cX0_lay 58 = .ok (.istore_n 3, 1) := by decide +kernel
theorem dX0_lay_59 : decode cX0_lay 59 = .ok (.iload_n 3, 1) := by decide +kernel
theorem dX0_lay_60 : decode cX0_lay 60 = .ok (.aload_n 0, 1) := by decide +kernel
theorem dX0_lay_61 : decode cX0_lay 61 = .ok (.getfield 15, 3) := by decide +kernel
theorem dX0_lay_64 : decode cX0_lay 64 = .ok (.iload_n 2, 1) := by decide +kernel
theorem dX0_lay_65 : decode cX0_lay 65 = .ok (.iaload, 1) := by decide +kernel
theorem dX0_lay_66 : decode cX0_lay 66 = .ok (.if_icmp .ge 15, 3) := by decide +kernel
theorem dX0_lay_69 : decode cX0_lay 69 = .ok (.aload_n 0, 1) := by decide +kernel
theorem dX0_lay_70 : decode cX0_lay 70 = .ok (.iload_n 2, 1) := by decide +kernel
theorem dX0_lay_71 : decode cX0_lay 71 = .ok (.iload_n 3, 1) := by decide +kernel
theorem dX0_lay_72 : decode cX0_lay 72 = .ok (.invokevirtual 62, 3) := by decide +kernel
theorem dX0_lay_75 : decode cX0_lay 75 = .ok (.iinc 3 1, 3) := by decide +kernel
theorem dX0_lay_78 : decode cX0_lay 78 = .ok (.goto (-19), 3) := by decide +kernel
theorem dX0_lay_81 : decode cX0_lay 81 = .ok (.iinc 2 1, 3) := by decide +kernel
theorem dX0_lay_84 : decode cX0_lay 84 = .ok (.goto (-69), 3) := by decide +kernel
theorem dX0_lay_87 : decode cX0_lay 87 = .ok (.return_, 1) := by decide +kernel
set_option maxRecDepth 20000 in
theorem ggX0_findRoots_X0_keepRoot : GoodIn wsX0_findRoots wsX0_keepRoot := goodIn_r _ [7, 2, 8, 9, 10, 11, 12, 13, 14, 15, 16, 17, 18, 19, 20, 21, 22, 23, 24, 25] (by decide +kernel) (by decide +kernel)
set_option maxRecDepth 20000 in
theorem gX0_findRoots_X0_keepRoot : GoodIn wsX0_findRoots (wsV RX0 66 RX0 yX0_keepRoot wsX0_keepRoot) := goodIn_app (goodIn_of _ (by decide +kernel)) ggX0_findRoots_X0_keepRoot
theorem dX0_findRoots_0 : decode cX0_findRoots 0 = .ok (.aload_n 0, 1) := by decide +kernel
theorem dX0_findRoots_1 : decode cX0_findRoots 1 = .ok (.getfield 9, 3) := by decide +kernel
theorem dX0_findRoots_4 : decode cX0_findRoots 4 = .ok (.iload_n 1, 1) := by decide +kernel
theorem dX0_findRoots_5 : decode cX0_findRoots 5 = .ok (.iconst 3, 1) := by decide +kernel
theorem dX0_findRoots_6 : decode cX0_findRoots 6 = .ok (.imul, 1) := by decide +kernel
theorem dX0_findRoots_7 : decode cX0_findRoots 7 = .ok (.iaload, 1) := by decide +kernel
theorem dX0_findRoots_8 : decode cX0_findRoots 8 = .ok (.istore_n 2, 1) := by decide +kernel
theorem dX0_findRoots_9 : decode cX0_findRoots 9 = .ok (.aload_n 0, 1) := by decide +kernel
theorem dX0_findRoots_10 : decode cX0_findRoots 10 = .ok (.getfield 9, 3) := by decide +kernel
theorem dX0_findRoots_13 : decode cX0_findRoots 13 = .ok (.iload_n 1, 1) := by decide +kernel
theorem dX0_findRoots_14 : decode cX0_findRoots 14 = .ok (.iconst 3, 1) := by decide +kernel
theorem dX0_findRoots_15 : decode cX0_findRoots 15 = .ok (.imul, 1) := by decide +kernel
theorem dX0_findRoots_16 : decode cX0_findRoots 16 = .ok (.iconst 1, 1) := by decide +kernel
theorem dX0_findRoots_17 : decode cX0_findRoots 17 = .ok (.iadd, 1) := by decide +kernel
theorem dX0_findRoots_18 : decode cX0_findRoots 18 = .ok (.iaload, 1) := by decide +kernel
theorem dX0_findRoots_19 : decode cX0_findRoots 19 = .ok (.istore_n 3, 1) := by decide +kernel
theorem dX0_findRoots_20 : decode cX0_findRoots 20 = .ok (.aload_n 0, 1) := by decide +kernel
theorem dX0_findRoots_21 : decode cX0_findRoots 21 = .ok (.getfield 9, 3) := by decide +kernel
theorem dX0_findRoots_24 : decode cX0_findRoots 24 = .ok (.iload_n 1, 1) := by decide +kernel
theorem dX0_findRoots_25 : decode cX0_findRoots 25 = .ok (.iconst 3, 1) := by decide +kernel
theorem dX0_findRoots_26 : decode cX0_findRoots 26 = .ok (.imul, 1) := by decide +kernel
theorem dX0_findRoots_27 : decode cX0_findRoots 27 = .ok (.iconst 2, 1) := by decide +kernel
theorem dX0_findRoots_28 : decode cX0_findRoots 28 = .ok (.iadd, 1) := by decide +kernel
theorem dX0_findRoots_29 : decode cX0_findRoots 29 = .ok (.iaload, 1) := by decide +kernel
theorem dX0_findRoots_30 : decode cX0_findRoots 30 = .ok (.istore 4, 2) := by decide +kernel
theorem dX0_findRoots_32 : decode cX0_findRoots 32 = .ok (.aload_n 0, 1) := by decide +kernel
theorem dX0_findRoots_33 : decode cX0_findRoots 33 = .ok (.getfield 15, 3) := by decide +kernel
theorem dX0_findRoots_36 : decode cX0_findRoots 36 = .ok (.iload_n 1, 1) := by decide +kernel
theorem dX0_findRoots_37 : decode cX0_findRoots 37 = .ok (.iconst 0, 1) := by decide +kernel
theorem dX0_findRoots_38 : decode cX0_findRoots 38 = .ok (.iastore, 1) := by decide +kernel
theorem dX0_findRoots_39 : decode cX0_findRoots 39 = .ok (.iload 4, 2) := by decide +kernel
theorem dX0_findRoots_41 : decode cX0_findRoots 41 = .ok (.ifCond .lt 12, 3) := by decide +kernel
theorem dX0_findRoots_44 : decode cX0_findRoots 44 = .ok (.iload 4, 2) := by decide +kernel
theorem dX0_findRoots_46 : decode cX0_findRoots 46 = .ok (.ifCond .ne 18, 3) := by decide +kernel
theorem dX0_findRoots_49 : decode cX0_findRoots 49 = .ok (.iload_n 3, 1) := by decide +kernel
theorem dX0_findRoots_50 : decode cX0_findRoots 50 = .ok (.ifCond .ge 14, 3) := by decide +kernel
theorem dX0_findRoots_53 : decode cX0_findRoots 53 = .ok (.iload_n 2, 1) := by decide +kernel
theorem dX0_findRoots_54 : decode cX0_findRoots 54 = .ok (.ineg, 1) := by decide +kernel
theorem dX0_findRoots_55 : decode cX0_findRoots 55 = .ok (.istore_n 2, 1) := by decide +kernel
theorem dX0_findRoots_56 : decode cX0_findRoots 56 = .ok (.iload_n 3, 1) := by decide +kernel
theorem dX0_findRoots_57 : decode cX0_findRoots 57 = .ok (.ineg, 1) := by decide +kernel
theorem dX0_findRoots_58 : decode cX0_findRoots 58 = .ok (.istore_n 3, 1) := by decide +kernel
theorem dX0_findRoots_59 : decode cX0_findRoots 59 = .ok (.iload 4, 2) := by decide +kernel
theorem dX0_findRoots_61 : decode cX0_findRoots 61 = .ok (.ineg, 1) := by decide +kernel
theorem dX0_findRoots_62 : decode cX0_findRoots 62 = .ok (.istore 4, 2) := by decide +kernel
theorem dX0_findRoots_64 : decode cX0_findRoots 64 = .ok (.iload 4, 2) := by decide +kernel
theorem dX0_findRoots_66 : decode cX0_findRoots 66 = .ok (.ifCond .ne 18, 3) := by decide +kernel
theorem dX0_findRoots_69 : decode cX0_findRoots 69 = .ok (.iload_n 3, 1) := by decide +kernel
theorem dX0_findRoots_70 : decode cX0_findRoots 70 = .ok (.ifCond .le 13, 3) := by decide +kernel
theorem dX0_findRoots_73 : decode cX0_findRoots 73 = .ok (.aload_n 0, 1) := by decide +kernel
theorem dX0_findRoots_74 : decode cX0_findRoots 74 = .ok (.iload_n 1, 1) := by decide +kernel
theorem dX0_findRoots_75 : decode cX0_findRoots 75 = .ok (.iload_n 2, 1) := by decide +kernel
theorem dX0_findRoots_76 : decode cX0_findRoots 76 = .ok (.ineg, 1) := by decide +kernel
theorem dX0_findRoots_77 : decode cX0_findRoots 77 = .ok (.iconst 0, 1) := by decide +kernel
theorem dX0_findRoots_78 : decode cX0_findRoots 78 = .ok (.iconst 0, 1) := by decide +kernel
theorem dX0_findRoots_79 : decode cX0_findRoots 79 = .ok (.iload_n 3, 1) := by decide +kernel
theorem dX0_findRoots_80 : decode cX0_findRoots 80 = .ok (.invokevirtual 66, 3) := by decide +kernel
theorem dX0_findRoots_83 : decode cX0_findRoots 83 = .ok (.return_, 1) := by decide +kernel
theorem dX0_findRoots_84 : decode cX0_findRoots 84 = .ok (.iload_n 3, 1) := by decide +kernel
theorem dX0_findRoots_85 : decode cX0_findRoots 85 = .ok (.iload_n 3, 1) := by decide +kernel
theorem dX0_findRoots_86 : decode cX0_findRoots 86 = .ok (.imul, 1) := by decide +kernel
theorem dX0_findRoots_87 : decode cX0_findRoots 87 = .ok (.iconst 4, 1) := by decide +kernel
theorem dX0_findRoots_88 : decode cX0_findRoots 88 = .ok (.iload_n 2, 1) := by decide +kernel
theorem dX0_findRoots_89 : decode cX0_findRoots 89 = .ok (.imul, 1) := by decide +kernel
theorem dX0_findRoots_90 : decode cX0_findRoots 90 = .ok (.iload 4, 2) := by decide +kernel
theorem dX0_findRoots_92 : decode cX0_findRoots 92 = .ok (.imul, 1) := by decide +kernel
theorem dX0_findRoots_93 : decode cX0_findRoots 93 = .ok (.isub, 1) := by decide +kernel
theorem dX0_findRoots_94 : decode cX0_findRoots 94 = .ok (.istore 5, 2) := by decide +kernel
theorem dX0_findRoots_96 : decode cX0_findRoots 96 = .ok (.iload 5, 2) := by decide +kernel
theorem dX0_findRoots_98 : decode cX0_findRoots 98 = .ok (.ifCond .ne 16, 3) := by decide +kernel
theorem dX0_findRoots_101 : decode cX0_findRoots 101 = .ok (.aload_n 0, 1) := by decide +kernel
theorem dX0_findRoots_102 : decode cX0_findRoots 102 = .ok (.iload_n 1, 1) := by decide +kernel
theorem dX0_findRoots_103 : decode cX0_findRoots 103 = .ok (.iload_n 3, 1) := by decide +kernel
theorem dX0_findRoots_104 : decode cX0_findRoots 104 = .ok (.ineg, 1) := by decide +kernel
theorem dX0_findRoots_105 : decode cX0_findRoots 105 = .ok (.iconst 0, 1) := by decide +kernel
theorem dX0_findRoots_106 : decode cX0_findRoots 106 = .ok (.iconst 0, 1) := by decide +kernel
theorem dX0_findRoots_107 : decode cX0_findRoots 107 = .ok (.iconst 2, 1) := by decide +kernel
theorem dX0_findRoots_108 : decode cX0_findRoots 108 = .ok (.iload 4, 2) := by decide +kernel
theorem dX0_findRoots_110 : decode cX0_findRoots 110 = .ok (.imul, 1) := by decide +kernel
theorem dX0_findRoots_111 : decode cX0_findRoots 111 = .ok (.invokevirtual 66, 3) := by decide +kernel
theorem dX0_findRoots_114 : decode cX0_findRoots 114 = .ok (.iload 5, 2) := by decide +kernel
theorem dX0_findRoots_116 : decode cX0_findRoots 116 = .ok (.ifCond .le 31, 3) := by decide +kernel
theorem dX0_findRoots_119 : decode cX0_findRoots 119 = .ok (.aload_n 0, 1) := by decide +kernel
theorem dX0_findRoots_120 : decode cX0_findRoots 120 = .ok (.iload_n 1, 1) := by decide +kernel
theorem dX0_findRoots_121 : decode cX0_findRoots 121 = .ok (.iload_n 3, 1) := by decide +kernel
theorem dX0_findRoots_122 : decode cX0_findRoots 122 = .ok (.ineg, 1) := by decide +kernel
theorem dX0_findRoots_123 : decode cX0_findRoots 123 = .ok (.iconst (-1), 1) := by decide +kernel
theorem dX0_findRoots_124 : decode cX0_findRoots 124 = .ok (.iload 5, 2) := by decide +kernel
theorem dX0_findRoots_126 : decode cX0_findRoots 126 = .ok (.iconst 2, 1) := by decide +kernel
theorem dX0_findRoots_127 : decode cX0_findRoots 127 = .ok (.iload 4, 2) := by decide +kernel
theorem dX0_findRoots_129 : decode cX0_findRoots 129 = .ok (.imul, 1) := by decide +kernel
theorem dX0_findRoots_130 : decode cX0_findRoots 130 = .ok (.invokevirtual 66, 3) := by decide +kernel
theorem dX0_findRoots_133 : decode cX0_findRoots 133 = .ok (.aload_n 0, 1) := by decide +kernel
theorem dX0_findRoots_134 : decode cX0_findRoots 134 = .ok (.iload_n 1, 1) := by decide +kernel
theorem dX0_findRoots_135 : decode cX0_findRoots 135 = .ok (.iload_n 3, 1) := by decide +kernel
theorem dX0_findRoots_136 : decode cX0_findRoots 136 = .ok (.ineg, 1) := by decide +kernel
theorem dX0_findRoots_137 : decode cX0_findRoots 137 = .ok (.iconst 1, 1) := by decide +kernel
theorem dX0_findRoots_138 : decode cX0_findRoots 138 = .ok (.iload 5, 2) := by decide +kernel
theorem dX0_findRoots_140 : decode cX0_findRoots 140 = .ok (.iconst 2, 1) := by decide +kernel
theorem dX0_findRoots_141 : decode cX0_findRoots 141 = .ok (.iload 4, 2) := by decide +kernel
theorem dX0_findRoots_143 : decode cX0_findRoots 143 = .ok (.imul, 1) := by decide +kernel
theorem dX0_findRoots_144 : decode cX0_findRoots 144 = .ok (.invokevirtual 66, 3) := by decide +kernel
theorem dX0_findRoots_147 : decode cX0_findRoots 147 = .ok (.return_, 1) := by decide +kernel
theorem dX0_keepRoot_0 : decode cX0_keepRoot 0 = .ok (.iload_n 1, 1) := by decide +kernel
theorem dX0_keepRoot_1 : decode cX0_keepRoot 1 = .ok (.iconst 2, 1) := by decide +kernel
theorem dX0_keepRoot_2 : decode cX0_keepRoot 2 = .ok (.imul, 1) := by decide +kernel
theorem dX0_keepRoot_3 : decode cX0_keepRoot 3 = .ok (.aload_n 0, 1) := by decide +kernel
theorem dX0_keepRoot_4 : decode cX0_keepRoot 4 = .ok (.getfield 15, 3) := by decide +kernel
theorem dX0_keepRoot_7 : decode cX0_keepRoot 7 = .ok (.iload_n 1, 1) := by decide +kernel
theorem dX0_keepRoot_8 : decode cX0_keepRoot 8 = .ok (.iaload, 1) := by decide +kernel
theorem dX0_keepRoot_9 : decode cX0_keepRoot 9 = .ok (.iadd, 1) := by decide +kernel
theorem dX0_keepRoot_10 : decode cX0_keepRoot 10 = .ok (.istore 6, 2) := by decide +kernel
theorem dX0_keepRoot_12 : decode cX0_keepRoot 12 = .ok (.aload_n 0, 1) := by decide +kernel
theorem dX0_keepRoot_13 : decode cX0_keepRoot 13 = .ok (.getfield 18, 3) := by decide +kernel
theorem dX0_keepRoot_16 : decode cX0_keepRoot 16 = .ok (.iload 6, 2) := by decide +kernel
theorem dX0_keepRoot_18 : decode cX0_keepRoot 18 = .ok (.iload_n 2, 1) := by decide +kernel
theorem dX0_keepRoot_19 : decode cX0_keepRoot 19 = .ok (.iastore, 1) := by decide +kernel
theorem dX0_keepRoot_20 : decode cX0_keepRoot 20 = .ok (.aload_n 0, 1) := by decide +kernel
theorem dX0_keepRoot_21 : decode cX0_keepRoot 21 = .ok (.getfield 21, 3) := by decide +kernel
theorem dX0_keepRoot_24 : decode cX0_keepRoot 24 = .ok (.iload 6, 2) := by decide +kernel
theorem dX0_keepRoot_26 : decode cX0_keepRoot 26 = .ok (.iload_n 3, 1) := by decide +kernel
theorem dX0_keepRoot_27 : decode cX0_keepRoot 27 = .ok (.iastore, 1) := by decide +kernel
theorem dX0_keepRoot_28 : decode cX0_keepRoot 28 = .ok (.aload_n 0, 1) := by decide +kernel
theorem dX0_keepRoot_29 : decode cX0_keepRoot 29 = .ok (.getfield 24, 3) := by decide +kernel
theorem dX0_keepRoot_32 : decode cX0_keepRoot 32 = .ok (.iload 6, 2) := by decide +kernel
theorem dX0_keepRoot_34 : decode cX0_keepRoot 34 = .ok (.iload 4, 2) := by decide +kernel
theorem dX0_keepRoot_36 : decode cX0_keepRoot 36 = .ok (.iastore, 1) := by decide +kernel
theorem dX0_keepRoot_37 : decode cX0_keepRoot 37 = .ok (.aload_n 0, 1) := by decide +kernel
theorem dX0_keepRoot_38 : decode cX0_keepRoot 38 = .ok (.getfield 27, 3) := by decide +kernel
theorem dX0_keepRoot_41 : decode cX0_keepRoot 41 = .ok (.iload 6, 2) := by decide +kernel
theorem dX0_keepRoot_43 : decode cX0_keepRoot 43 = .ok (.iload 5, 2) := by decide +kernel
theorem dX0_keepRoot_45 : decode cX0_keepRoot 45 = .ok (.iastore, 1) := by decide +kernel
theorem dX0_keepRoot_46 : decode cX0_keepRoot 46 = .ok (.aload_n 0, 1) := by decide +kernel
theorem dX0_keepRoot_47 : decode cX0_keepRoot 47 = .ok (.getfield 15, 3) := by decide +kernel
theorem dX0_keepRoot_50 : decode cX0_keepRoot 50 = .ok (.iload_n 1, 1) := by decide +kernel
theorem dX0_keepRoot_51 : decode cX0_keepRoot 51 = .ok (.dup2, 1) := by decide +kernel
theorem dX0_keepRoot_52 : decode cX0_keepRoot 52 = .ok (.iaload, 1) := by decide +kernel
theorem dX0_keepRoot_53 : decode cX0_keepRoot 53 = .ok (.iconst 1, 1) := by decide +kernel
theorem dX0_keepRoot_54 : decode cX0_keepRoot 54 = .ok (.iadd, 1) := by decide +kernel
theorem dX0_keepRoot_55 : decode cX0_keepRoot 55 = .ok (.iastore, 1) := by decide +kernel
theorem dX0_keepRoot_56 : decode cX0_keepRoot 56 = .ok (.return_, 1) := by decide +kernel
set_option maxRecDepth 20000 in
theorem ggX0_enterInOrder_X0_compare : GoodIn wsX0_enterInOrder wsX0_compare := goodIn_r _ [8, 9, 10, 11, 12, 13, 14, 15, 16, 17, 7, 18, 19, 20, 21, 22, 23, 24, 25, 26, 27, 28, 29, 30, 31, 32, 33, 34, 35, 36, 37, 38, 39, 40, 41, 42, 43] (by decide +kernel) (by decide +kernel)
set_option maxRecDepth 20000 in
theorem gX0_enterInOrder_X0_compare : GoodIn wsX0_enterInOrder (wsV RX0 70 RX0 yX0_compare wsX0_compare) := goodIn_app (goodIn_of _ (by decide +kernel)) ggX0_enterInOrder_X0_compare
theorem dX0_enterInOrder_0 : decode cX0_enterInOrder 0 = .ok (.iload_n 1, 1) := by decide +kernel
theorem dX0_enterInOrder_1 : decode cX0_enterInOrder 1 = .ok (.iconst 2, 1) := by decide +kernel
theorem dX0_enterInOrder_2 : decode cX0_enterInOrder 2 = .ok (.imul, 1) := by decide +kernel
theorem dX0_enterInOrder_3 : decode cX0_enterInOrder 3 = .ok (.iload_n 2, 1) := by decide +kernel
theorem dX0_enterInOrder_4 : decode cX0_enterInOrder 4 = .ok (.iadd, 1) := by decide +kernel
theorem dX0_enterInOrder_5 : decode cX0_enterInOrder 5 = .ok (.istore_n 3, 1) := by decide +kernel
theorem dX0_enterInOrder_6 : decode cX0_enterInOrder 6 = .ok (.iconst 0, 1) := by decide +kernel
theorem dX0_enterInOrder_7 : decode cX0_enterInOrder 7 = .ok (.istore 4, 2) := by decide +kernel
theorem dX0_enterInOrder_9 : decode cX0_enterInOrder 9 = .ok (.iconst 1, 1) := by decide +kernel
theorem dX0_enterInOrder_10 : decode cX0_enterInOrder 10 = .ok (.istore 5, 2) := by decide +kernel
theorem dX0_enterInOrder_12 : decode cX0_enterInOrder 12 = .ok (.iload 4, 2) := by decide +kernel
theorem dX0_enterInOrder_14 : decode cX0_enterInOrder 14 = .ok (.aload_n 0, 1) := by decide +kernel
theorem dX0_enterInOrder_15 : decode cX0_enterInOrder 15 = .ok (.getfield 52, 3) := by decide +kernel
theorem dX0_enterInOrder_18 : decode cX0_enterInOrder 18 = .ok (.if_icmp .ge 31, 3) := by decide +kernel
theorem dX0_enterInOrder_21 : decode cX0_enterInOrder 21 = .ok (.aload_n 0, 1) := by decide +kernel
theorem dX0_enterInOrder_22 : decode cX0_enterInOrder 22 = .ok (.iload_n 3, 1) := by decide +kernel
theorem dX0_enterInOrder_23 : decode cX0_enterInOrder 23 = .ok (.aload_n 0, 1) := by decide +kernel
theorem dX0_enterInOrder_24 : decode cX0_enterInOrder 24 = .ok (.getfield 30, 3) := by decide +kernel
theorem dX0_enterInOrder_27 : decode cX0_enterInOrder 27 = .ok (.iload 4, 2) := by decide +kernel
theorem dX0_enterInOrder_29 : decode cX0_enterInOrder 29 = .ok (.iaload, 1) := by decide +kernel
theorem dX0_enterInOrder_30 : decode cX0_enterInOrder 30 = .ok (.invokevirtual 70, 3) := by decide +kernel
theorem dX0_enterInOrder_33 : decode cX0_enterInOrder 33 = .ok (.istore 5, 2) := by decide +kernel
theorem dX0_enterInOrder_35 : decode cX0_enterInOrder 35 = .ok (.iload 5, 2) := by decide +kernel
theorem dX0_enterInOrder_37 : decode cX0_enterInOrder 37 = .ok (.ifCond .gt 6, 3) := by decide +kernel
theorem dX0_enterInOrder_40 : decode cX0_enterInOrder 40 = .ok (.goto 9, 3) := by decide +kernel
theorem dX0_enterInOrder_43 : decode cX0_enterInOrder 43 = .ok (.iinc 4 1, 3) := by decide +kernel
theorem dX0_enterInOrder_46 : decode cX0_enterInOrder 46 = .ok (.goto (-34), 3) := by decide +kernel
theorem dX0_enterInOrder_49 : decode cX0_enterInOrder 49 = .ok (.iload 5, 2) := by decide +kernel
theorem dX0_enterInOrder_51 : decode cX0_enterInOrder 51 = .ok (.ifCond .ne 17, 3) := by decide +kernel
theorem dX0_enterInOrder_54 : decode cX0_enterInOrder 54 = .ok (.aload_n 0, 1) := by decide +kernel
theorem dX0_enterInOrder_55 : decode cX0_enterInOrder 55 = .ok (.getfield 33, 3) := by decide +kernel
theorem dX0_enterInOrder_58 : decode cX0_enterInOrder 58 = .ok (.iload 4, 2) := by decide +kernel
theorem dX0_enterInOrder_60 : decode cX0_enterInOrder 60 = .ok (.dup2, 1) := by decide +kernel
theorem dX0_enterInOrder_61 : decode cX0_enterInOrder 61 = .ok (.iaload, 1) := by decide +kernel
theorem dX0_enterInOrder_62 : decode cX0_enterInOrder 62 = .ok (.iconst 1, 1) := by decide +kernel
theorem dX0_enterInOrder_63 : decode cX0_enterInOrder 63 = .ok (.iload_n 1, 1) := by decide +kernel
theorem dX0_enterInOrder_64 : decode cX0_enterInOrder 64 = .ok (.ishl, 1) := by decide +kernel
theorem dX0_enterInOrder_65 : decode cX0_enterInOrder 65 = .ok (.ior, 1) := by decide +kernel
theorem dX0_enterInOrder_66 : decode cX0_enterInOrder 66 = .ok (.iastore, 1) := by decide +kernel
theorem dX0_enterInOrder_67 : decode cX0_enterInOrder 67 = .ok (.return_, 1) := by decide +kernel
theorem dX0_enterInOrder_68 : decode cX0_enterInOrder 68 = .ok (.aload_n 0, 1) := by decide +kernel
theorem dX0_enterInOrder_69 : decode cX0_enterInOrder 69 = .ok (.getfield 52, 3) := by decide +kernel
theorem dX0_enterInOrder_72 : decode cX0_enterInOrder 72 = .ok (.istore 6, 2) := by decide +kernel
theorem dX0_enterInOrder_74 : decode cX0_enterInOrder 74 = .ok (.iload 6, 2) := by decide +kernel
theorem dX0_enterInOrder_76 : decode cX0_enterInOrder 76 = .ok (.iload 4, 2) := by decide +kernel
theorem dX0_enterInOrder_78 : decode cX0_enterInOrder 78 = .ok (.if_icmp .le 41, 3) := by decide +kernel
theorem dX0_enterInOrder_81 : decode cX0_enterInOrder 81 = .ok (.aload_n 0, 1) := by decide +kernel
theorem dX0_enterInOrder_82 : decode cX0_enterInOrder 82 = .ok (.getfield 30, 3) := by decide +kernel
theorem dX0_enterInOrder_85 : decode cX0_enterInOrder 85 = .ok (.iload 6, 2) := by decide +kernel
theorem dX0_enterInOrder_87 : decode cX0_enterInOrder 87 = .ok (.aload_n 0, 1) := by decide +kernel
theorem dX0_enterInOrder_88 : decode cX0_enterInOrder 88 = .ok (.getfield 30, 3) := by decide +kernel
theorem dX0_enterInOrder_91 : decode cX0_enterInOrder 91 = .ok (.iload 6, 2) := by decide +kernel
theorem dX0_enterInOrder_93 : decode cX0_enterInOrder 93 = .ok (.iconst 1, 1) := by decide +kernel
theorem dX0_enterInOrder_94 : decode cX0_enterInOrder 94 = .ok (.isub, 1) := by decide +kernel
theorem dX0_enterInOrder_95 : decode cX0_enterInOrder 95 = .ok (.iaload, 1) := by decide +kernel
theorem dX0_enterInOrder_96 : decode cX0_enterInOrder 96 = .ok (.iastore, 1) := by decide +kernel
theorem dX0_enterInOrder_97 : decode cX0_enterInOrder 97 = .ok (.aload_n 0, 1) := by decide +kernel
theorem dX0_enterInOrder_98 : decode cX0_enterInOrder 98 = .ok (.getfield 33, 3) := by decide +kernel
theorem dX0_enterInOrder_101 : decode cX0_enterInOrder 101 = .ok (.iload 6, 2) := by decide +kernel
theorem dX0_enterInOrder_103 : decode cX0_enterInOrder 103 = .ok (.aload_n 0, 1) := by decide +kernel
theorem dX0_enterInOrder_104 : decode cX0_enterInOrder 104 = .ok (.getfield 33, 3) := by decide +kernel
theorem dX0_enterInOrder_107 : decode cX0_enterInOrder 107 = .ok (.iload 6, 2) := by decide +kernel
theorem dX0_enterInOrder_109 : decode cX0_enterInOrder 109 = .ok (.iconst 1, 1) := by decide +kernel
theorem dX0_enterInOrder_110 : decode cX0_enterInOrder 110 = .ok (.isub, 1) := by decide +kernel
theorem dX0_enterInOrder_111 : decode cX0_enterInOrder 111 = .ok (.iaload, 1) := by decide +kernel
theorem dX0_enterInOrder_112 : decode cX0_enterInOrder 112 = .ok (.iastore, 1) := by decide +kernel
theorem dX0_enterInOrder_113 : decode cX0_enterInOrder 113 = .ok (.iinc 6 (-1), 3) := by decide +kernel
theorem dX0_enterInOrder_116 : decode cX0_enterInOrder 116 = .ok (.goto (-42), 3) := by decide +kernel
theorem dX0_enterInOrder_119 : decode cX0_enterInOrder 119 = .ok (.aload_n 0, 1) := by decide +kernel
theorem dX0_enterInOrder_120 : decode cX0_enterInOrder 120 = .ok (.getfield 30, 3) := by decide +kernel
theorem dX0_enterInOrder_123 : decode cX0_enterInOrder 123 = .ok (.iload 4, 2) := by decide +kernel
theorem dX0_enterInOrder_125 : decode cX0_enterInOrder 125 = .ok (.iload_n 3, 1) := by decide +kernel
theorem dX0_enterInOrder_126 : decode cX0_enterInOrder 126 = .ok (.iastore, 1) := by decide +kernel
theorem dX0_enterInOrder_127 : decode cX0_enterInOrder 127 = .ok (.aload_n 0, 1) := by decide +kernel
theorem dX0_enterInOrder_128 : decode cX0_enterInOrder 128 = .ok (.getfield 33, 3) := by decide +kernel
theorem dX0_enterInOrder_131 : decode cX0_enterInOrder 131 = .ok (.iload 4, 2) := by decide +kernel
theorem dX0_enterInOrder_133 : decode cX0_enterInOrder 133 = .ok (.iconst 1, 1) := by decide +kernel
theorem dX0_enterInOrder_134 : decode cX0_enterInOrder 134 = .ok (.iload_n 1, 1) := by decide +kernel
theorem dX0_enterInOrder_135 : decode cX0_enterInOrder 135 = .ok (.ishl, 1) := by decide +kernel
theorem dX0_enterInOrder_136 : decode cX0_enterInOrder 136 = .ok (.iastore, 1) := by decide +kernel
theorem dX0_enterInOrder_137 : decode cX0_enterInOrder 137 = .ok (.aload_n 0, 1) := by decide +kernel
theorem dX0_enterInOrder_138 : decode cX0_enterInOrder 138 = .ok (.dup, 1) := by decide +kernel
theorem dX0_enterInOrder_139 : decode cX0_enterInOrder 139 = .ok (.getfield 52, 3) := by decide +kernel
theorem dX0_enterInOrder_142 : decode cX0_enterInOrder 142 = .ok (.iconst 1, 1) := by decide +kernel
theorem dX0_enterInOrder_143 : decode cX0_enterInOrder 143 = .ok (.iadd, 1) := by decide +kernel
theorem dX0_enterInOrder_144 : decode cX0_enterInOrder 144 = .ok (.putfield 52, 3) := by decide +kernel
theorem dX0_enterInOrder_147 : decode cX0_enterInOrder 147 = .ok (.return_, 1) := by decide +kernel
set_option maxRecDepth 20000 in
theorem ggX0_compare_J6_signum_0f7a4 : GoodIn wsX0_compare wsJ6_signum_0f7a4 := goodIn_r _ [6] (by decide +kernel) (by decide +kernel)
set_option maxRecDepth 20000 in
theorem gX0_compare_J6_signum_0f7a4 : GoodIn wsX0_compare (va_wsS RX0 73 yJ6_signum_0f7a4 wsJ6_signum_0f7a4) := goodIn_app (goodIn_of _ (by decide +kernel)) ggX0_compare_J6_signum_0f7a4
set_option maxRecDepth 20000 in
theorem ggX0_compare_X0_signAtRoot : GoodIn wsX0_compare wsX0_signAtRoot := goodIn_r _ [11, 1, 12, 13, 14, 2, 15, 3, 4, 5, 6, 16, 17, 10, 18, 19, 20, 21, 22, 23, 24, 25, 26, 27, 28, 29, 30, 31, 32, 33, 34, 35, 36] (by decide +kernel) (by decide +kernel)
set_option maxRecDepth 20000 in
theorem gX0_compare_X0_signAtRoot : GoodIn wsX0_compare (wsV RX0 79 RX0 yX0_signAtRoot wsX0_signAtRoot) := goodIn_app (goodIn_of _ (by decide +kernel)) ggX0_compare_X0_signAtRoot
theorem dX0_compare_0 : decode cX0_compare 0 = .ok (.iload_n 2, 1) := by decide +kernel
theorem dX0_compare_1 : decode cX0_compare 1 = .ok (.iconst 2, 1) := by decide +kernel
theorem dX0_compare_2 : decode cX0_compare 2 = .ok (.idiv, 1) := by decide +kernel
theorem dX0_compare_3 : decode cX0_compare 3 = .ok (.istore_n 3, 1) := by decide +kernel
theorem dX0_compare_4 : decode cX0_compare 4 = .ok (.aload_n 0, 1) := by decide +kernel
theorem dX0_compare_5 : decode cX0_compare 5 = .ok (.getfield 9, 3) := by decide +kernel
theorem dX0_compare_8 : decode cX0_compare 8 = .ok (.iload_n 3, 1) := by decide +kernel
theorem dX0_compare_9 : decode cX0_compare 9 = .ok (.iconst 3, 1) := by decide +kernel
theorem dX0_compare_10 : decode cX0_compare 10 = .ok (.imul, 1) := by decide +kernel
theorem dX0_compare_11 : decode cX0_compare 11 = .ok (.iconst 2, 1) := by decide +kernel
theorem dX0_compare_12 : decode cX0_compare 12 = .ok (.iadd, 1) := by decide +kernel
theorem dX0_compare_13 : decode cX0_compare 13 = .ok (.iaload, 1) := by decide +kernel
theorem dX0_compare_14 : decode cX0_compare 14 = .ok (.invokestatic 73, 3) := by decide +kernel
theorem dX0_compare_17 : decode cX0_compare 17 = .ok (.istore 4, 2) := by decide +kernel
theorem dX0_compare_19 : decode cX0_compare 19 = .ok (.aload_n 0, 1) := by decide +kernel
theorem dX0_compare_20 : decode cX0_compare 20 = .ok (.iload_n 3, 1) := by decide +kernel
theorem dX0_compare_21 : decode cX0_compare 21 = .ok (.iconst 0, 1) := by decide +kernel
theorem dX0_compare_22 : decode cX0_compare 22 = .ok (.iload_n 1, 1) := by decide +kernel
theorem dX0_compare_23 : decode cX0_compare 23 = .ok (.invokevirtual 79, 3) := by decide +kernel
theorem dX0_compare_26 : decode cX0_compare 26 = .ok (.istore 5, 2) := by decide +kernel
theorem dX0_compare_28 : decode cX0_compare 28 = .ok (.aload_n 0, 1) := by decide +kernel
theorem dX0_compare_29 : decode cX0_compare 29 = .ok (.iload_n 3, 1) := by decide +kernel
theorem dX0_compare_30 : decode cX0_compare 30 = .ok (.iconst 1, 1) := by decide +kernel
theorem dX0_compare_31 : decode cX0_compare 31 = .ok (.iload_n 1, 1) := by decide +kernel
theorem dX0_compare_32 : decode cX0_compare 32 = .ok (.invokevirtual 79, 3) := by decide +kernel
theorem dX0_compare_35 : decode cX0_compare 35 = .ok (.istore 6, 2) := by decide +kernel
theorem dX0_compare_37 : decode cX0_compare 37 = .ok (.iload 4, 2) := by decide +kernel
theorem dX0_compare_39 : decode cX0_compare 39 = .ok (.ifCond .ne 9, 3) := by decide +kernel
theorem dX0_compare_42 : decode cX0_compare 42 = .ok (.iload 5, 2) := by decide +kernel
theorem dX0_compare_44 : decode cX0_compare 44 = .ok (.iload 6, 2) := by decide +kernel
theorem dX0_compare_46 : decode cX0_compare 46 = .ok (.imul, 1) := by decide +kernel
theorem dX0_compare_47 : decode cX0_compare 47 = .ok (.ireturn, 1) := by decide +kernel
theorem dX0_compare_48 : decode cX0_compare 48 = .ok (.iload 6, 2) := by decide +kernel
theorem dX0_compare_50 : decode cX0_compare 50 = .ok (.iload 4, 2) := by decide +kernel
theorem dX0_compare_52 : decode cX0_compare 52 = .ok (.imul, 1) := by decide +kernel
theorem dX0_compare_53 : decode cX0_compare 53 = .ok (.istore 7, 2) := by decide +kernel
theorem dX0_compare_55 : decode cX0_compare 55 = .ok (.iload 5, 2) := by decide +kernel
theorem dX0_compare_57 : decode cX0_compare 57 = .ok (.iload 4, 2) := by decide +kernel
theorem dX0_compare_59 : decode cX0_compare 59 = .ok (.imul, 1) := by decide +kernel
theorem dX0_compare_60 : decode cX0_compare 60 = .ok (.istore 8, 2) := by decide +kernel
theorem dX0_compare_62 : decode cX0_compare 62 = .ok (.aload_n 0, 1) := by decide +kernel
theorem dX0_compare_63 : decode cX0_compare 63 = .ok (.getfield 21, 3) := by decide +kernel
theorem dX0_compare_66 : decode cX0_compare 66 = .ok (.iload_n 2, 1) := by decide +kernel
theorem dX0_compare_67 : decode cX0_compare 67 = .ok (.iaload, 1) := by decide +kernel
theorem dX0_compare_68 : decode cX0_compare 68 = .ok (.ifCond .ne 6, 3) := by decide +kernel
theorem dX0_compare_71 : decode cX0_compare 71 = .ok (.iload 7, 2) := by decide +kernel
theorem dX0_compare_73 : decode cX0_compare 73 = .ok (.ireturn, 1) := by decide +kernel
theorem dX0_compare_74 : decode cX0_compare 74 = .ok (.aload_n 0, 1) := by decide +kernel
theorem dX0_compare_75 : decode cX0_compare 75 = .ok (.getfield 21, 3) := by decide +kernel
theorem dX0_compare_78 : decode cX0_compare 78 = .ok (.iload_n 2, 1) := by decide +kernel
theorem dX0_compare_79 : decode cX0_compare 79 = .ok (.iaload, 1) := by decide +kernel
theorem dX0_compare_80 : decode cX0_compare 80 = .ok (.ifCond .ge 16, 3) := by decide +kernel
theorem dX0_compare_83 : decode cX0_compare 83 = .ok (.iload 7, 2) := by decide +kernel
theorem dX0_compare_85 : decode cX0_compare 85 = .ok (.ifCond .ge 9, 3) := by decide +kernel
theorem dX0_compare_88 : decode cX0_compare 88 = .ok (.iload 8, 2) := by decide +kernel
theorem dX0_compare_90 : decode cX0_compare 90 = .ok (.ineg, 1) := by decide +kernel
theorem dX0_compare_91 : decode cX0_compare 91 = .ok (.goto 4, 3) := by decide +kernel
theorem dX0_compare_94 : decode cX0_compare 94 = .ok (.iconst 1, 1) := by decide +kernel
theorem dX0_compare_95 : decode cX0_compare 95 = .ok (.ireturn, 1) := by decide +kernel
theorem dX0_compare_96 : decode cX0_compare 96 = .ok (.iload 7, 2) := by decide +kernel
theorem dX0_compare_98 : decode cX0_compare 98 = .ok (.ifCond .le 8, 3) := by decide +kernel
theorem dX0_compare_101 : decode cX0_compare 101 = .ok (.iload 8, 2) := by decide +kernel
theorem dX0_compare_103 : decode cX0_compare 103 = .ok (.goto 4, 3) := by decide +kernel
theorem dX0_compare_106 : decode cX0_compare 106 = .ok (.iconst (-1), 1) := by decide +kernel
theorem dX0_compare_107 : decode cX0_compare 107 = .ok (.ireturn, 1) := by decide +kernel
set_option maxRecDepth 20000 in
theorem ggX0_signAtRoot_J6_signum_0f7a4 : GoodIn wsX0_signAtRoot wsJ6_signum_0f7a4 := goodIn_r _ [10] (by decide +kernel) (by decide +kernel)
set_option maxRecDepth 20000 in
theorem gX0_signAtRoot_J6_signum_0f7a4 : GoodIn wsX0_signAtRoot (va_wsS RX0 73 yJ6_signum_0f7a4 wsJ6_signum_0f7a4) := goodIn_app (goodIn_of _ (by decide +kernel)) ggX0_signAtRoot_J6_signum_0f7a4
set_option maxRecDepth 20000 in
theorem ggX0_signAtRoot_X0_signOfSum : GoodIn wsX0_signAtRoot wsX0_signOfSum := goodIn_r _ [14, 15, 16, 17, 18] (by decide +kernel) (by decide +kernel)
set_option maxRecDepth 20000 in
theorem gX0_signAtRoot_X0_signOfSum : GoodIn wsX0_signAtRoot (va_wsS RX0 85 yX0_signOfSum wsX0_signOfSum) := goodIn_app (goodIn_of _ (by decide +kernel)) ggX0_signAtRoot_X0_signOfSum
theorem dX0_signAtRoot_0 : decode cX0_signAtRoot 0 = .ok (.aload_n 0, 1) := by decide +kernel
theorem dX0_signAtRoot_1 : decode cX0_signAtRoot 1 = .ok (.getfield 9, 3) := by decide +kernel
theorem dX0_signAtRoot_4 : decode cX0_signAtRoot 4 = .ok (.iload_n 1, 1) := by decide +kernel
theorem dX0_signAtRoot_5 : decode cX0_signAtRoot 5 = .ok (.iconst 3, 1) := by decide +kernel
theorem dX0_signAtRoot_6 : decode cX0_signAtRoot 6 = .ok (.imul, 1) := by decide +kernel
theorem dX0_signAtRoot_7 : decode cX0_signAtRoot 7 = .ok (.iaload, 1) := by decide +kernel
theorem dX0_signAtRoot_8 : decode cX0_signAtRoot 8 = .ok (.istore 4, 2) := by decide +kernel
theorem dX0_signAtRoot_10 : decode cX0_signAtRoot 10 = .ok (.aload_n 0, 1) := by decide +kernel
theorem dX0_signAtRoot_11 : decode cX0_signAtRoot 11 = .ok (.getfield 9, 3) := by decide +kernel
theorem dX0_signAtRoot_14 : decode cX0_signAtRoot 14 = .ok (.iload_n 1, 1) := by decide +kernel
theorem dX0_signAtRoot_15 : decode cX0_signAtRoot 15 = .ok (.iconst 3, 1) := by decide +kernel
theorem dX0_signAtRoot_16 : decode cX0_signAtRoot 16 = .ok (.imul, 1) := by decide +kernel
theorem dX0_signAtRoot_17 : decode cX0_signAtRoot 17 = .ok (.iconst 1, 1) := by decide +kernel
theorem dX0_signAtRoot_18 : decode cX0_signAtRoot 18 = .ok (.iadd, 1) := by decide +kernel
theorem dX0_signAtRoot_19 : decode cX0_signAtRoot 19 = .ok (.iaload, 1) := by decide +kernel
theorem dX0_signAtRoot_20 : decode cX0_signAtRoot 20 = .ok (.istore 5, 2) := by decide +kernel
theorem dX0_signAtRoot_22 : decode cX0_signAtRoot 22 = .ok (.aload_n 0, 1) := by decide +kernel
theorem dX0_signAtRoot_23 : decode cX0_signAtRoot 23 = .ok (.getfield 9, 3) := by decide +kernel
theorem dX0_signAtRoot_26 : decode cX0_signAtRoot 26 = .ok (.iload_n 1, 1) := by decide +kernel
theorem dX0_signAtRoot_27 : decode cX0_signAtRoot 27 = .ok (.iconst 3, 1) := by decide +kernel
theorem dX0_signAtRoot_28 : decode cX0_signAtRoot 28 = .ok (.imul, 1) := by decide +kernel
theorem dX0_signAtRoot_29 : decode cX0_signAtRoot 29 = .ok (.iconst 2, 1) := by decide +kernel
theorem dX0_signAtRoot_30 : decode cX0_signAtRoot 30 = .ok (.iadd, 1) := by decide +kernel
theorem dX0_signAtRoot_31 : decode cX0_signAtRoot 31 = .ok (.iaload, 1) := by decide +kernel
theorem dX0_signAtRoot_32 : decode cX0_signAtRoot 32 = .ok (.istore 6, 2) := by decide +kernel
theorem dX0_signAtRoot_34 : decode cX0_signAtRoot 34 = .ok (.iload_n 2, 1) := by decide +kernel
theorem dX0_signAtRoot_35 : decode cX0_signAtRoot 35 = .ok (.iconst 2, 1) := by decide +kernel
theorem dX0_signAtRoot_36 : decode cX0_signAtRoot 36 = .ok (.if_icmp .ne 9, 3) := by decide +kernel
theorem dX0_signAtRoot_39 : decode cX0_signAtRoot 39 = .ok (.iload 6, 2) := by decide +kernel
theorem dX0_signAtRoot_41 : decode cX0_signAtRoot 41 = .ok (.invokestatic 73, 3) := by decide +kernel
theorem dX0_signAtRoot_44 : decode cX0_signAtRoot 44 = .ok (.ireturn, 1) := by decide +kernel
theorem dX0_signAtRoot_45 : decode cX0_signAtRoot 45 = .ok (.iload_n 2, 1) := by decide +kernel
theorem dX0_signAtRoot_46 : decode cX0_signAtRoot 46 = .ok (.ifCond .ne 9, 3) := by decide +kernel
theorem dX0_signAtRoot_49 : decode cX0_signAtRoot 49 = .ok (.iload 4, 2) := by decide +kernel
theorem dX0_signAtRoot_51 : decode cX0_signAtRoot 51 = .ok (.i2l, 1) := by decide +kernel
theorem dX0_signAtRoot_52 : decode cX0_signAtRoot 52 = .ok (.goto 6, 3) := by decide +kernel
theorem dX0_signAtRoot_55 : decode cX0_signAtRoot 55 = .ok (.iload 5, 2) := by decide +kernel
theorem dX0_signAtRoot_57 : decode cX0_signAtRoot 57 = .ok (.i2l, 1) := by decide +kernel
theorem dX0_signAtRoot_58 : decode cX0_signAtRoot 58 = .ok (.lstore 7, 2) := by decide +kernel
theorem dX0_signAtRoot_60 : decode cX0_signAtRoot 60 = .ok (.iload_n 2, 1) := by decide +kernel
theorem dX0_signAtRoot_61 : decode cX0_signAtRoot 61 = .ok (.ifCond .ne 9, 3) := by decide +kernel
theorem dX0_signAtRoot_64 : decode cX0_signAtRoot 64 = .ok (.iload 5, 2) := by decide +kernel
theorem dX0_signAtRoot_66 : decode cX0_signAtRoot 66 = .ok (.i2l, 1) := by decide +kernel
theorem dX0_signAtRoot_67 : decode cX0_signAtRoot 67 = .ok (.goto 8, 3) := by decide +kernel
theorem dX0_signAtRoot_70 : decode cX0_signAtRoot 70 = .ok (.iconst 2, 1) := by decide +kernel
theorem dX0_signAtRoot_71 : decode cX0_signAtRoot 71 = .ok (.iload 6, 2) := by decide +kernel
theorem dX0_signAtRoot_73 : decode cX0_signAtRoot 73 = .ok (.imul, 1) := by decide +kernel
theorem dX0_signAtRoot_74 : decode cX0_signAtRoot 74 = .ok (.i2l, 1) := by decide +kernel
theorem dX0_signAtRoot_75 : decode cX0_signAtRoot 75 = .ok (.lstore 9, 2) := by decide +kernel
theorem dX0_signAtRoot_77 : decode cX0_signAtRoot 77 = .ok (.iload_n 2, 1) := by decide +kernel
theorem dX0_signAtRoot_78 : decode cX0_signAtRoot 78 = .ok (.ifCond .ne 9, 3) := by decide +kernel
theorem dX0_signAtRoot_81 : decode cX0_signAtRoot 81 = .ok (.iload 6, 2) := by decide +kernel
theorem dX0_signAtRoot_83 : decode cX0_signAtRoot 83 = .ok (.i2l, 1) := by decide +kernel
theorem dX0_signAtRoot_84 : decode cX0_signAtRoot 84 = .ok (.goto 4, 3) := by decide +kernel
theorem dX0_signAtRoot_87 : decode cX0_signAtRoot 87 = .ok (.lconst 0, 1) := by decide +kernel
theorem dX0_signAtRoot_88 : decode cX0_signAtRoot 88 = .ok (.lstore 11, 2) := by decide +kernel
theorem dX0_signAtRoot_90 : decode cX0_signAtRoot 90 = .ok (.aload_n 0, 1) := by decide +kernel
theorem dX0_signAtRoot_91 : decode cX0_signAtRoot 91 = .ok (.getfield 18, 3) := by decide +kernel
theorem dX0_signAtRoot_94 : decode cX0_signAtRoot 94 = .ok (.iload_n 3, 1) := by decide +kernel
theorem dX0_signAtRoot_95 : decode cX0_signAtRoot 95 = .ok (.iaload, 1) := by decide +kernel
theorem dX0_signAtRoot_96 : decode cX0_signAtRoot 96 = .ok (.i2l, 1) := by decide +kernel
theorem dX0_signAtRoot_97 : decode cX0_signAtRoot 97 = .ok (.lstore 13, 2) := by decide +kernel
theorem dX0_signAtRoot_99 : decode cX0_signAtRoot 99 = .ok (.aload_n 0, 1) := by decide +kernel
theorem dX0_signAtRoot_100 : decode cX0_signAtRoot 100 = .ok (.getfield 24, 3) := by decide +kernel
theorem dX0_signAtRoot_103 : decode cX0_signAtRoot 103 = .ok (.iload_n 3, 1) := by decide +kernel
theorem dX0_signAtRoot_104 : decode cX0_signAtRoot 104 = .ok (.iaload, 1) := by decide +kernel
theorem dX0_signAtRoot_105 : decode cX0_signAtRoot 105 = .ok (.i2l, 1) := by decide +kernel
theorem dX0_signAtRoot_106 : decode cX0_signAtRoot 106 = .ok (.lstore 15, 2) := by decide +kernel
theorem dX0_signAtRoot_108 : decode cX0_signAtRoot 108 = .ok (.aload_n 0, 1) := by decide +kernel
theorem dX0_signAtRoot_109 : decode cX0_signAtRoot 109 = .ok (.getfield 27, 3) := by decide +kernel
theorem dX0_signAtRoot_112 : decode cX0_signAtRoot 112 = .ok (.iload_n 3, 1) := by decide +kernel
theorem dX0_signAtRoot_113 : decode cX0_signAtRoot 113 = .ok (.iaload, 1) := by decide +kernel
theorem dX0_signAtRoot_114 : decode cX0_signAtRoot 114 = .ok (.i2l, 1) := by decide +kernel
theorem dX0_signAtRoot_115 : decode cX0_signAtRoot 115 = .ok (.lstore 17, 2) := by decide +kernel
theorem dX0_signAtRoot_117 : decode cX0_signAtRoot 117 = .ok (.lload 7, 2) := by decide +kernel
theorem dX0_signAtRoot_119 : decode cX0_signAtRoot 119 = .ok (.lload 17, 2) := by decide +kernel
theorem dX0_signAtRoot_121 : decode cX0_signAtRoot 121 = .ok (.lmul, 1) := by decide +kernel
theorem dX0_signAtRoot_122 : decode cX0_signAtRoot 122 = .ok (.lload 17, 2) := by decide +kernel
theorem dX0_signAtRoot_124 : decode cX0_signAtRoot 124 = .ok (.lmul, 1) := by decide +kernel
theorem dX0_signAtRoot_125 : decode cX0_signAtRoot 125 = .ok (.lload 9, 2) := by decide +kernel
theorem dX0_signAtRoot_127 : decode cX0_signAtRoot 127 = .ok (.lload 17, 2) := by decide +kernel
theorem dX0_signAtRoot_129 : decode cX0_signAtRoot 129 = .ok (.lmul, 1) := by decide +kernel
theorem dX0_signAtRoot_130 : decode cX0_signAtRoot 130 = .ok (.lload 13, 2) := by decide +kernel
theorem dX0_signAtRoot_132 : decode cX0_signAtRoot 132 = .ok (.lmul, 1) := by decide +kernel
theorem dX0_signAtRoot_133 : decode cX0_signAtRoot 133 = .ok (.ladd, 1) := by decide +kernel
theorem dX0_signAtRoot_134 : decode cX0_signAtRoot 134 = .ok (.lload 11, 2) := by decide +kernel
theorem dX0_signAtRoot_136 : decode cX0_signAtRoot 136 = .ok (.lload 13, 2) := by decide +kernel
theorem dX0_signAtRoot_138 : decode cX0_signAtRoot 138 = .ok (.lload 13, 2) := by decide +kernel
theorem dX0_signAtRoot_140 : decode cX0_signAtRoot 140 = .ok (.lmul, 1) := by decide +kernel
theorem dX0_signAtRoot_141 : decode cX0_signAtRoot 141 = .ok (.lload 15, 2) := by decide +kernel
theorem dX0_signAtRoot_143 : decode cX0_signAtRoot 143 = .ok (.ladd, 1) := by decide +kernel
theorem dX0_signAtRoot_144 : decode cX0_signAtRoot 144 = .ok (.lmul, 1) := by decide +kernel
theorem dX0_signAtRoot_145 : decode cX0_signAtRoot 145 = .ok (.ladd, 1) := by decide +kernel
theorem dX0_signAtRoot_146 : decode cX0_signAtRoot 146 = .ok (.lstore 19, 2) := by decide +kernel
theorem dX0_signAtRoot_148 : decode cX0_signAtRoot 148 = .ok (.aload_n 0, 1) := by decide +kernel
theorem dX0_signAtRoot_149 : decode cX0_signAtRoot 149 = .ok (.getfield 21, 3) := by decide +kernel
theorem dX0_signAtRoot_152 : decode cX0_signAtRoot 152 = .ok (.iload_n 3, 1) := by decide +kernel
theorem dX0_signAtRoot_153 : decode cX0_signAtRoot 153 = .ok (.iaload, 1) := by decide +kernel
theorem dX0_signAtRoot_154 : decode cX0_signAtRoot 154 = .ok (.i2l, 1) := by decide +kernel
theorem dX0_signAtRoot_155 : decode cX0_signAtRoot 155 = .ok (.lload 9, 2) := by decide +kernel
theorem dX0_signAtRoot_157 : decode cX0_signAtRoot 157 = .ok (.lload 17, 2) := by decide +kernel
theorem dX0_signAtRoot_159 : decode cX0_signAtRoot 159 = .ok (.lmul, 1) := by decide +kernel
theorem dX0_signAtRoot_160 : decode cX0_signAtRoot 160 = .ok (.ldc2_w 83, 3) := by decide +kernel
theorem dX0_signAtRoot_163 : decode cX0_signAtRoot 163 = .ok (.lload 11, 2) := by decide +kernel
theorem dX0_signAtRoot_165 : decode cX0_signAtRoot 165 = .ok (.lmul, 1) := by decide +kernel
theorem dX0_signAtRoot_166 : decode cX0_signAtRoot 166 = .ok (.lload 13, 2) := by decide +kernel
theorem dX0_signAtRoot_168 : decode cX0_signAtRoot 168 = .ok (.lmul, 1) := by decide +kernel
theorem dX0_signAtRoot_169 : decode cX0_signAtRoot 169 = .ok (.ladd, 1) := by decide +kernel
theorem dX0_signAtRoot_170 : decode cX0_signAtRoot 170 = .ok (.lmul, 1) := by decide +kernel
theorem dX0_signAtRoot_171 : decode cX0_signAtRoot 171 = .ok (.lstore 21, 2) := by decide +kernel
theorem dX0_signAtRoot_173 : decode cX0_signAtRoot 173 = .ok (.lload 19, 2) := by decide +kernel
theorem dX0_signAtRoot_175 : decode cX0_signAtRoot 175 = .ok (.lload 21, 2) := by decide +kernel
theorem dX0_signAtRoot_177 : decode cX0_signAtRoot 177 = .ok (.lload 15, 2) := by decide +kernel
theorem dX0_signAtRoot_179 : decode cX0_signAtRoot 179 = .ok (.invokestatic 85, 3) := by decide +kernel
theorem dX0_signAtRoot_182 : decode cX0_signAtRoot 182 = .ok (.ireturn, 1) := by decide +kernel
set_option maxRecDepth 20000 in
theorem ggX0_signOfSum_J13_signum_95d88 : GoodIn wsX0_signOfSum wsJ13_signum_95d88 := goodIn_r _ [4] (by decide +kernel) (by decide +kernel)
set_option maxRecDepth 20000 in
theorem gX0_signOfSum_J13_signum_95d88 : GoodIn wsX0_signOfSum (va_wsS RX0 89 yJ13_signum_95d88 wsJ13_signum_95d88) := goodIn_app (goodIn_of _ (by decide +kernel)) ggX0_signOfSum_J13_signum_95d88
theorem dX0_signOfSum_0 : decode cX0_signOfSum 0 = .ok (.lload_n 0, 1) := by decide +kernel
theorem dX0_signOfSum_1 : decode cX0_signOfSum 1 = .ok (.invokestatic 89, 3) := by decide +kernel
theorem dX0_signOfSum_4 : decode cX0_signOfSum 4 = .ok (.istore 6, 2) := by decide +kernel
theorem dX0_signOfSum_6 : decode cX0_signOfSum 6 = .ok (.lload 4, 2) := by decide +kernel
theorem dX0_signOfSum_8 : decode cX0_signOfSum 8 = .ok (.lconst 0, 1) := by decide +kernel
theorem dX0_signOfSum_9 : decode cX0_signOfSum 9 = .ok (.lcmp, 1) := by decide +kernel
theorem dX0_signOfSum_10 : decode cX0_signOfSum 10 = .ok (.ifCond .ne 7, 3) := by decide +kernel
theorem dX0_signOfSum_13 : decode cX0_signOfSum 13 = .ok (.iconst 0, 1) := by decide +kernel
theorem dX0_signOfSum_14 : decode cX0_signOfSum 14 = .ok (.goto 7, 3) := by decide +kernel
theorem dX0_signOfSum_17 : decode cX0_signOfSum 17 = .ok (.lload_n 2, 1) := by decide +kernel
theorem dX0_signOfSum_18 : decode cX0_signOfSum 18 = .ok (.invokestatic 89, 3) := by decide +kernel
theorem dX0_signOfSum_21 : decode cX0_signOfSum 21 = .ok (.istore 7, 2) := by decide +kernel
theorem dX0_signOfSum_23 : decode cX0_signOfSum 23 = .ok (.iload 6, 2) := by decide +kernel
theorem dX0_signOfSum_25 : decode cX0_signOfSum 25 = .ok (.iload 7, 2) := by decide +kernel
theorem dX0_signOfSum_27 : decode cX0_signOfSum 27 = .ok (.imul, 1) := by decide +kernel
theorem dX0_signOfSum_28 : decode cX0_signOfSum 28 = .ok (.ifCond .lt 16, 3) := by decide +kernel
theorem dX0_signOfSum_31 : decode cX0_signOfSum 31 = .ok (.iload 6, 2) := by decide +kernel
theorem dX0_signOfSum_33 : decode cX0_signOfSum 33 = .ok (.ifCond .ne 8, 3) := by decide +kernel
theorem dX0_signOfSum_36 : decode cX0_signOfSum 36 = .ok (.iload 7, 2) := by decide +kernel
theorem dX0_signOfSum_38 : decode cX0_signOfSum 38 = .ok (.goto 5, 3) := by decide +kernel
theorem dX0_signOfSum_41 : decode cX0_signOfSum 41 = .ok (.iload 6, 2) := by decide +kernel
theorem dX0_signOfSum_43 : decode cX0_signOfSum 43 = .ok (.ireturn, 1) := by decide +kernel
theorem dX0_signOfSum_44 : decode cX0_signOfSum 44 = .ok (.lload_n 0, 1) := by decide +kernel
theorem dX0_signOfSum_45 : decode cX0_signOfSum 45 = .ok (.lload_n 0, 1) := by decide +kernel
theorem dX0_signOfSum_46 : decode cX0_signOfSum 46 = .ok (.lmul, 1) := by decide +kernel
theorem dX0_signOfSum_47 : decode cX0_signOfSum 47 = .ok (.lload_n 2, 1) := by decide +kernel
theorem dX0_signOfSum_48 : decode cX0_signOfSum 48 = .ok (.lload_n 2, 1) := by decide +kernel
theorem dX0_signOfSum_49 : decode cX0_signOfSum 49 = .ok (.lmul, 1) := by decide +kernel
theorem dX0_signOfSum_50 : decode cX0_signOfSum 50 = .ok (.lload 4, 2) := by decide +kernel
theorem dX0_signOfSum_52 : decode cX0_signOfSum 52 = .ok (.lmul, 1) := by decide +kernel
theorem dX0_signOfSum_53 : decode cX0_signOfSum 53 = .ok (.lsub, 1) := by decide +kernel
theorem dX0_signOfSum_54 : decode cX0_signOfSum 54 = .ok (.lstore 8, 2) := by decide +kernel
theorem dX0_signOfSum_56 : decode cX0_signOfSum 56 = .ok (.lload 8, 2) := by decide +kernel
theorem dX0_signOfSum_58 : decode cX0_signOfSum 58 = .ok (.lconst 0, 1) := by decide +kernel
theorem dX0_signOfSum_59 : decode cX0_signOfSum 59 = .ok (.lcmp, 1) := by decide +kernel
theorem dX0_signOfSum_60 : decode cX0_signOfSum 60 = .ok (.ifCond .ne 5, 3) := by decide +kernel
theorem dX0_signOfSum_63 : decode cX0_signOfSum 63 = .ok (.iconst 0, 1) := by decide +kernel
theorem dX0_signOfSum_64 : decode cX0_signOfSum 64 = .ok (.ireturn, 1) := by decide +kernel
theorem dX0_signOfSum_65 : decode cX0_signOfSum 65 = .ok (.lload 8, 2) := by decide +kernel
theorem dX0_signOfSum_67 : decode cX0_signOfSum 67 = .ok (.lconst 0, 1) := by decide +kernel
theorem dX0_signOfSum_68 : decode cX0_signOfSum 68 = .ok (.lcmp, 1) := by decide +kernel
theorem dX0_signOfSum_69 : decode cX0_signOfSum 69 = .ok (.ifCond .le 8, 3) := by decide +kernel
theorem dX0_signOfSum_72 : decode cX0_signOfSum 72 = .ok (.iload 6, 2) := by decide +kernel
theorem dX0_signOfSum_74 : decode cX0_signOfSum 74 = .ok (.goto 5, 3) := by decide +kernel
theorem dX0_signOfSum_77 : decode cX0_signOfSum 77 = .ok (.iload 7, 2) := by decide +kernel
theorem dX0_signOfSum_79 : decode cX0_signOfSum 79 = .ok (.ireturn, 1) := by decide +kernel
set_option maxRecDepth 20000 in
theorem ggX0_nameOf_X0_signAtRoot : GoodIn wsX0_nameOf wsX0_signAtRoot := goodIn_r _ [5, 6, 7, 8, 9, 10, 11, 12, 13, 14, 15, 16, 17, 4, 18, 19, 20, 21, 22, 23, 24, 25, 26, 27, 28, 29, 30, 31, 32, 33, 34, 35, 36] (by decide +kernel) (by decide +kernel)
set_option maxRecDepth 20000 in
theorem gX0_nameOf_X0_signAtRoot : GoodIn wsX0_nameOf (wsV RX0 79 RX0 yX0_signAtRoot wsX0_signAtRoot) := goodIn_app (goodIn_of _ (by decide +kernel)) ggX0_nameOf_X0_signAtRoot
theorem dX0_nameOf_0 : decode cX0_nameOf 0 = .ok (.iload_n 1, 1) := by decide +kernel
theorem dX0_nameOf_1 : decode cX0_nameOf 1 = .ok (.iconst 2, 1) := by decide +kernel
theorem dX0_nameOf_2 : decode cX0_nameOf 2 = .ok (.imul, 1) := by decide +kernel
theorem dX0_nameOf_3 : decode cX0_nameOf 3 = .ok (.iload_n 2, 1) := by decide +kernel
theorem dX0_nameOf_4 : decode cX0_nameOf 4 = .ok (.iadd, 1) := by decide +kernel
theorem dX0_nameOf_5 : decode cX0_nameOf 5 = .ok (.istore_n 3, 1) := by decide +kernel
theorem dX0_nameOf_6 : decode cX0_nameOf 6 = .ok (.aload_n 0, 1) := by decide +kernel
theorem dX0_nameOf_7 : decode cX0_nameOf 7 = .ok (.iload_n 1, 1) := by decide +kernel
theorem dX0_nameOf_8 : decode cX0_nameOf 8 = .ok (.iconst 1, 1) := by decide +kernel
theorem dX0_nameOf_9 : decode cX0_nameOf 9 = .ok (.iload_n 3, 1) := by decide +kernel
theorem dX0_nameOf_10 : decode cX0_nameOf 10 = .ok (.invokevirtual 79, 3) := by decide +kernel
theorem dX0_nameOf_13 : decode cX0_nameOf 13 = .ok (.iconst 1, 1) := by decide +kernel
theorem dX0_nameOf_14 : decode cX0_nameOf 14 = .ok (.iadd, 1) := by decide +kernel
theorem dX0_nameOf_15 : decode cX0_nameOf 15 = .ok (.iconst 3, 1) := by decide +kernel
theorem dX0_nameOf_16 : decode cX0_nameOf 16 = .ok (.imul, 1) := by decide +kernel
theorem dX0_nameOf_17 : decode cX0_nameOf 17 = .ok (.aload_n 0, 1) := by decide +kernel
theorem dX0_nameOf_18 : decode cX0_nameOf 18 = .ok (.iload_n 1, 1) := by decide +kernel
theorem dX0_nameOf_19 : decode cX0_nameOf 19 = .ok (.iconst 2, 1) := by decide +kernel
theorem dX0_nameOf_20 : decode cX0_nameOf 20 = .ok (.iload_n 3, 1) := by decide +kernel
theorem dX0_nameOf_21 : decode cX0_nameOf 21 = .ok (.invokevirtual 79, 3) := by decide +kernel
theorem dX0_nameOf_24 : decode cX0_nameOf 24 = .ok (.iadd, 1) := by decide +kernel
theorem dX0_nameOf_25 : decode cX0_nameOf 25 = .ok (.iconst 1, 1) := by decide +kernel
theorem dX0_nameOf_26 : decode cX0_nameOf 26 = .ok (.iadd, 1) := by decide +kernel
theorem dX0_nameOf_27 : decode cX0_nameOf 27 = .ok (.ireturn, 1) := by decide +kernel
set_option maxRecDepth 20000 in
theorem ggX0_numberOf_X0_compare : GoodIn wsX0_numberOf wsX0_compare := goodIn_r _ [7, 8, 9, 10, 11, 12, 13, 14, 15, 16, 6, 17, 18, 19, 20, 21, 22, 23, 24, 25, 26, 27, 28, 29, 30, 31, 32, 33, 34, 35, 36, 37, 38, 39, 40, 41, 42] (by decide +kernel) (by decide +kernel)
set_option maxRecDepth 20000 in
theorem gX0_numberOf_X0_compare : GoodIn wsX0_numberOf (wsV RX0 70 RX0 yX0_compare wsX0_compare) := goodIn_app (goodIn_of _ (by decide +kernel)) ggX0_numberOf_X0_compare
theorem dX0_numberOf_0 : decode cX0_numberOf 0 = .ok (.iconst 0, 1) := by decide +kernel
theorem dX0_numberOf_1 : decode cX0_numberOf 1 = .ok (.istore_n 3, 1) := by decide +kernel
theorem dX0_numberOf_2 : decode cX0_numberOf 2 = .ok (.iload_n 3, 1) := by decide +kernel
theorem dX0_numberOf_3 : decode cX0_numberOf 3 = .ok (.aload_n 0, 1) := by decide +kernel
theorem dX0_numberOf_4 : decode cX0_numberOf 4 = .ok (.getfield 52, 3) := by decide +kernel
theorem dX0_numberOf_7 : decode cX0_numberOf 7 = .ok (.if_icmp .ge 29, 3) := by decide +kernel
theorem dX0_numberOf_10 : decode cX0_numberOf 10 = .ok (.aload_n 0, 1) := by decide +kernel
theorem dX0_numberOf_11 : decode cX0_numberOf 11 = .ok (.iload_n 1, 1) := by decide +kernel
theorem dX0_numberOf_12 : decode cX0_numberOf 12 = .ok (.iconst 2, 1) := by decide +kernel
theorem dX0_numberOf_13 : decode cX0_numberOf 13 = .ok (.imul, 1) := by decide +kernel
theorem dX0_numberOf_14 : decode cX0_numberOf 14 = .ok (.iload_n 2, 1) := by decide +kernel
theorem dX0_numberOf_15 : decode cX0_numberOf 15 = .ok (.iadd, 1) := by decide +kernel
theorem dX0_numberOf_16 : decode cX0_numberOf 16 = .ok (.aload_n 0, 1) := by decide +kernel
theorem dX0_numberOf_17 : decode cX0_numberOf 17 = .ok (.getfield 30, 3) := by decide +kernel
theorem dX0_numberOf_20 : decode cX0_numberOf 20 = .ok (.iload_n 3, 1) := by decide +kernel
theorem dX0_numberOf_21 : decode cX0_numberOf 21 = .ok (.iaload, 1) := by decide +kernel
theorem dX0_numberOf_22 : decode cX0_numberOf 22 = .ok (.invokevirtual 70, 3) := by decide +kernel
theorem dX0_numberOf_25 : decode cX0_numberOf 25 = .ok (.ifCond .ne 5, 3) := by decide +kernel
theorem dX0_numberOf_28 : decode cX0_numberOf 28 = .ok (.iload_n 3, 1) := by decide +kernel
theorem dX0_numberOf_29 : decode cX0_numberOf 29 = .ok (.ireturn, 1) := by decide +kernel
theorem dX0_numberOf_30 : decode cX0_numberOf 30 = .ok (.iinc 3 1, 3) := by decide +kernel
theorem dX0_numberOf_33 : decode cX0_numberOf 33 = .ok (.goto (-31), 3) := by decide +kernel
theorem dX0_numberOf_36 : decode cX0_numberOf 36 = .ok (.bipush (-9), 2) := by decide +kernel
theorem dX0_numberOf_38 : decode cX0_numberOf 38 = .ok (.ireturn, 1) := by decide +kernel
theorem dX0_spots_0 : decode cX0_spots 0 = .ok (.iconst 2, 1) := by decide +kernel
theorem dX0_spots_1 : decode cX0_spots 1 = .ok (.aload_n 0, 1) := by decide +kernel
theorem dX0_spots_2 : decode cX0_spots 2 = .ok (.getfield 52, 3) := by decide +kernel
theorem dX0_spots_5 : decode cX0_spots 5 = .ok (.imul, 1) := by decide +kernel
theorem dX0_spots_6 : decode cX0_spots 6 = .ok (.iconst 1, 1) := by decide +kernel
theorem dX0_spots_7 : decode cX0_spots 7 = .ok (.iadd, 1) := by decide +kernel
theorem dX0_spots_8 : decode cX0_spots 8 = .ok (.ireturn, 1) := by decide +kernel
set_option maxRecDepth 20000 in
theorem ggX0_signInSpot_X0_signAheadOfAll : GoodIn wsX0_signInSpot wsX0_signAheadOfAll := goodIn_r _ [6, 7, 8, 9, 10, 11, 28, 29, 30, 31, 32, 33, 34, 35, 36, 37, 38, 39, 40, 41] (by decide +kernel) (by decide +kernel)
set_option maxRecDepth 20000 in
theorem gX0_signInSpot_X0_signAheadOfAll : GoodIn wsX0_signInSpot (wsV RX0 94 RX0 yX0_signAheadOfAll wsX0_signAheadOfAll) := goodIn_app (goodIn_of _ (by decide +kernel)) ggX0_signInSpot_X0_signAheadOfAll
set_option maxRecDepth 20000 in
theorem ggX0_signInSpot_X0_signAtRoot : GoodIn wsX0_signInSpot wsX0_signAtRoot := goodIn_r _ [15, 7, 16, 17, 18, 19, 20, 8, 9, 10, 11, 21, 22, 5, 23, 24, 25, 26, 27, 28, 29, 30, 31, 32, 33, 34, 35, 36, 37, 38, 39, 40, 41] (by decide +kernel) (by decide +kernel)
set_option maxRecDepth 20000 in
theorem gX0_signInSpot_X0_signAtRoot : GoodIn wsX0_signInSpot (wsV RX0 79 RX0 yX0_signAtRoot wsX0_signAtRoot) := goodIn_app (goodIn_of _ (by decide +kernel)) ggX0_signInSpot_X0_signAtRoot
theorem dX0_signInSpot_0 : decode cX0_signInSpot 0 = .ok (.iload_n 1, 1) := by decide +kernel
theorem dX0_signInSpot_1 : decode cX0_signInSpot 1 = .ok (.ifCond .ne 9, 3) := by decide +kernel
theorem dX0_signInSpot_4 : decode cX0_signInSpot 4 = .ok (.aload_n 0, 1) := by decide +kernel
theorem dX0_signInSpot_5 : decode cX0_signInSpot 5 = .ok (.iload_n 2, 1) := by decide +kernel
theorem dX0_signInSpot_6 : decode cX0_signInSpot 6 = .ok (.invokevirtual 94, 3) := by decide +kernel
theorem dX0_signInSpot_9 : decode cX0_signInSpot 9 = .ok (.ireturn, 1) := by decide +kernel
theorem dX0_signInSpot_10 : decode cX0_signInSpot 10 = .ok (.aload_n 0, 1) := by decide +kernel
theorem dX0_signInSpot_11 : decode cX0_signInSpot 11 = .ok (.getfield 30, 3) := by decide +kernel
theorem dX0_signInSpot_14 : decode cX0_signInSpot 14 = .ok (.iload_n 1, 1) := by decide +kernel
theorem dX0_signInSpot_15 : decode cX0_signInSpot 15 = .ok (.iconst 1, 1) := by decide +kernel
theorem dX0_signInSpot_16 : decode cX0_signInSpot 16 = .ok (.isub, 1) := by decide +kernel
theorem dX0_signInSpot_17 : decode cX0_signInSpot 17 = .ok (.iconst 2, 1) := by decide +kernel
theorem dX0_signInSpot_18 : decode cX0_signInSpot 18 = .ok (.idiv, 1) := by decide +kernel
theorem dX0_signInSpot_19 : decode cX0_signInSpot 19 = .ok (.iaload, 1) := by decide +kernel
theorem dX0_signInSpot_20 : decode cX0_signInSpot 20 = .ok (.istore_n 3, 1) := by decide +kernel
theorem dX0_signInSpot_21 : decode cX0_signInSpot 21 = .ok (.aload_n 0, 1) := by decide +kernel
theorem dX0_signInSpot_22 : decode cX0_signInSpot 22 = .ok (.iload_n 2, 1) := by decide +kernel
theorem dX0_signInSpot_23 : decode cX0_signInSpot 23 = .ok (.iconst 0, 1) := by decide +kernel
theorem dX0_signInSpot_24 : decode cX0_signInSpot 24 = .ok (.iload_n 3, 1) := by decide +kernel
theorem dX0_signInSpot_25 : decode cX0_signInSpot 25 = .ok (.invokevirtual 79, 3) := by decide +kernel
theorem dX0_signInSpot_28 : decode cX0_signInSpot 28 = .ok (.istore 4, 2) := by decide +kernel
theorem dX0_signInSpot_30 : decode cX0_signInSpot 30 = .ok (.iload_n 1, 1) := by decide +kernel
theorem dX0_signInSpot_31 : decode cX0_signInSpot 31 = .ok (.iconst 2, 1) := by decide +kernel
theorem dX0_signInSpot_32 : decode cX0_signInSpot 32 = .ok (.irem, 1) := by decide +kernel
theorem dX0_signInSpot_33 : decode cX0_signInSpot 33 = .ok (.iconst 1, 1) := by decide +kernel
theorem dX0_signInSpot_34 : decode cX0_signInSpot 34 = .ok (.if_icmp .eq 8, 3) := by decide +kernel
theorem dX0_signInSpot_37 : decode cX0_signInSpot 37 = .ok (.iload 4, 2) := by decide +kernel
theorem dX0_signInSpot_39 : decode cX0_signInSpot 39 = .ok (.ifCond .eq 6, 3) := by decide +kernel
theorem dX0_signInSpot_42 : decode cX0_signInSpot 42 = .ok (.iload 4, 2) := by decide +kernel
theorem dX0_signInSpot_44 : decode cX0_signInSpot 44 = .ok (.ireturn, 1) := by decide +kernel
theorem dX0_signInSpot_45 : decode cX0_signInSpot 45 = .ok (.aload_n 0, 1) := by decide +kernel
theorem dX0_signInSpot_46 : decode cX0_signInSpot 46 = .ok (.iload_n 2, 1) := by decide +kernel
theorem dX0_signInSpot_47 : decode cX0_signInSpot 47 = .ok (.iconst 1, 1) := by decide +kernel
theorem dX0_signInSpot_48 : decode cX0_signInSpot 48 = .ok (.iload_n 3, 1) := by decide +kernel
theorem dX0_signInSpot_49 : decode cX0_signInSpot 49 = .ok (.invokevirtual 79, 3) := by decide +kernel
theorem dX0_signInSpot_52 : decode cX0_signInSpot 52 = .ok (.istore 5, 2) := by decide +kernel
theorem dX0_signInSpot_54 : decode cX0_signInSpot 54 = .ok (.iload 5, 2) := by decide +kernel
theorem dX0_signInSpot_56 : decode cX0_signInSpot 56 = .ok (.ifCond .eq 8, 3) := by decide +kernel
theorem dX0_signInSpot_59 : decode cX0_signInSpot 59 = .ok (.iload 5, 2) := by decide +kernel
theorem dX0_signInSpot_61 : decode cX0_signInSpot 61 = .ok (.goto 10, 3) := by decide +kernel
theorem dX0_signInSpot_64 : decode cX0_signInSpot 64 = .ok (.aload_n 0, 1) := by decide +kernel
theorem dX0_signInSpot_65 : decode cX0_signInSpot 65 = .ok (.iload_n 2, 1) := by decide +kernel
theorem dX0_signInSpot_66 : decode cX0_signInSpot 66 = .ok (.iconst 2, 1) := by decide +kernel
theorem dX0_signInSpot_67 : decode cX0_signInSpot 67 = .ok (.iload_n 3, 1) := by decide +kernel
theorem dX0_signInSpot_68 : decode cX0_signInSpot 68 = .ok (.invokevirtual 79, 3) := by decide +kernel
theorem dX0_signInSpot_71 : decode cX0_signInSpot 71 = .ok (.ireturn, 1) := by decide +kernel
set_option maxRecDepth 20000 in
theorem ggX0_signAheadOfAll_J6_signum_0f7a4 : GoodIn wsX0_signAheadOfAll wsJ6_signum_0f7a4 := goodIn_r _ [5] (by decide +kernel) (by decide +kernel)
set_option maxRecDepth 20000 in
theorem gX0_signAheadOfAll_J6_signum_0f7a4 : GoodIn wsX0_signAheadOfAll (va_wsS RX0 73 yJ6_signum_0f7a4 wsJ6_signum_0f7a4) := goodIn_app (goodIn_of _ (by decide +kernel)) ggX0_signAheadOfAll_J6_signum_0f7a4
theorem dX0_signAheadOfAll_0 : decode cX0_signAheadOfAll 0 = .ok (.aload_n 0, 1) := by decide +kernel
theorem dX0_signAheadOfAll_1 : decode cX0_signAheadOfAll 1 = .ok (.getfield 9, 3) := by decide +kernel
theorem dX0_signAheadOfAll_4 : decode cX0_signAheadOfAll 4 = .ok (.iload_n 1, 1) := by decide +kernel
theorem dX0_signAheadOfAll_5 : decode cX0_signAheadOfAll 5 = .ok (.iconst 3, 1) := by decide +kernel
theorem dX0_signAheadOfAll_6 : decode cX0_signAheadOfAll 6 = .ok (.imul, 1) := by decide +kernel
theorem dX0_signAheadOfAll_7 : decode cX0_signAheadOfAll 7 = .ok (.iconst 1, 1) := by decide +kernel
theorem dX0_signAheadOfAll_8 : decode cX0_signAheadOfAll 8 = .ok (.iadd, 1) := by decide +kernel
theorem dX0_signAheadOfAll_9 : decode cX0_signAheadOfAll 9 = .ok (.iaload, 1) := by decide +kernel
theorem dX0_signAheadOfAll_10 : decode cX0_signAheadOfAll 10 = .ok (.istore_n 2, 1) := by decide +kernel
theorem dX0_signAheadOfAll_11 : decode cX0_signAheadOfAll 11 = .ok (.aload_n 0, 1) := by decide +kernel
theorem dX0_signAheadOfAll_12 : decode cX0_signAheadOfAll 12 = .ok (.getfield 9, 3) := by decide +kernel
theorem dX0_signAheadOfAll_15 : decode cX0_signAheadOfAll 15 = .ok (.iload_n 1, 1) := by decide +kernel
theorem dX0_signAheadOfAll_16 : decode cX0_signAheadOfAll 16 = .ok (.iconst 3, 1) := by decide +kernel
theorem dX0_signAheadOfAll_17 : decode cX0_signAheadOfAll 17 = .ok (.imul, 1) := by decide +kernel
theorem dX0_signAheadOfAll_18 : decode cX0_signAheadOfAll 18 = .ok (.iconst 2, 1) := by decide +kernel
theorem dX0_signAheadOfAll_19 : decode cX0_signAheadOfAll 19 = .ok (.iadd, 1) := by decide +kernel
theorem dX0_signAheadOfAll_20 : decode cX0_signAheadOfAll 20 = .ok (.iaload, 1) := by decide +kernel
theorem dX0_signAheadOfAll_21 : decode cX0_signAheadOfAll 21 = .ok (.istore_n 3, 1) := by decide +kernel
theorem dX0_signAheadOfAll_22 : decode cX0_signAheadOfAll 22 = .ok (.iload_n 3, 1) := by decide +kernel
theorem dX0_signAheadOfAll_23 : decode cX0_signAheadOfAll 23 = .ok (.ifCond .eq 8, 3) := by decide +kernel
theorem dX0_signAheadOfAll_26 : decode cX0_signAheadOfAll 26 = .ok (.iload_n 3, 1) := by decide +kernel
theorem dX0_signAheadOfAll_27 : decode cX0_signAheadOfAll 27 = .ok (.invokestatic 73, 3) := by decide +kernel
theorem dX0_signAheadOfAll_30 : decode cX0_signAheadOfAll 30 = .ok (.ireturn, 1) := by decide +kernel
theorem dX0_signAheadOfAll_31 : decode cX0_signAheadOfAll 31 = .ok (.iload_n 2, 1) := by decide +kernel
theorem dX0_signAheadOfAll_32 : decode cX0_signAheadOfAll 32 = .ok (.ifCond .eq 11, 3) := by decide +kernel
theorem dX0_signAheadOfAll_35 : decode cX0_signAheadOfAll 35 = .ok (.iload_n 2, 1) := by decide +kernel
theorem dX0_signAheadOfAll_36 : decode cX0_signAheadOfAll 36 = .ok (.invokestatic 73, 3) := by decide +kernel
theorem dX0_signAheadOfAll_39 : decode cX0_signAheadOfAll 39 = .ok (.ineg, 1) := by decide +kernel
theorem dX0_signAheadOfAll_40 : decode cX0_signAheadOfAll 40 = .ok (.goto 14, 3) := by decide +kernel
theorem dX0_signAheadOfAll_43 : decode cX0_signAheadOfAll 43 = .ok (.aload_n 0, 1) := by decide +kernel
theorem dX0_signAheadOfAll_44 : decode cX0_signAheadOfAll 44 = .ok (.getfield 9, 3) := by decide +kernel
theorem dX0_signAheadOfAll_47 : decode cX0_signAheadOfAll 47 = .ok (.iload_n 1, 1) := by decide +kernel
theorem dX0_signAheadOfAll_48 : decode cX0_signAheadOfAll 48 = .ok (.iconst 3, 1) := by decide +kernel
theorem dX0_signAheadOfAll_49 : decode cX0_signAheadOfAll 49 = .ok (.imul, 1) := by decide +kernel
theorem dX0_signAheadOfAll_50 : decode cX0_signAheadOfAll 50 = .ok (.iaload, 1) := by decide +kernel
theorem dX0_signAheadOfAll_51 : decode cX0_signAheadOfAll 51 = .ok (.invokestatic 73, 3) := by decide +kernel
theorem dX0_signAheadOfAll_54 : decode cX0_signAheadOfAll 54 = .ok (.ireturn, 1) := by decide +kernel
set_option maxRecDepth 20000 in
theorem ggX0_gatherRows_X0_spots : GoodIn wsX0_gatherRows wsX0_spots := goodIn_r _ [9, 10, 50, 51, 52, 53, 54, 55, 56, 57, 58, 59, 60, 61, 62, 63] (by decide +kernel) (by decide +kernel)
set_option maxRecDepth 20000 in
theorem gX0_gatherRows_X0_spots : GoodIn wsX0_gatherRows (wsV RX0 100 RX0 yX0_spots wsX0_spots) := goodIn_app (goodIn_of _ (by decide +kernel)) ggX0_gatherRows_X0_spots
set_option maxRecDepth 20000 in
theorem ggX0_gatherRows_X0_signsIn : GoodIn wsX0_gatherRows wsX0_signsIn := goodIn_r _ [14, 15, 16, 17, 18, 8, 19, 20, 21, 22, 23, 24, 25, 26, 27, 28, 29, 30, 31, 32, 33, 34, 35, 36, 37, 38, 39, 40, 41, 42, 43, 44, 45, 50, 51, 52, 53, 54, 55, 56, 57, 58, 59, 60, 61, 62, 63] (by decide +kernel) (by decide +kernel)
set_option maxRecDepth 20000 in
theorem gX0_gatherRows_X0_signsIn : GoodIn wsX0_gatherRows (wsV RX0 104 RX0 yX0_signsIn wsX0_signsIn) := goodIn_app (goodIn_of _ (by decide +kernel)) ggX0_gatherRows_X0_signsIn
set_option maxRecDepth 20000 in
theorem ggX0_gatherRows_X0_rowWith : GoodIn wsX0_gatherRows wsX0_rowWith := goodIn_r _ [49, 1, 2, 50, 51, 52, 53, 54, 55, 56, 57, 58, 59, 60, 61, 62, 63] (by decide +kernel) (by decide +kernel)
set_option maxRecDepth 20000 in
theorem gX0_gatherRows_X0_rowWith : GoodIn wsX0_gatherRows (wsV RX0 107 RX0 yX0_rowWith wsX0_rowWith) := goodIn_app (goodIn_of _ (by decide +kernel)) ggX0_gatherRows_X0_rowWith
theorem dX0_gatherRows_0 : decode cX0_gatherRows 0 = .ok (.aload_n 0, 1) := by decide +kernel
theorem dX0_gatherRows_1 : decode cX0_gatherRows 1 = .ok (.iconst 0, 1) := by decide +kernel
theorem dX0_gatherRows_2 : decode cX0_gatherRows 2 = .ok (.putfield 97, 3) := by decide +kernel
theorem dX0_gatherRows_5 : decode cX0_gatherRows 5 = .ok (.iconst 0, 1) := by decide +kernel
theorem dX0_gatherRows_6 : decode cX0_gatherRows 6 = .ok (.istore_n 1, 1) := by decide +kernel
theorem dX0_gatherRows_7 : decode cX0_gatherRows 7 = .ok (.iload_n 1, 1) := by decide +kernel
theorem dX0_gatherRows_8 : decode cX0_gatherRows 8 = .ok (.aload_n 0, 1) := by decide +kernel
theorem dX0_gatherRows_9 : decode cX0_gatherRows 9 = .ok (.invokevirtual 100, 3) := by decide +kernel
theorem dX0_gatherRows_12 : decode cX0_gatherRows 12 = .ok (.if_icmp .ge 70, 3) := by decide +kernel
theorem dX0_gatherRows_15 : decode cX0_gatherRows 15 = .ok (.aload_n 0, 1) := by decide +kernel
theorem dX0_gatherRows_16 : decode cX0_gatherRows 16 = .ok (.iload_n 1, 1) := by decide +kernel
theorem dX0_gatherRows_17 : decode cX0_gatherRows 17 = .ok (.invokevirtual 104, 3) := by decide +kernel
theorem dX0_gatherRows_20 : decode cX0_gatherRows 20 = .ok (.istore_n 2, 1) := by decide +kernel
theorem dX0_gatherRows_21 : decode cX0_gatherRows 21 = .ok (.aload_n 0, 1) := by decide +kernel
theorem dX0_gatherRows_22 : decode cX0_gatherRows 22 = .ok (.iload_n 2, 1) := by decide +kernel
theorem dX0_gatherRows_23 : decode cX0_gatherRows 23 = .ok (.invokevirtual 107, 3) := by decide +kernel
theorem dX0_gatherRows_26 : decode cX0_gatherRows 26 = .ok (.istore_n 3, 1) := by decide +kernel
theorem dX0_gatherRows_27 : decode cX0_gatherRows 27 = .ok (.iload_n 3, 1) := by decide +kernel
theorem dX0_gatherRows_28 : decode cX0_gatherRows 28 = .ok (.aload_n 0, 1) := by decide +kernel
theorem dX0_gatherRows_29 : decode cX0_gatherRows 29 = .ok (.getfield 97, 3) := by decide +kernel
theorem dX0_gatherRows_32 : decode cX0_gatherRows 32 = .ok (.if_icmp .ne 34, 3) := by decide +kernel
theorem dX0_gatherRows_35 : decode cX0_gatherRows 35 = .ok (.aload_n 0, 1) := by decide +kernel
theorem dX0_gatherRows_36 : decode cX0_gatherRows 36 = .ok (.getfield 36, 3) := by decide +kernel
theorem dX0_gatherRows_39 : decode cX0_gatherRows 39 = .ok (.iload_n 3, 1) := by decide +kernel
theorem dX0_gatherRows_40 : decode cX0_gatherRows 40 = .ok (.iload_n 2, 1) := by decide +kernel
theorem dX0_gatherRows_41 : decode cX0_gatherRows 41 = .ok (.iastore, 1) := by decide +kernel
theorem dX0_gatherRows_42 : decode cX0_gatherRows 42 = .ok (.aload_n 0, 1) := by decide +kernel
theorem dX0_gatherRows_43 : decode cX0_gatherRows 43 = .ok (.getfield 39, 3) := by decide +kernel
theorem dX0_gatherRows_46 : decode cX0_gatherRows 46 = .ok (.iload_n 3, 1) := by decide +kernel
theorem dX0_gatherRows_47 : decode cX0_gatherRows 47 = .ok (.iload_n 1, 1) := by decide +kernel
theorem dX0_gatherRows_48 : decode cX0_gatherRows 48 = .ok (.iastore, 1) := by decide +kernel
theorem dX0_gatherRows_49 : decode cX0_gatherRows 49 = .ok (.aload_n 0, 1) := by decide +kernel
theorem dX0_gatherRows_50 : decode cX0_gatherRows 50 = .ok (.getfield 42, 3) := by decide +kernel
theorem dX0_gatherRows_53 : decode cX0_gatherRows 53 = .ok (.iload_n 3, 1) := by decide +kernel
theorem dX0_gatherRows_54 : decode cX0_gatherRows 54 = .ok (.iconst 0, 1) := by decide +kernel
theorem dX0_gatherRows_55 : decode cX0_gatherRows 55 = .ok (.iastore, 1) := by decide +kernel
theorem dX0_gatherRows_56 : decode cX0_gatherRows 56 = .ok (.aload_n 0, 1) := by decide +kernel
theorem dX0_gatherRows_57 : decode cX0_gatherRows 57 = .ok (.dup, 1) := by decide +kernel
theorem dX0_gatherRows_58 : decode cX0_gatherRows 58 = .ok (.getfield 97, 3) := by decide +kernel
theorem dX0_gatherRows_61 : decode cX0_gatherRows 61 = .ok (.iconst 1, 1) := by decide +kernel
theorem dX0_gatherRows_62 : decode cX0_gatherRows 62 = .ok (.iadd, 1) := by decide +kernel
theorem dX0_gatherRows_63 : decode cX0_gatherRows 63 = .ok (.putfield 97, 3) := by decide +kernel
theorem dX0_gatherRows_66 : decode cX0_gatherRows 66 = .ok (.aload_n 0, 1) := by decide +kernel
theorem dX0_gatherRows_67 : decode cX0_gatherRows 67 = .ok (.getfield 42, 3) := by decide +kernel
theorem dX0_gatherRows_70 : decode cX0_gatherRows 70 = .ok (.iload_n 3, 1) := by decide +kernel
theorem dX0_gatherRows_71 : decode cX0_gatherRows 71 = .ok (.dup2, 1) := by decide +kernel
theorem dX0_gatherRows_72 : decode cX0_gatherRows 72 = .ok (.iaload, 1) := by decide +kernel
theorem dX0_gatherRows_73 : decode cX0_gatherRows 73 = .ok (.iconst 1, 1) := by decide +kernel
theorem dX0_gatherRows_74 : decode cX0_gatherRows 74 = .ok (.iadd, 1) := by decide +kernel
theorem dX0_gatherRows_75 : decode cX0_gatherRows 75 = .ok (.iastore, 1) := by decide +kernel
theorem dX0_gatherRows_76 : decode cX0_gatherRows 76 = .ok (.iinc 1 1, 3) := by decide +kernel
theorem dX0_gatherRows_79 : decode cX0_gatherRows 79 = .ok (.goto (-72), 3) := by decide +kernel
theorem dX0_gatherRows_82 : decode cX0_gatherRows 82 = .ok (.return_, 1) := by decide +kernel
set_option maxRecDepth 20000 in
theorem ggX0_signsIn_X0_signInSpot : GoodIn wsX0_signsIn wsX0_signInSpot := goodIn_r _ [6, 7, 8, 9, 10, 5, 11, 12, 13, 14, 15, 16, 17, 18, 19, 20, 21, 22, 23, 24, 25, 26, 27, 28, 29, 30, 31, 32, 33, 34, 35, 36, 37, 38, 39, 40, 41, 42, 43, 44, 45, 46] (by decide +kernel) (by decide +kernel)
set_option maxRecDepth 20000 in
theorem gX0_signsIn_X0_signInSpot : GoodIn wsX0_signsIn (wsV RX0 110 RX0 yX0_signInSpot wsX0_signInSpot) := goodIn_app (goodIn_of _ (by decide +kernel)) ggX0_signsIn_X0_signInSpot
theorem dX0_signsIn_0 : decode cX0_signsIn 0 = .ok (.iconst 0, 1) := by decide +kernel
theorem dX0_signsIn_1 : decode cX0_signsIn 1 = .ok (.istore_n 2, 1) := by decide +kernel
theorem dX0_signsIn_2 : decode cX0_signsIn 2 = .ok (.iconst 0, 1) := by decide +kernel
theorem dX0_signsIn_3 : decode cX0_signsIn 3 = .ok (.istore_n 3, 1) := by decide +kernel
theorem dX0_signsIn_4 : decode cX0_signsIn 4 = .ok (.iload_n 3, 1) := by decide +kernel
theorem dX0_signsIn_5 : decode cX0_signsIn 5 = .ok (.aload_n 0, 1) := by decide +kernel
theorem dX0_signsIn_6 : decode cX0_signsIn 6 = .ok (.getfield 51, 3) := by decide +kernel
theorem dX0_signsIn_9 : decode cX0_signsIn 9 = .ok (.if_icmp .ge 22, 3) := by decide +kernel
theorem dX0_signsIn_12 : decode cX0_signsIn 12 = .ok (.iload_n 2, 1) := by decide +kernel
theorem dX0_signsIn_13 : decode cX0_signsIn 13 = .ok (.iconst 3, 1) := by decide +kernel
theorem dX0_signsIn_14 : decode cX0_signsIn 14 = .ok (.imul, 1) := by decide +kernel
theorem dX0_signsIn_15 : decode cX0_signsIn 15 = .ok (.aload_n 0, 1) := by decide +kernel
theorem dX0_signsIn_16 : decode cX0_signsIn 16 = .ok (.iload_n 1, 1) := by decide +kernel
theorem dX0_signsIn_17 : decode cX0_signsIn 17 = .ok (.iload_n 3, 1) := by decide +kernel
theorem dX0_signsIn_18 : decode cX0_signsIn 18 = .ok (.invokevirtual 110, 3) := by decide +kernel
theorem dX0_signsIn_21 : decode cX0_signsIn 21 = .ok (.iadd, 1) := by decide +kernel
theorem dX0_signsIn_22 : decode cX0_signsIn 22 = .ok (.iconst 1, 1) := by decide +kernel
theorem dX0_signsIn_23 : decode cX0_signsIn 23 = .ok (.iadd, 1) := by decide +kernel
theorem dX0_signsIn_24 : decode cX0_signsIn 24 = .ok (.istore_n 2, 1) := by decide +kernel
theorem dX0_signsIn_25 : decode cX0_signsIn 25 = .ok (.iinc 3 1, 3) := by decide +kernel
theorem dX0_signsIn_28 : decode cX0_signsIn 28 = .ok (.goto (-24), 3) := by decide +kernel
theorem dX0_signsIn_31 : decode cX0_signsIn 31 = .ok (.iload_n 2, 1) := by decide +kernel
theorem dX0_signsIn_32 : decode cX0_signsIn 32 = .ok (.ireturn, 1) := by decide +kernel
theorem dX0_rowWith_0 : decode cX0_rowWith 0 = .ok (.iconst 0, 1) := by decide +kernel
theorem dX0_rowWith_1 : decode cX0_rowWith 1 = .ok (.istore_n 2, 1) := by decide +kernel
theorem dX0_rowWith_2 : decode cX0_rowWith 2 = .ok (.iload_n 2, 1) := by decide +kernel
theorem dX0_rowWith_3 : decode cX0_rowWith 3 = .ok (.aload_n 0, 1) := by decide +kernel
theorem dX0_rowWith_4 : decode cX0_rowWith 4 = .ok (.getfield 97, 3) := by decide +kernel
theorem dX0_rowWith_7 : decode cX0_rowWith 7 = .ok (.if_icmp .ge 21, 3) := by decide +kernel
theorem dX0_rowWith_10 : decode cX0_rowWith 10 = .ok (.aload_n 0, 1) := by decide +kernel
theorem dX0_rowWith_11 : decode cX0_rowWith 11 = .ok (.getfield 36, 3) := by decide +kernel
theorem dX0_rowWith_14 : decode cX0_rowWith 14 = .ok (.iload_n 2, 1) := by decide +kernel
theorem dX0_rowWith_15 : decode cX0_rowWith 15 = .ok (.iaload, 1) := by decide +kernel
theorem dX0_rowWith_16 : decode cX0_rowWith 16 = .ok (.iload_n 1, 1) := by decide +kernel
theorem dX0_rowWith_17 : decode cX0_rowWith 17 = .ok (.if_icmp .ne 5, 3) := by decide +kernel
theorem dX0_rowWith_20 : decode cX0_rowWith 20 = .ok (.iload_n 2, 1) := by decide +kernel
theorem dX0_rowWith_21 : decode cX0_rowWith 21 = .ok (.ireturn, 1) := by decide +kernel
theorem dX0_rowWith_22 : decode cX0_rowWith 22 = .ok (.iinc 2 1, 3) := by decide +kernel
theorem dX0_rowWith_25 : decode cX0_rowWith 25 = .ok (.goto (-23), 3) := by decide +kernel
theorem dX0_rowWith_28 : decode cX0_rowWith 28 = .ok (.aload_n 0, 1) := by decide +kernel
theorem dX0_rowWith_29 : decode cX0_rowWith 29 = .ok (.getfield 97, 3) := by decide +kernel
theorem dX0_rowWith_32 : decode cX0_rowWith 32 = .ok (.ireturn, 1) := by decide +kernel
set_option maxRecDepth 20000 in
theorem ggX0_spotsAllAbove_X0_spots : GoodIn wsX0_spotsAllAbove wsX0_spots := goodIn_r _ [5, 6, 42, 43, 44, 45, 46, 47, 48, 49, 50, 51, 52, 53, 54, 55] (by decide +kernel) (by decide +kernel)
set_option maxRecDepth 20000 in
theorem gX0_spotsAllAbove_X0_spots : GoodIn wsX0_spotsAllAbove (wsV RX0 100 RX0 yX0_spots wsX0_spots) := goodIn_app (goodIn_of _ (by decide +kernel)) ggX0_spotsAllAbove_X0_spots
set_option maxRecDepth 20000 in
theorem ggX0_spotsAllAbove_X0_isAllAbove : GoodIn wsX0_spotsAllAbove wsX0_isAllAbove := goodIn_r _ [10, 11, 12, 13, 14, 4, 15, 16, 17, 18, 19, 20, 21, 22, 23, 24, 25, 26, 27, 28, 29, 30, 31, 32, 33, 34, 35, 36, 37, 38, 39, 40, 41, 42, 43, 44, 45, 46, 47, 48, 49, 50, 51, 52, 53, 54, 55] (by decide +kernel) (by decide +kernel)
set_option maxRecDepth 20000 in
theorem gX0_spotsAllAbove_X0_isAllAbove : GoodIn wsX0_spotsAllAbove (wsV RX0 113 RX0 yX0_isAllAbove wsX0_isAllAbove) := goodIn_app (goodIn_of _ (by decide +kernel)) ggX0_spotsAllAbove_X0_isAllAbove
theorem dX0_spotsAllAbove_0 : decode cX0_spotsAllAbove 0 = .ok (.iconst 0, 1) := by decide +kernel
theorem dX0_spotsAllAbove_1 : decode cX0_spotsAllAbove 1 = .ok (.istore_n 1, 1) := by decide +kernel
theorem dX0_spotsAllAbove_2 : decode cX0_spotsAllAbove 2 = .ok (.iconst 0, 1) := by decide +kernel
theorem dX0_spotsAllAbove_3 : decode cX0_spotsAllAbove 3 = .ok (.istore_n 2, 1) := by decide +kernel
theorem dX0_spotsAllAbove_4 : decode cX0_spotsAllAbove 4 = .ok (.iload_n 2, 1) := by decide +kernel
theorem dX0_spotsAllAbove_5 : decode cX0_spotsAllAbove 5 = .ok (.aload_n 0, 1) := by decide +kernel
theorem dX0_spotsAllAbove_6 : decode cX0_spotsAllAbove 6 = .ok (.invokevirtual 100, 3) := by decide +kernel
theorem dX0_spotsAllAbove_9 : decode cX0_spotsAllAbove 9 = .ok (.if_icmp .ge 20, 3) := by decide +kernel
theorem dX0_spotsAllAbove_12 : decode cX0_spotsAllAbove 12 = .ok (.aload_n 0, 1) := by decide +kernel
theorem dX0_spotsAllAbove_13 : decode cX0_spotsAllAbove 13 = .ok (.iload_n 2, 1) := by decide +kernel
theorem dX0_spotsAllAbove_14 : decode cX0_spotsAllAbove 14 = .ok (.invokevirtual 113, 3) := by decide +kernel
theorem dX0_spotsAllAbove_17 : decode cX0_spotsAllAbove 17 = .ok (.ifCond .eq 6, 3) := by decide +kernel
theorem dX0_spotsAllAbove_20 : decode cX0_spotsAllAbove 20 = .ok (.iinc 1 1, 3) := by decide +kernel
theorem dX0_spotsAllAbove_23 : decode cX0_spotsAllAbove 23 = .ok (.iinc 2 1, 3) := by decide +kernel
theorem dX0_spotsAllAbove_26 : decode cX0_spotsAllAbove 26 = .ok (.goto (-22), 3) := by decide +kernel
theorem dX0_spotsAllAbove_29 : decode cX0_spotsAllAbove 29 = .ok (.iload_n 1, 1) := by decide +kernel
theorem dX0_spotsAllAbove_30 : decode cX0_spotsAllAbove 30 = .ok (.ireturn, 1) := by decide +kernel
set_option maxRecDepth 20000 in
theorem ggX0_isAllAbove_X0_signInSpot : GoodIn wsX0_isAllAbove wsX0_signInSpot := goodIn_r _ [6, 7, 8, 9, 10, 5, 11, 12, 13, 14, 15, 16, 17, 18, 19, 20, 21, 22, 23, 24, 25, 26, 27, 28, 29, 30, 31, 32, 33, 34, 35, 36, 37, 38, 39, 40, 41, 42, 43, 44, 45, 46] (by decide +kernel) (by decide +kernel)
set_option maxRecDepth 20000 in
theorem gX0_isAllAbove_X0_signInSpot : GoodIn wsX0_isAllAbove (wsV RX0 110 RX0 yX0_signInSpot wsX0_signInSpot) := goodIn_app (goodIn_of _ (by decide +kernel)) ggX0_isAllAbove_X0_signInSpot
theorem dX0_isAllAbove_0 : decode cX0_isAllAbove 0 = .ok (.iconst 0, 1) := by decide +kernel
theorem dX0_isAllAbove_1 : decode cX0_isAllAbove 1 = .ok (.istore_n 2, 1) := by decide +kernel
theorem dX0_isAllAbove_2 : decode cX0_isAllAbove 2 = .ok (.iload_n 2, 1) := by decide +kernel
theorem dX0_isAllAbove_3 : decode cX0_isAllAbove 3 = .ok (.aload_n 0, 1) := by decide +kernel
theorem dX0_isAllAbove_4 : decode cX0_isAllAbove 4 = .ok (.getfield 51, 3) := by decide +kernel
theorem dX0_isAllAbove_7 : decode cX0_isAllAbove 7 = .ok (.if_icmp .ge 20, 3) := by decide +kernel
theorem dX0_isAllAbove_10 : decode cX0_isAllAbove 10 = .ok (.aload_n 0, 1) := by decide +kernel
theorem dX0_isAllAbove_11 : decode cX0_isAllAbove 11 = .ok (.iload_n 1, 1) := by decide +kernel
theorem dX0_isAllAbove_12 : decode cX0_isAllAbove 12 = .ok (.iload_n 2, 1) := by decide +kernel
theorem dX0_isAllAbove_13 : decode cX0_isAllAbove 13 = .ok (.invokevirtual 110, 3) := by decide +kernel
theorem dX0_isAllAbove_16 : decode cX0_isAllAbove 16 = .ok (.ifCond .gt 5, 3) := by decide +kernel
theorem dX0_isAllAbove_19 : decode cX0_isAllAbove 19 = .ok (.iconst 0, 1) := by decide +kernel
theorem dX0_isAllAbove_20 : decode cX0_isAllAbove 20 = .ok (.ireturn, 1) := by decide +kernel
theorem dX0_isAllAbove_21 : decode cX0_isAllAbove 21 = .ok (.iinc 2 1, 3) := by decide +kernel
theorem dX0_isAllAbove_24 : decode cX0_isAllAbove 24 = .ok (.goto (-22), 3) := by decide +kernel
theorem dX0_isAllAbove_27 : decode cX0_isAllAbove 27 = .ok (.iconst 1, 1) := by decide +kernel
theorem dX0_isAllAbove_28 : decode cX0_isAllAbove 28 = .ok (.ireturn, 1) := by decide +kernel
theorem dX0_rootsInAll_0 : decode cX0_rootsInAll 0 = .ok (.iconst 0, 1) := by decide +kernel
theorem dX0_rootsInAll_1 : decode cX0_rootsInAll 1 = .ok (.istore_n 1, 1) := by decide +kernel
theorem dX0_rootsInAll_2 : decode cX0_rootsInAll 2 = .ok (.iconst 0, 1) := by decide +kernel
theorem dX0_rootsInAll_3 : decode cX0_rootsInAll 3 = .ok (.istore_n 2, 1) := by decide +kernel
theorem dX0_rootsInAll_4 : decode cX0_rootsInAll 4 = .ok (.iload_n 2, 1) := by decide +kernel
theorem dX0_rootsInAll_5 : decode cX0_rootsInAll 5 = .ok (.aload_n 0, 1) := by decide +kernel
theorem dX0_rootsInAll_6 : decode cX0_rootsInAll 6 = .ok (.getfield 51, 3) := by decide +kernel
theorem dX0_rootsInAll_9 : decode cX0_rootsInAll 9 = .ok (.if_icmp .ge 18, 3) := by decide +kernel
theorem dX0_rootsInAll_12 : decode cX0_rootsInAll 12 = .ok (.iload_n 1, 1) := by decide +kernel
theorem dX0_rootsInAll_13 : decode cX0_rootsInAll 13 = .ok (.aload_n 0, 1) := by decide +kernel
theorem dX0_rootsInAll_14 : decode cX0_rootsInAll 14 = .ok (.getfield 15, 3) := by decide +kernel
theorem dX0_rootsInAll_17 : decode cX0_rootsInAll 17 = .ok (.iload_n 2, 1) := by decide +kernel
theorem dX0_rootsInAll_18 : decode cX0_rootsInAll 18 = .ok (.iaload, 1) := by decide +kernel
theorem dX0_rootsInAll_19 : decode cX0_rootsInAll 19 = .ok (.iadd, 1) := by decide +kernel
theorem dX0_rootsInAll_20 : decode cX0_rootsInAll 20 = .ok (.istore_n 1, 1) := by decide +kernel
theorem dX0_rootsInAll_21 : decode cX0_rootsInAll 21 = .ok (.iinc 2 1, 3) := by decide +kernel
theorem dX0_rootsInAll_24 : decode cX0_rootsInAll 24 = .ok (.goto (-20), 3) := by decide +kernel
theorem dX0_rootsInAll_27 : decode cX0_rootsInAll 27 = .ok (.iload_n 1, 1) := by decide +kernel
theorem dX0_rootsInAll_28 : decode cX0_rootsInAll 28 = .ok (.ireturn, 1) := by decide +kernel
theorem dX0_rootless_0 : decode cX0_rootless 0 = .ok (.iconst 0, 1) := by decide +kernel
theorem dX0_rootless_1 : decode cX0_rootless 1 = .ok (.istore_n 1, 1) := by decide +kernel
theorem dX0_rootless_2 : decode cX0_rootless 2 = .ok (.iconst 0, 1) := by decide +kernel
theorem dX0_rootless_3 : decode cX0_rootless 3 = .ok (.istore_n 2, 1) := by decide +kernel
theorem dX0_rootless_4 : decode cX0_rootless 4 = .ok (.iload_n 2, 1) := by decide +kernel
theorem dX0_rootless_5 : decode cX0_rootless 5 = .ok (.aload_n 0, 1) := by decide +kernel
theorem dX0_rootless_6 : decode cX0_rootless 6 = .ok (.getfield 51, 3) := by decide +kernel
theorem dX0_rootless_9 : decode cX0_rootless 9 = .ok (.if_icmp .ge 21, 3) := by decide +kernel
theorem dX0_rootless_12 : decode cX0_rootless 12 = .ok (.aload_n 0, 1) := by decide +kernel
theorem dX0_rootless_13 : decode cX0_rootless 13 = .ok (.getfield 15, 3) := by decide +kernel
theorem dX0_rootless_16 : decode cX0_rootless 16 = .ok (.iload_n 2, 1) := by decide +kernel
theorem dX0_rootless_17 : decode cX0_rootless 17 = .ok (.iaload, 1) := by decide +kernel
theorem dX0_rootless_18 : decode cX0_rootless 18 = .ok (.ifCond .ne 6, 3) := by decide +kernel
theorem dX0_rootless_21 : decode cX0_rootless 21 = .ok (.iinc 1 1, 3) := by decide +kernel
theorem dX0_rootless_24 : decode cX0_rootless 24 = .ok (.iinc 2 1, 3) := by decide +kernel
theorem dX0_rootless_27 : decode cX0_rootless 27 = .ok (.goto (-23), 3) := by decide +kernel
theorem dX0_rootless_30 : decode cX0_rootless 30 = .ok (.iload_n 1, 1) := by decide +kernel
theorem dX0_rootless_31 : decode cX0_rootless 31 = .ok (.ireturn, 1) := by decide +kernel
theorem dX0_zeroes_0 : decode cX0_zeroes 0 = .ok (.iconst 0, 1) := by decide +kernel
theorem dX0_zeroes_1 : decode cX0_zeroes 1 = .ok (.istore_n 1, 1) := by decide +kernel
theorem dX0_zeroes_2 : decode cX0_zeroes 2 = .ok (.iconst 0, 1) := by decide +kernel
theorem dX0_zeroes_3 : decode cX0_zeroes 3 = .ok (.istore_n 2, 1) := by decide +kernel
theorem dX0_zeroes_4 : decode cX0_zeroes 4 = .ok (.iload_n 2, 1) := by decide +kernel
theorem dX0_zeroes_5 : decode cX0_zeroes 5 = .ok (.aload_n 0, 1) := by decide +kernel
theorem dX0_zeroes_6 : decode cX0_zeroes 6 = .ok (.getfield 51, 3) := by decide +kernel
theorem dX0_zeroes_9 : decode cX0_zeroes 9 = .ok (.if_icmp .ge 47, 3) := by decide +kernel
theorem dX0_zeroes_12 : decode cX0_zeroes 12 = .ok (.iload_n 2, 1) := by decide +kernel
theorem dX0_zeroes_13 : decode cX0_zeroes 13 = .ok (.iconst 3, 1) := by decide +kernel
theorem dX0_zeroes_14 : decode cX0_zeroes 14 = .ok (.imul, 1) := by decide +kernel
theorem dX0_zeroes_15 : decode cX0_zeroes 15 = .ok (.istore_n 3, 1) := by decide +kernel
theorem dX0_zeroes_16 : decode cX0_zeroes 16 = .ok (.aload_n 0, 1) := by decide +kernel
theorem dX0_zeroes_17 : decode cX0_zeroes 17 = .ok (.getfield 9, 3) := by decide +kernel
theorem dX0_zeroes_20 : decode cX0_zeroes 20 = .ok (.iload_n 3, 1) := by decide +kernel
theorem dX0_zeroes_21 : decode cX0_zeroes 21 = .ok (.iaload, 1) := by decide +kernel
theorem dX0_zeroes_22 : decode cX0_zeroes 22 = .ok (.ifCond .ne 28, 3) := by decide +kernel
theorem dX0_zeroes_25 : decode cX0_zeroes 25 = .ok (.aload_n 0, 1) := by decide +kernel
theorem dX0_zeroes_26 : decode cX0_zeroes 26 = .ok (.getfield 9, 3) := by decide +kernel
theorem dX0_zeroes_29 : decode cX0_zeroes 29 = .ok (.iload_n 3, 1) := by decide +kernel
theorem dX0_zeroes_30 : decode cX0_zeroes 30 = .ok (.iconst 1, 1) := by decide +kernel
theorem dX0_zeroes_31 : decode cX0_zeroes 31 = .ok (.iadd, 1) := by decide +kernel
theorem dX0_zeroes_32 : decode cX0_zeroes 32 = .ok (.iaload, 1) := by decide +kernel
theorem dX0_zeroes_33 : decode cX0_zeroes 33 = .ok (.ifCond .ne 17, 3) := by decide +kernel
theorem dX0_zeroes_36 : decode cX0_zeroes 36 = .ok (.aload_n 0, 1) := by decide +kernel
theorem dX0_zeroes_37 : decode cX0_zeroes 37 = .ok (.getfield 9, 3) := by decide +kernel
theorem dX0_zeroes_40 : decode cX0_zeroes 40 = .ok (.iload_n 3, 1) := by decide +kernel
theorem dX0_zeroes_41 : decode cX0_zeroes 41 = .ok (.iconst 2, 1) := by decide +kernel
theorem dX0_zeroes_42 : decode cX0_zeroes 42 = .ok (.iadd, 1) := by decide +kernel
theorem dX0_zeroes_43 : decode cX0_zeroes 43 = .ok (.iaload, 1) := by decide +kernel
theorem dX0_zeroes_44 : decode cX0_zeroes 44 = .ok (.ifCond .ne 6, 3) := by decide +kernel
theorem dX0_zeroes_47 : decode cX0_zeroes 47 = .ok (.iinc 1 1, 3) := by decide +kernel
theorem dX0_zeroes_50 : decode cX0_zeroes 50 = .ok (.iinc 2 1, 3) := by decide +kernel
theorem dX0_zeroes_53 : decode cX0_zeroes 53 = .ok (.goto (-49), 3) := by decide +kernel
theorem dX0_zeroes_56 : decode cX0_zeroes 56 = .ok (.iload_n 1, 1) := by decide +kernel
theorem dX0_zeroes_57 : decode cX0_zeroes 57 = .ok (.ireturn, 1) := by decide +kernel
theorem dX1_init_0 : decode cX1_init 0 = .ok (.aload_n 0, 1) := by decide +kernel
theorem dX1_init_1 : decode cX1_init 1 = .ok (.invokespecial 3, 3) := by decide +kernel
theorem dX1_init_4 : decode cX1_init 4 = .ok (.aload_n 0, 1) := by decide +kernel
theorem dX1_init_5 : decode cX1_init 5 = .ok (.bipush 8, 2) := by decide +kernel
theorem dX1_init_7 : decode cX1_init 7 = .ok (.newarray .int, 2) := by decide +kernel
theorem dX1_init_9 : decode cX1_init 9 = .ok (.putfield 9, 3) := by decide +kernel
theorem dX1_init_12 : decode cX1_init 12 = .ok (.aload_n 0, 1) := by decide +kernel
theorem dX1_init_13 : decode cX1_init 13 = .ok (.bipush 8, 2) := by decide +kernel
theorem dX1_init_15 : decode cX1_init 15 = .ok (.newarray .int, 2) := by decide +kernel
theorem dX1_init_17 : decode cX1_init 17 = .ok (.putfield 15, 3) := by decide +kernel
theorem dX1_init_20 : decode cX1_init 20 = .ok (.aload_n 0, 1) := by decide +kernel
theorem dX1_init_21 : decode cX1_init 21 = .ok (.bipush 8, 2) := by decide +kernel
theorem dX1_init_23 : decode cX1_init 23 = .ok (.newarray .int, 2) := by decide +kernel
theorem dX1_init_25 : decode cX1_init 25 = .ok (.putfield 18, 3) := by decide +kernel
theorem dX1_init_28 : decode cX1_init 28 = .ok (.return_, 1) := by decide +kernel
theorem dX1_add_0 : decode cX1_add 0 = .ok (.aload_n 0, 1) := by decide +kernel
theorem dX1_add_1 : decode cX1_add 1 = .ok (.getfield 9, 3) := by decide +kernel
theorem dX1_add_4 : decode cX1_add 4 = .ok (.aload_n 0, 1) := by decide +kernel
theorem dX1_add_5 : decode cX1_add 5 = .ok (.getfield 21, 3) := by decide +kernel
theorem dX1_add_8 : decode cX1_add 8 = .ok (.iload_n 1, 1) := by decide +kernel
theorem dX1_add_9 : decode cX1_add 9 = .ok (.iastore, 1) := by decide +kernel
theorem dX1_add_10 : decode cX1_add 10 = .ok (.aload_n 0, 1) := by decide +kernel
theorem dX1_add_11 : decode cX1_add 11 = .ok (.getfield 15, 3) := by decide +kernel
theorem dX1_add_14 : decode cX1_add 14 = .ok (.aload_n 0, 1) := by decide +kernel
theorem dX1_add_15 : decode cX1_add 15 = .ok (.getfield 21, 3) := by decide +kernel
theorem dX1_add_18 : decode cX1_add 18 = .ok (.iload_n 2, 1) := by decide +kernel
theorem dX1_add_19 : decode cX1_add 19 = .ok (.iastore, 1) := by decide +kernel
theorem dX1_add_20 : decode cX1_add 20 = .ok (.aload_n 0, 1) := by decide +kernel
theorem dX1_add_21 : decode cX1_add 21 = .ok (.getfield 18, 3) := by decide +kernel
theorem dX1_add_24 : decode cX1_add 24 = .ok (.aload_n 0, 1) := by decide +kernel
theorem dX1_add_25 : decode cX1_add 25 = .ok (.getfield 21, 3) := by decide +kernel
theorem dX1_add_28 : decode cX1_add 28 = .ok (.iload_n 3, 1) := by decide +kernel
theorem dX1_add_29 : decode cX1_add 29 = .ok (.iastore, 1) := by decide +kernel
theorem dX1_add_30 : decode cX1_add 30 = .ok (.aload_n 0, 1) := by decide +kernel
theorem dX1_add_31 : decode cX1_add 31 = .ok (.dup, 1) := by decide +kernel
theorem dX1_add_32 : decode cX1_add 32 = .ok (.getfield 21, 3) := by decide +kernel
theorem dX1_add_35 : decode cX1_add 35 = .ok (.iconst 1, 1) := by decide +kernel
theorem dX1_add_36 : decode cX1_add 36 = .ok (.iadd, 1) := by decide +kernel
theorem dX1_add_37 : decode cX1_add 37 = .ok (.putfield 21, 3) := by decide +kernel
theorem dX1_add_40 : decode cX1_add 40 = .ok (.aload_n 0, 1) := by decide +kernel
theorem dX1_add_41 : decode cX1_add 41 = .ok (.getfield 21, 3) := by decide +kernel
theorem dX1_add_44 : decode cX1_add 44 = .ok (.iconst 1, 1) := by decide +kernel
theorem dX1_add_45 : decode cX1_add 45 = .ok (.isub, 1) := by decide +kernel
theorem dX1_add_46 : decode cX1_add 46 = .ok (.ireturn, 1) := by decide +kernel
set_option maxRecDepth 20000 in
theorem ggX1_holdOn_X0_spots : GoodIn wsX1_holdOn wsX0_spots := goodIn_r _ [9, 10, 45, 46, 47, 48, 49, 50, 51, 52, 53, 54, 55, 56, 57, 58] (by decide +kernel) (by decide +kernel)
set_option maxRecDepth 20000 in
theorem gX1_holdOn_X0_spots : GoodIn wsX1_holdOn (wsV RX1 25 RX0 yX0_spots wsX0_spots) := goodIn_app (goodIn_of _ (by decide +kernel)) ggX1_holdOn_X0_spots
set_option maxRecDepth 20000 in
theorem ggX1_holdOn_X0_signInSpot : GoodIn wsX1_holdOn wsX0_signInSpot := goodIn_r _ [14, 15, 16, 17, 18, 8, 19, 20, 21, 22, 23, 24, 25, 26, 27, 28, 29, 30, 31, 32, 33, 34, 35, 36, 37, 38, 39, 40, 45, 46, 47, 48, 49, 50, 51, 52, 53, 54, 55, 56, 57, 58] (by decide +kernel) (by decide +kernel)
set_option maxRecDepth 20000 in
theorem gX1_holdOn_X0_signInSpot : GoodIn wsX1_holdOn (wsV RX1 31 RX0 yX0_signInSpot wsX0_signInSpot) := goodIn_app (goodIn_of _ (by decide +kernel)) ggX1_holdOn_X0_signInSpot
theorem dX1_holdOn_0 : decode cX1_holdOn 0 = .ok (.iconst 0, 1) := by decide +kernel
theorem dX1_holdOn_1 : decode cX1_holdOn 1 = .ok (.istore_n 2, 1) := by decide +kernel
theorem dX1_holdOn_2 : decode cX1_holdOn 2 = .ok (.iload_n 2, 1) := by decide +kernel
theorem dX1_holdOn_3 : decode cX1_holdOn 3 = .ok (.aload_n 0, 1) := by decide +kernel
theorem dX1_holdOn_4 : decode cX1_holdOn 4 = .ok (.getfield 21, 3) := by decide +kernel
theorem dX1_holdOn_7 : decode cX1_holdOn 7 = .ok (.if_icmp .ge 51, 3) := by decide +kernel
theorem dX1_holdOn_10 : decode cX1_holdOn 10 = .ok (.aload_n 0, 1) := by decide +kernel
theorem dX1_holdOn_11 : decode cX1_holdOn 11 = .ok (.getfield 9, 3) := by decide +kernel
theorem dX1_holdOn_14 : decode cX1_holdOn 14 = .ok (.iload_n 2, 1) := by decide +kernel
theorem dX1_holdOn_15 : decode cX1_holdOn 15 = .ok (.iaload, 1) := by decide +kernel
theorem dX1_holdOn_16 : decode cX1_holdOn 16 = .ok (.aload_n 1, 1) := by decide +kernel
theorem dX1_holdOn_17 : decode cX1_holdOn 17 = .ok (.invokevirtual 25, 3) := by decide +kernel
theorem dX1_holdOn_20 : decode cX1_holdOn 20 = .ok (.if_icmp .ge 30, 3) := by decide +kernel
theorem dX1_holdOn_23 : decode cX1_holdOn 23 = .ok (.aload_n 1, 1) := by decide +kernel
theorem dX1_holdOn_24 : decode cX1_holdOn 24 = .ok (.aload_n 0, 1) := by decide +kernel
