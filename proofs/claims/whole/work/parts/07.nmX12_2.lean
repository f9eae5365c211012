theorem dX12_game_41 : decode cX12_game 41 = .ok (.invokevirtual 101, 3) := by decide +kernel
theorem dX12_game_44 : decode cX12_game 44 = .ok (.ifCond .eq 21, 3) := by decide +kernel
theorem dX12_game_47 : decode cX12_game 47 = .ok (.iload 5, 2) := by decide +kernel
theorem dX12_game_49 : decode cX12_game 49 = .ok (.ifCond .eq 12, 3) := by decide +kernel
theorem dX12_game_52 : decode cX12_game 52 = .ok (.aload_n 0, 1) := by decide +kernel
theorem dX12_game_53 : decode cX12_game 53 = .ok (.iload_n 2, 1) := by decide +kernel
theorem dX12_game_54 : decode cX12_game 54 = .ok (.iload_n 1, 1) := by decide +kernel
theorem dX12_game_55 : decode cX12_game 55 = .ok (.invokevirtual 101, 3) := by decide +kernel
theorem dX12_game_58 : decode cX12_game 58 = .ok (.ifCond .eq 7, 3) := by decide +kernel
theorem dX12_game_61 : decode cX12_game 61 = .ok (.iconst 1, 1) := by decide +kernel
theorem dX12_game_62 : decode cX12_game 62 = .ok (.goto 4, 3) := by decide +kernel
theorem dX12_game_65 : decode cX12_game 65 = .ok (.iconst 0, 1) := by decide +kernel
theorem dX12_game_66 : decode cX12_game 66 = .ok (.istore 6, 2) := by decide +kernel
theorem dX12_game_68 : decode cX12_game 68 = .ok (.iload 6, 2) := by decide +kernel
theorem dX12_game_70 : decode cX12_game 70 = .ok (.ifCond .eq 38, 3) := by decide +kernel
theorem dX12_game_73 : decode cX12_game 73 = .ok (.aload_n 0, 1) := by decide +kernel
theorem dX12_game_74 : decode cX12_game 74 = .ok (.iload_n 1, 1) := by decide +kernel
theorem dX12_game_75 : decode cX12_game 75 = .ok (.iload_n 2, 1) := by decide +kernel
theorem dX12_game_76 : decode cX12_game 76 = .ok (.iload 4, 2) := by decide +kernel
theorem dX12_game_78 : decode cX12_game 78 = .ok (.iload 5, 2) := by decide +kernel
theorem dX12_game_80 : decode cX12_game 80 = .ok (.invokevirtual 245, 3) := by decide +kernel
theorem dX12_game_83 : decode cX12_game 83 = .ok (.ifCond .eq 25, 3) := by decide +kernel
theorem dX12_game_86 : decode cX12_game 86 = .ok (.aload_n 0, 1) := by decide +kernel
theorem dX12_game_87 : decode cX12_game 87 = .ok (.iload_n 2, 1) := by decide +kernel
theorem dX12_game_88 : decode cX12_game 88 = .ok (.iload_n 1, 1) := by decide +kernel
theorem dX12_game_89 : decode cX12_game 89 = .ok (.iload 5, 2) := by decide +kernel
theorem dX12_game_91 : decode cX12_game 91 = .ok (.iload 4, 2) := by decide +kernel
theorem dX12_game_93 : decode cX12_game 93 = .ok (.invokevirtual 245, 3) := by decide +kernel
theorem dX12_game_96 : decode cX12_game 96 = .ok (.ifCond .eq 12, 3) := by decide +kernel
theorem dX12_game_99 : decode cX12_game 99 = .ok (.bipush 10, 2) := by decide +kernel
theorem dX12_game_101 : decode cX12_game 101 = .ok (.iload 4, 2) := by decide +kernel
theorem dX12_game_103 : decode cX12_game 103 = .ok (.imul, 1) := by decide +kernel
theorem dX12_game_104 : decode cX12_game 104 = .ok (.iload 5, 2) := by decide +kernel
theorem dX12_game_106 : decode cX12_game 106 = .ok (.iadd, 1) := by decide +kernel
theorem dX12_game_107 : decode cX12_game 107 = .ok (.ireturn, 1) := by decide +kernel
theorem dX12_game_108 : decode cX12_game 108 = .ok (.iinc 3 1, 3) := by decide +kernel
theorem dX12_game_111 : decode cX12_game 111 = .ok (.goto (-93), 3) := by decide +kernel
theorem dX12_game_114 : decode cX12_game 114 = .ok (.bipush (-4), 2) := by decide +kernel
theorem dX12_game_116 : decode cX12_game 116 = .ok (.ireturn, 1) := by decide +kernel
theorem dX12_skipped_0 : decode cX12_skipped 0 = .ok (.aload_n 0, 1) := by decide +kernel
theorem dX12_skipped_1 : decode cX12_skipped 1 = .ok (.getfield 31, 3) := by decide +kernel
theorem dX12_skipped_4 : decode cX12_skipped 4 = .ok (.iload_n 1, 1) := by decide +kernel
theorem dX12_skipped_5 : decode cX12_skipped 5 = .ok (.iaload, 1) := by decide +kernel
theorem dX12_skipped_6 : decode cX12_skipped 6 = .ok (.ifCond .ne 9, 3) := by decide +kernel
theorem dX12_skipped_9 : decode cX12_skipped 9 = .ok (.ldc2_w 249, 3) := by decide +kernel
theorem dX12_skipped_12 : decode cX12_skipped 12 = .ok (.goto 22, 3) := by decide +kernel
theorem dX12_skipped_15 : decode cX12_skipped 15 = .ok (.aload_n 0, 1) := by decide +kernel
theorem dX12_skipped_16 : decode cX12_skipped 16 = .ok (.getfield 31, 3) := by decide +kernel
theorem dX12_skipped_19 : decode cX12_skipped 19 = .ok (.iload_n 1, 1) := by decide +kernel
theorem dX12_skipped_20 : decode cX12_skipped 20 = .ok (.iaload, 1) := by decide +kernel
theorem dX12_skipped_21 : decode cX12_skipped 21 = .ok (.iconst 1, 1) := by decide +kernel
theorem dX12_skipped_22 : decode cX12_skipped 22 = .ok (.if_icmp .ne 9, 3) := by decide +kernel
theorem dX12_skipped_25 : decode cX12_skipped 25 = .ok (.ldc2_w 251, 3) := by decide +kernel
theorem dX12_skipped_28 : decode cX12_skipped 28 = .ok (.goto 6, 3) := by decide +kernel
theorem dX12_skipped_31 : decode cX12_skipped 31 = .ok (.ldc2_w 253, 3) := by decide +kernel
theorem dX12_skipped_34 : decode cX12_skipped 34 = .ok (.lreturn, 1) := by decide +kernel
set_option maxRecDepth 20000 in
theorem ggX12_wrongBlushes_X12_isOne : GoodIn wsX12_wrongBlushes wsX12_isOne := goodIn_r _ [7, 2, 8, 9, 6, 10, 17, 18, 19, 20, 21, 22, 23, 24, 25, 26, 27, 28, 29, 30, 31, 32, 33, 34, 35, 36, 37, 38, 39, 40, 41, 42, 43, 44, 45, 46, 47] (by decide +kernel) (by decide +kernel)
set_option maxRecDepth 20000 in
theorem gX12_wrongBlushes_X12_isOne : GoodIn wsX12_wrongBlushes (wsV RX12 76 RX12 yX12_isOne wsX12_isOne) := goodIn_app (goodIn_of _ (by decide +kernel)) ggX12_wrongBlushes_X12_isOne
set_option maxRecDepth 20000 in
theorem ggX12_wrongBlushes_X12_wrongRow : GoodIn wsX12_wrongBlushes wsX12_wrongRow := goodIn_r _ [14, 15, 16, 8, 9, 6, 10, 17, 18, 19, 20, 21, 22, 23, 24, 25, 26, 27, 28, 29, 30, 31, 32, 33, 34, 35, 36, 37, 38, 39, 40, 41, 42, 43, 44, 45, 46, 47] (by decide +kernel) (by decide +kernel)
set_option maxRecDepth 20000 in
theorem gX12_wrongBlushes_X12_wrongRow : GoodIn wsX12_wrongBlushes (wsV RX12 153 RX12 yX12_wrongRow wsX12_wrongRow) := goodIn_app (goodIn_of _ (by decide +kernel)) ggX12_wrongBlushes_X12_wrongRow
theorem dX12_wrongBlushes_0 : decode cX12_wrongBlushes 0 = .ok (.aload_n 0, 1) := by decide +kernel
theorem dX12_wrongBlushes_1 : decode cX12_wrongBlushes 1 = .ok (.iload_n 1, 1) := by decide +kernel
theorem dX12_wrongBlushes_2 : decode cX12_wrongBlushes 2 = .ok (.invokevirtual 76, 3) := by decide +kernel
theorem dX12_wrongBlushes_5 : decode cX12_wrongBlushes 5 = .ok (.ifCond .eq 11, 3) := by decide +kernel
theorem dX12_wrongBlushes_8 : decode cX12_wrongBlushes 8 = .ok (.aload_n 0, 1) := by decide +kernel
theorem dX12_wrongBlushes_9 : decode cX12_wrongBlushes 9 = .ok (.iload_n 2, 1) := by decide +kernel
theorem dX12_wrongBlushes_10 : decode cX12_wrongBlushes 10 = .ok (.invokevirtual 153, 3) := by decide +kernel
theorem dX12_wrongBlushes_13 : decode cX12_wrongBlushes 13 = .ok (.goto 4, 3) := by decide +kernel
theorem dX12_wrongBlushes_16 : decode cX12_wrongBlushes 16 = .ok (.iconst (-1), 1) := by decide +kernel
theorem dX12_wrongBlushes_17 : decode cX12_wrongBlushes 17 = .ok (.istore_n 3, 1) := by decide +kernel
theorem dX12_wrongBlushes_18 : decode cX12_wrongBlushes 18 = .ok (.iload_n 3, 1) := by decide +kernel
theorem dX12_wrongBlushes_19 : decode cX12_wrongBlushes 19 = .ok (.ifCond .ne 21, 3) := by decide +kernel
theorem dX12_wrongBlushes_22 : decode cX12_wrongBlushes 22 = .ok (.aload_n 0, 1) := by decide +kernel
theorem dX12_wrongBlushes_23 : decode cX12_wrongBlushes 23 = .ok (.getfield 34, 3) := by decide +kernel
theorem dX12_wrongBlushes_26 : decode cX12_wrongBlushes 26 = .ok (.iload_n 2, 1) := by decide +kernel
theorem dX12_wrongBlushes_27 : decode cX12_wrongBlushes 27 = .ok (.iaload, 1) := by decide +kernel
theorem dX12_wrongBlushes_28 : decode cX12_wrongBlushes 28 = .ok (.aload_n 0, 1) := by decide +kernel
theorem dX12_wrongBlushes_29 : decode cX12_wrongBlushes 29 = .ok (.getfield 69, 3) := by decide +kernel
theorem dX12_wrongBlushes_32 : decode cX12_wrongBlushes 32 = .ok (.if_icmp .le 8, 3) := by decide +kernel
theorem dX12_wrongBlushes_35 : decode cX12_wrongBlushes 35 = .ok (.bipush (-13), 2) := by decide +kernel
theorem dX12_wrongBlushes_37 : decode cX12_wrongBlushes 37 = .ok (.goto 4, 3) := by decide +kernel
theorem dX12_wrongBlushes_40 : decode cX12_wrongBlushes 40 = .ok (.iload_n 3, 1) := by decide +kernel
theorem dX12_wrongBlushes_41 : decode cX12_wrongBlushes 41 = .ok (.ireturn, 1) := by decide +kernel
set_option maxRecDepth 20000 in
theorem ggX12_levelsUpTo_X12_skipped : GoodIn wsX12_levelsUpTo wsX12_skipped := goodIn_r _ [6, 7, 8, 9, 10, 16, 17, 18, 19, 20, 21, 22, 23, 24, 25, 26, 27, 28, 29, 30, 31, 32, 33, 34, 35, 36, 37, 38, 39, 40, 41, 42, 43, 44, 45, 46] (by decide +kernel) (by decide +kernel)
set_option maxRecDepth 20000 in
theorem gX12_levelsUpTo_X12_skipped : GoodIn wsX12_levelsUpTo (wsV RX12 255 RX12 yX12_skipped wsX12_skipped) := goodIn_app (goodIn_of _ (by decide +kernel)) ggX12_levelsUpTo_X12_skipped
set_option maxRecDepth 20000 in
theorem ggX12_levelsUpTo_X12_showsOf : GoodIn wsX12_levelsUpTo wsX12_showsOf := goodIn_r _ [14, 15, 16, 17, 18, 19, 20, 21, 22, 23, 24, 25, 26, 27, 28, 29, 30, 31, 32, 33, 34, 35, 36, 37, 38, 39, 40, 41, 42, 43, 44, 45, 46] (by decide +kernel) (by decide +kernel)
set_option maxRecDepth 20000 in
theorem gX12_levelsUpTo_X12_showsOf : GoodIn wsX12_levelsUpTo (wsV RX12 259 RX12 yX12_showsOf wsX12_showsOf) := goodIn_app (goodIn_of _ (by decide +kernel)) ggX12_levelsUpTo_X12_showsOf
theorem dX12_levelsUpTo_0 : decode cX12_levelsUpTo 0 = .ok (.iconst 0, 1) := by decide +kernel
theorem dX12_levelsUpTo_1 : decode cX12_levelsUpTo 1 = .ok (.istore 4, 2) := by decide +kernel
theorem dX12_levelsUpTo_3 : decode cX12_levelsUpTo 3 = .ok (.iconst 0, 1) := by decide +kernel
theorem dX12_levelsUpTo_4 : decode cX12_levelsUpTo 4 = .ok (.istore 5, 2) := by decide +kernel
theorem dX12_levelsUpTo_6 : decode cX12_levelsUpTo 6 = .ok (.iload 5, 2) := by decide +kernel
theorem dX12_levelsUpTo_8 : decode cX12_levelsUpTo 8 = .ok (.bipush 10, 2) := by decide +kernel
theorem dX12_levelsUpTo_10 : decode cX12_levelsUpTo 10 = .ok (.if_icmp .ge 103, 3) := by decide +kernel
theorem dX12_levelsUpTo_13 : decode cX12_levelsUpTo 13 = .ok (.iconst 1, 1) := by decide +kernel
theorem dX12_levelsUpTo_14 : decode cX12_levelsUpTo 14 = .ok (.istore 6, 2) := by decide +kernel
theorem dX12_levelsUpTo_16 : decode cX12_levelsUpTo 16 = .ok (.iconst 0, 1) := by decide +kernel
theorem dX12_levelsUpTo_17 : decode cX12_levelsUpTo 17 = .ok (.istore 7, 2) := by decide +kernel
theorem dX12_levelsUpTo_19 : decode cX12_levelsUpTo 19 = .ok (.iload 7, 2) := by decide +kernel
theorem dX12_levelsUpTo_21 : decode cX12_levelsUpTo 21 = .ok (.iload_n 3, 1) := by decide +kernel
theorem dX12_levelsUpTo_22 : decode cX12_levelsUpTo 22 = .ok (.if_icmp .ge 67, 3) := by decide +kernel
theorem dX12_levelsUpTo_25 : decode cX12_levelsUpTo 25 = .ok (.aload_n 0, 1) := by decide +kernel
theorem dX12_levelsUpTo_26 : decode cX12_levelsUpTo 26 = .ok (.getfield 37, 3) := by decide +kernel
theorem dX12_levelsUpTo_29 : decode cX12_levelsUpTo 29 = .ok (.bipush 100, 2) := by decide +kernel
theorem dX12_levelsUpTo_31 : decode cX12_levelsUpTo 31 = .ok (.iload_n 2, 1) := by decide +kernel
theorem dX12_levelsUpTo_32 : decode cX12_levelsUpTo 32 = .ok (.imul, 1) := by decide +kernel
theorem dX12_levelsUpTo_33 : decode cX12_levelsUpTo 33 = .ok (.iload 7, 2) := by decide +kernel
theorem dX12_levelsUpTo_35 : decode cX12_levelsUpTo 35 = .ok (.iadd, 1) := by decide +kernel
theorem dX12_levelsUpTo_36 : decode cX12_levelsUpTo 36 = .ok (.laload, 1) := by decide +kernel
theorem dX12_levelsUpTo_37 : decode cX12_levelsUpTo 37 = .ok (.lstore 8, 2) := by decide +kernel
theorem dX12_levelsUpTo_39 : decode cX12_levelsUpTo 39 = .ok (.iload 6, 2) := by decide +kernel
theorem dX12_levelsUpTo_41 : decode cX12_levelsUpTo 41 = .ok (.ifCond .eq 39, 3) := by decide +kernel
theorem dX12_levelsUpTo_44 : decode cX12_levelsUpTo 44 = .ok (.iload 7, 2) := by decide +kernel
theorem dX12_levelsUpTo_46 : decode cX12_levelsUpTo 46 = .ok (.iload_n 1, 1) := by decide +kernel
theorem dX12_levelsUpTo_47 : decode cX12_levelsUpTo 47 = .ok (.if_icmp .eq 29, 3) := by decide +kernel
theorem dX12_levelsUpTo_50 : decode cX12_levelsUpTo 50 = .ok (.lload 8, 2) := by decide +kernel
theorem dX12_levelsUpTo_52 : decode cX12_levelsUpTo 52 = .ok (.aload_n 0, 1) := by decide +kernel
theorem dX12_levelsUpTo_53 : decode cX12_levelsUpTo 53 = .ok (.iload_n 2, 1) := by decide +kernel
theorem dX12_levelsUpTo_54 : decode cX12_levelsUpTo 54 = .ok (.invokevirtual 255, 3) := by decide +kernel
theorem dX12_levelsUpTo_57 : decode cX12_levelsUpTo 57 = .ok (.lcmp, 1) := by decide +kernel
theorem dX12_levelsUpTo_58 : decode cX12_levelsUpTo 58 = .ok (.ifCond .eq 18, 3) := by decide +kernel
theorem dX12_levelsUpTo_61 : decode cX12_levelsUpTo 61 = .ok (.lload 8, 2) := by decide +kernel
theorem dX12_levelsUpTo_63 : decode cX12_levelsUpTo 63 = .ok (.aload_n 0, 1) := by decide +kernel
theorem dX12_levelsUpTo_64 : decode cX12_levelsUpTo 64 = .ok (.iload 7, 2) := by decide +kernel
theorem dX12_levelsUpTo_66 : decode cX12_levelsUpTo 66 = .ok (.iload 5, 2) := by decide +kernel
theorem dX12_levelsUpTo_68 : decode cX12_levelsUpTo 68 = .ok (.invokevirtual 259, 3) := by decide +kernel
theorem dX12_levelsUpTo_71 : decode cX12_levelsUpTo 71 = .ok (.i2l, 1) := by decide +kernel
theorem dX12_levelsUpTo_72 : decode cX12_levelsUpTo 72 = .ok (.lcmp, 1) := by decide +kernel
theorem dX12_levelsUpTo_73 : decode cX12_levelsUpTo 73 = .ok (.ifCond .ne 7, 3) := by decide +kernel
theorem dX12_levelsUpTo_76 : decode cX12_levelsUpTo 76 = .ok (.iconst 1, 1) := by decide +kernel
theorem dX12_levelsUpTo_77 : decode cX12_levelsUpTo 77 = .ok (.goto 4, 3) := by decide +kernel
theorem dX12_levelsUpTo_80 : decode cX12_levelsUpTo 80 = .ok (.iconst 0, 1) := by decide +kernel
theorem dX12_levelsUpTo_81 : decode cX12_levelsUpTo 81 = .ok (.istore 6, 2) := by decide +kernel
theorem dX12_levelsUpTo_83 : decode cX12_levelsUpTo 83 = .ok (.iinc 7 1, 3) := by decide +kernel
theorem dX12_levelsUpTo_86 : decode cX12_levelsUpTo 86 = .ok (.goto (-67), 3) := by decide +kernel
theorem dX12_levelsUpTo_89 : decode cX12_levelsUpTo 89 = .ok (.iload 4, 2) := by decide +kernel
theorem dX12_levelsUpTo_91 : decode cX12_levelsUpTo 91 = .ok (.iload 6, 2) := by decide +kernel
theorem dX12_levelsUpTo_93 : decode cX12_levelsUpTo 93 = .ok (.ifCond .eq 10, 3) := by decide +kernel
theorem dX12_levelsUpTo_96 : decode cX12_levelsUpTo 96 = .ok (.iconst 1, 1) := by decide +kernel
theorem dX12_levelsUpTo_97 : decode cX12_levelsUpTo 97 = .ok (.iload 5, 2) := by decide +kernel
theorem dX12_levelsUpTo_99 : decode cX12_levelsUpTo 99 = .ok (.ishl, 1) := by decide +kernel
theorem dX12_levelsUpTo_100 : decode cX12_levelsUpTo 100 = .ok (.goto 4, 3) := by decide +kernel
theorem dX12_levelsUpTo_103 : decode cX12_levelsUpTo 103 = .ok (.iconst 0, 1) := by decide +kernel
theorem dX12_levelsUpTo_104 : decode cX12_levelsUpTo 104 = .ok (.ior, 1) := by decide +kernel
theorem dX12_levelsUpTo_105 : decode cX12_levelsUpTo 105 = .ok (.istore 4, 2) := by decide +kernel
theorem dX12_levelsUpTo_107 : decode cX12_levelsUpTo 107 = .ok (.iinc 5 1, 3) := by decide +kernel
theorem dX12_levelsUpTo_110 : decode cX12_levelsUpTo 110 = .ok (.goto (-104), 3) := by decide +kernel
theorem dX12_levelsUpTo_113 : decode cX12_levelsUpTo 113 = .ok (.iload 4, 2) := by decide +kernel
theorem dX12_levelsUpTo_115 : decode cX12_levelsUpTo 115 = .ok (.ireturn, 1) := by decide +kernel
set_option maxRecDepth 20000 in
theorem ggX12_blushes_X12_in : GoodIn wsX12_blushes wsX12_in := goodIn_r _ [6] (by decide +kernel) (by decide +kernel)
set_option maxRecDepth 20000 in
theorem gX12_blushes_X12_in : GoodIn wsX12_blushes (va_wsS RX12 72 yX12_in wsX12_in) := goodIn_app (goodIn_of _ (by decide +kernel)) ggX12_blushes_X12_in
set_option maxRecDepth 20000 in
theorem ggX12_blushes_X12_wrongBlushes : GoodIn wsX12_blushes wsX12_wrongBlushes := goodIn_r _ [10, 2, 11, 12, 13, 14, 5, 15, 3, 4, 6, 16, 17, 18, 19, 20, 21, 46, 47, 48, 49, 50, 51, 52, 53, 54, 55, 56, 57, 58, 59, 60, 61, 62, 63, 64, 65, 66, 67, 68, 69, 70, 71, 72, 73, 74, 75, 76] (by decide +kernel) (by decide +kernel)
set_option maxRecDepth 20000 in
theorem gX12_blushes_X12_wrongBlushes : GoodIn wsX12_blushes (wsV RX12 262 RX12 yX12_wrongBlushes wsX12_wrongBlushes) := goodIn_app (goodIn_of _ (by decide +kernel)) ggX12_blushes_X12_wrongBlushes
set_option maxRecDepth 20000 in
theorem ggX12_blushes_X12_levelsUpTo : GoodIn wsX12_blushes wsX12_levelsUpTo := goodIn_r _ [25, 26, 27, 28, 29, 5, 30, 31, 32, 33, 34, 35, 36, 37, 38, 39, 46, 47, 48, 49, 50, 51, 52, 53, 54, 55, 56, 57, 58, 59, 60, 61, 62, 63, 64, 65, 66, 67, 68, 69, 70, 71, 72, 73, 74, 75, 76] (by decide +kernel) (by decide +kernel)
set_option maxRecDepth 20000 in
theorem gX12_blushes_X12_levelsUpTo : GoodIn wsX12_blushes (wsV RX12 265 RX12 yX12_levelsUpTo wsX12_levelsUpTo) := goodIn_app (goodIn_of _ (by decide +kernel)) ggX12_blushes_X12_levelsUpTo
set_option maxRecDepth 20000 in
theorem ggX12_blushes_X12_hasBit : GoodIn wsX12_blushes wsX12_hasBit := goodIn_r _ [42] (by decide +kernel) (by decide +kernel)
set_option maxRecDepth 20000 in
theorem gX12_blushes_X12_hasBit : GoodIn wsX12_blushes (va_wsS RX12 199 yX12_hasBit wsX12_hasBit) := goodIn_app (goodIn_of _ (by decide +kernel)) ggX12_blushes_X12_hasBit
set_option maxRecDepth 20000 in
theorem ggX12_blushes_X12_onesOf : GoodIn wsX12_blushes wsX12_onesOf := goodIn_r _ [45] (by decide +kernel) (by decide +kernel)
set_option maxRecDepth 20000 in
theorem gX12_blushes_X12_onesOf : GoodIn wsX12_blushes (va_wsS RX12 235 yX12_onesOf wsX12_onesOf) := goodIn_app (goodIn_of _ (by decide +kernel)) ggX12_blushes_X12_onesOf
theorem dX12_blushes_0 : decode cX12_blushes 0 = .ok (.aload_n 0, 1) := by decide +kernel
theorem dX12_blushes_1 : decode cX12_blushes 1 = .ok (.iconst 0, 1) := by decide +kernel
theorem dX12_blushes_2 : decode cX12_blushes 2 = .ok (.putfield 65, 3) := by decide +kernel
theorem dX12_blushes_5 : decode cX12_blushes 5 = .ok (.iload_n 3, 1) := by decide +kernel
theorem dX12_blushes_6 : decode cX12_blushes 6 = .ok (.i2l, 1) := by decide +kernel
theorem dX12_blushes_7 : decode cX12_blushes 7 = .ok (.lconst 0, 1) := by decide +kernel
theorem dX12_blushes_8 : decode cX12_blushes 8 = .ok (.lconst 1, 1) := by decide +kernel
theorem dX12_blushes_9 : decode cX12_blushes 9 = .ok (.invokestatic 72, 3) := by decide +kernel
theorem dX12_blushes_12 : decode cX12_blushes 12 = .ok (.ifCond .eq 12, 3) := by decide +kernel
theorem dX12_blushes_15 : decode cX12_blushes 15 = .ok (.aload_n 0, 1) := by decide +kernel
theorem dX12_blushes_16 : decode cX12_blushes 16 = .ok (.iload_n 1, 1) := by decide +kernel
theorem dX12_blushes_17 : decode cX12_blushes 17 = .ok (.iload_n 2, 1) := by decide +kernel
theorem dX12_blushes_18 : decode cX12_blushes 18 = .ok (.invokevirtual 262, 3) := by decide +kernel
theorem dX12_blushes_21 : decode cX12_blushes 21 = .ok (.goto 4, 3) := by decide +kernel
theorem dX12_blushes_24 : decode cX12_blushes 24 = .ok (.iconst (-1), 1) := by decide +kernel
theorem dX12_blushes_25 : decode cX12_blushes 25 = .ok (.istore 4, 2) := by decide +kernel
theorem dX12_blushes_27 : decode cX12_blushes 27 = .ok (.iload 4, 2) := by decide +kernel
theorem dX12_blushes_29 : decode cX12_blushes 29 = .ok (.ifCond .ge 6, 3) := by decide +kernel
theorem dX12_blushes_32 : decode cX12_blushes 32 = .ok (.iload 4, 2) := by decide +kernel
theorem dX12_blushes_34 : decode cX12_blushes 34 = .ok (.ireturn, 1) := by decide +kernel
theorem dX12_blushes_35 : decode cX12_blushes 35 = .ok (.aload_n 0, 1) := by decide +kernel
theorem dX12_blushes_36 : decode cX12_blushes 36 = .ok (.iload_n 1, 1) := by decide +kernel
theorem dX12_blushes_37 : decode cX12_blushes 37 = .ok (.iload_n 2, 1) := by decide +kernel
theorem dX12_blushes_38 : decode cX12_blushes 38 = .ok (.aload_n 0, 1) := by decide +kernel
theorem dX12_blushes_39 : decode cX12_blushes 39 = .ok (.getfield 34, 3) := by decide +kernel
theorem dX12_blushes_42 : decode cX12_blushes 42 = .ok (.iload_n 2, 1) := by decide +kernel
theorem dX12_blushes_43 : decode cX12_blushes 43 = .ok (.iaload, 1) := by decide +kernel
theorem dX12_blushes_44 : decode cX12_blushes 44 = .ok (.invokevirtual 265, 3) := by decide +kernel
theorem dX12_blushes_47 : decode cX12_blushes 47 = .ok (.istore 5, 2) := by decide +kernel
theorem dX12_blushes_49 : decode cX12_blushes 49 = .ok (.bipush (-4), 2) := by decide +kernel
theorem dX12_blushes_51 : decode cX12_blushes 51 = .ok (.istore 6, 2) := by decide +kernel
theorem dX12_blushes_53 : decode cX12_blushes 53 = .ok (.bipush 9, 2) := by decide +kernel
theorem dX12_blushes_55 : decode cX12_blushes 55 = .ok (.istore 7, 2) := by decide +kernel
theorem dX12_blushes_57 : decode cX12_blushes 57 = .ok (.iload 7, 2) := by decide +kernel
theorem dX12_blushes_59 : decode cX12_blushes 59 = .ok (.ifCond .lt 28, 3) := by decide +kernel
theorem dX12_blushes_62 : decode cX12_blushes 62 = .ok (.iload 5, 2) := by decide +kernel
theorem dX12_blushes_64 : decode cX12_blushes 64 = .ok (.iload 7, 2) := by decide +kernel
theorem dX12_blushes_66 : decode cX12_blushes 66 = .ok (.invokestatic 199, 3) := by decide +kernel
theorem dX12_blushes_69 : decode cX12_blushes 69 = .ok (.ifCond .eq 8, 3) := by decide +kernel
theorem dX12_blushes_72 : decode cX12_blushes 72 = .ok (.iload 7, 2) := by decide +kernel
theorem dX12_blushes_74 : decode cX12_blushes 74 = .ok (.goto 5, 3) := by decide +kernel
theorem dX12_blushes_77 : decode cX12_blushes 77 = .ok (.iload 6, 2) := by decide +kernel
theorem dX12_blushes_79 : decode cX12_blushes 79 = .ok (.istore 6, 2) := by decide +kernel
theorem dX12_blushes_81 : decode cX12_blushes 81 = .ok (.iinc 7 (-1), 3) := by decide +kernel
theorem dX12_blushes_84 : decode cX12_blushes 84 = .ok (.goto (-27), 3) := by decide +kernel
theorem dX12_blushes_87 : decode cX12_blushes 87 = .ok (.iload_n 3, 1) := by decide +kernel
theorem dX12_blushes_88 : decode cX12_blushes 88 = .ok (.ifCond .ne 11, 3) := by decide +kernel
theorem dX12_blushes_91 : decode cX12_blushes 91 = .ok (.iload 5, 2) := by decide +kernel
theorem dX12_blushes_93 : decode cX12_blushes 93 = .ok (.invokestatic 235, 3) := by decide +kernel
theorem dX12_blushes_96 : decode cX12_blushes 96 = .ok (.goto 5, 3) := by decide +kernel
theorem dX12_blushes_99 : decode cX12_blushes 99 = .ok (.iload 6, 2) := by decide +kernel
theorem dX12_blushes_101 : decode cX12_blushes 101 = .ok (.ireturn, 1) := by decide +kernel
set_option maxRecDepth 20000 in
theorem ggX12_forged_X12_wrongBlushes : GoodIn wsX12_forged wsX12_wrongBlushes := goodIn_r _ [7, 2, 8, 9, 10, 11, 6, 12, 13, 14, 15, 16, 17, 18, 19, 20, 21, 40, 41, 42, 43, 44, 45, 46, 47, 48, 49, 50, 51, 52, 53, 54, 55, 56, 57, 58, 59, 60, 61, 62, 63, 64, 65, 66, 67, 68, 69, 70] (by decide +kernel) (by decide +kernel)
set_option maxRecDepth 20000 in
theorem gX12_forged_X12_wrongBlushes : GoodIn wsX12_forged (wsV RX12 262 RX12 yX12_wrongBlushes wsX12_wrongBlushes) := goodIn_app (goodIn_of _ (by decide +kernel)) ggX12_forged_X12_wrongBlushes
set_option maxRecDepth 20000 in
theorem ggX12_forged_X12_levelsUpTo : GoodIn wsX12_forged wsX12_levelsUpTo := goodIn_r _ [25, 26, 27, 28, 29, 6, 30, 31, 32, 33, 34, 35, 36, 37, 38, 39, 40, 41, 42, 43, 44, 45, 46, 47, 48, 49, 50, 51, 52, 53, 54, 55, 56, 57, 58, 59, 60, 61, 62, 63, 64, 65, 66, 67, 68, 69, 70] (by decide +kernel) (by decide +kernel)
set_option maxRecDepth 20000 in
theorem gX12_forged_X12_levelsUpTo : GoodIn wsX12_forged (wsV RX12 265 RX12 yX12_levelsUpTo wsX12_levelsUpTo) := goodIn_app (goodIn_of _ (by decide +kernel)) ggX12_forged_X12_levelsUpTo
theorem dX12_forged_0 : decode cX12_forged 0 = .ok (.aload_n 0, 1) := by decide +kernel
theorem dX12_forged_1 : decode cX12_forged 1 = .ok (.iconst 0, 1) := by decide +kernel
theorem dX12_forged_2 : decode cX12_forged 2 = .ok (.putfield 65, 3) := by decide +kernel
theorem dX12_forged_5 : decode cX12_forged 5 = .ok (.aload_n 0, 1) := by decide +kernel
theorem dX12_forged_6 : decode cX12_forged 6 = .ok (.iload_n 1, 1) := by decide +kernel
theorem dX12_forged_7 : decode cX12_forged 7 = .ok (.iload_n 2, 1) := by decide +kernel
theorem dX12_forged_8 : decode cX12_forged 8 = .ok (.invokevirtual 262, 3) := by decide +kernel
theorem dX12_forged_11 : decode cX12_forged 11 = .ok (.istore_n 3, 1) := by decide +kernel
theorem dX12_forged_12 : decode cX12_forged 12 = .ok (.iload_n 3, 1) := by decide +kernel
theorem dX12_forged_13 : decode cX12_forged 13 = .ok (.ifCond .ge 5, 3) := by decide +kernel
theorem dX12_forged_16 : decode cX12_forged 16 = .ok (.iload_n 3, 1) := by decide +kernel
theorem dX12_forged_17 : decode cX12_forged 17 = .ok (.ireturn, 1) := by decide +kernel
theorem dX12_forged_18 : decode cX12_forged 18 = .ok (.iconst 0, 1) := by decide +kernel
theorem dX12_forged_19 : decode cX12_forged 19 = .ok (.istore 4, 2) := by decide +kernel
theorem dX12_forged_21 : decode cX12_forged 21 = .ok (.iload 4, 2) := by decide +kernel
theorem dX12_forged_23 : decode cX12_forged 23 = .ok (.aload_n 0, 1) := by decide +kernel
theorem dX12_forged_24 : decode cX12_forged 24 = .ok (.getfield 34, 3) := by decide +kernel
theorem dX12_forged_27 : decode cX12_forged 27 = .ok (.iload_n 2, 1) := by decide +kernel
theorem dX12_forged_28 : decode cX12_forged 28 = .ok (.iaload, 1) := by decide +kernel
theorem dX12_forged_29 : decode cX12_forged 29 = .ok (.if_icmp .ge 25, 3) := by decide +kernel
theorem dX12_forged_32 : decode cX12_forged 32 = .ok (.aload_n 0, 1) := by decide +kernel
theorem dX12_forged_33 : decode cX12_forged 33 = .ok (.iload_n 1, 1) := by decide +kernel
theorem dX12_forged_34 : decode cX12_forged 34 = .ok (.iload_n 2, 1) := by decide +kernel
theorem dX12_forged_35 : decode cX12_forged 35 = .ok (.iload 4, 2) := by decide +kernel
theorem dX12_forged_37 : decode cX12_forged 37 = .ok (.iconst 1, 1) := by decide +kernel
theorem dX12_forged_38 : decode cX12_forged 38 = .ok (.iadd, 1) := by decide +kernel
theorem dX12_forged_39 : decode cX12_forged 39 = .ok (.invokevirtual 265, 3) := by decide +kernel
theorem dX12_forged_42 : decode cX12_forged 42 = .ok (.ifCond .ne 6, 3) := by decide +kernel
theorem dX12_forged_45 : decode cX12_forged 45 = .ok (.iload 4, 2) := by decide +kernel
theorem dX12_forged_47 : decode cX12_forged 47 = .ok (.ireturn, 1) := by decide +kernel
theorem dX12_forged_48 : decode cX12_forged 48 = .ok (.iinc 4 1, 3) := by decide +kernel
theorem dX12_forged_51 : decode cX12_forged 51 = .ok (.goto (-30), 3) := by decide +kernel
theorem dX12_forged_54 : decode cX12_forged 54 = .ok (.bipush (-4), 2) := by decide +kernel
theorem dX12_forged_56 : decode cX12_forged 56 = .ok (.ireturn, 1) := by decide +kernel
set_option maxRecDepth 20000 in
theorem ggX12_leastTurns_X12_canTurn : GoodIn wsX12_leastTurns wsX12_canTurn := goodIn_r _ [6, 7, 8, 9, 10, 5, 11, 12, 13, 14, 15, 16, 17, 18, 39, 40, 41, 42, 43, 44, 45, 46, 47, 48, 49, 50, 51, 52, 53, 54, 55, 56, 57, 58, 59, 60, 61, 62, 63, 64, 65, 66, 67, 68, 69] (by decide +kernel) (by decide +kernel)
set_option maxRecDepth 20000 in
theorem gX12_leastTurns_X12_canTurn : GoodIn wsX12_leastTurns (wsV RX12 138 RX12 yX12_canTurn wsX12_canTurn) := goodIn_app (goodIn_of _ (by decide +kernel)) ggX12_leastTurns_X12_canTurn
set_option maxRecDepth 20000 in
theorem ggX12_leastTurns_X12_turnCards : GoodIn wsX12_leastTurns wsX12_turnCards := goodIn_r _ [22, 7, 23, 24, 25, 5, 26, 18, 27, 28, 29, 30, 31, 32, 33, 34, 12, 35, 36, 37, 38, 39, 40, 41, 42, 43, 44, 45, 46, 47, 48, 49, 50, 51, 52, 53, 54, 55, 56, 57, 58, 59, 60, 61, 62, 63, 64, 65, 66, 67, 68, 69] (by decide +kernel) (by decide +kernel)
set_option maxRecDepth 20000 in
theorem gX12_leastTurns_X12_turnCards : GoodIn wsX12_leastTurns (wsV RX12 144 RX12 yX12_turnCards wsX12_turnCards) := goodIn_app (goodIn_of _ (by decide +kernel)) ggX12_leastTurns_X12_turnCards
theorem dX12_leastTurns_0 : decode cX12_leastTurns 0 = .ok (.iconst 0, 1) := by decide +kernel
theorem dX12_leastTurns_1 : decode cX12_leastTurns 1 = .ok (.istore_n 2, 1) := by decide +kernel
theorem dX12_leastTurns_2 : decode cX12_leastTurns 2 = .ok (.iload_n 2, 1) := by decide +kernel
theorem dX12_leastTurns_3 : decode cX12_leastTurns 3 = .ok (.aload_n 0, 1) := by decide +kernel
theorem dX12_leastTurns_4 : decode cX12_leastTurns 4 = .ok (.getfield 69, 3) := by decide +kernel
theorem dX12_leastTurns_7 : decode cX12_leastTurns 7 = .ok (.if_icmp .ge 26, 3) := by decide +kernel
theorem dX12_leastTurns_10 : decode cX12_leastTurns 10 = .ok (.aload_n 0, 1) := by decide +kernel
theorem dX12_leastTurns_11 : decode cX12_leastTurns 11 = .ok (.iload_n 2, 1) := by decide +kernel
theorem dX12_leastTurns_12 : decode cX12_leastTurns 12 = .ok (.iload_n 1, 1) := by decide +kernel
theorem dX12_leastTurns_13 : decode cX12_leastTurns 13 = .ok (.invokevirtual 138, 3) := by decide +kernel
theorem dX12_leastTurns_16 : decode cX12_leastTurns 16 = .ok (.ifCond .eq 11, 3) := by decide +kernel
theorem dX12_leastTurns_19 : decode cX12_leastTurns 19 = .ok (.aload_n 0, 1) := by decide +kernel
theorem dX12_leastTurns_20 : decode cX12_leastTurns 20 = .ok (.iload_n 2, 1) := by decide +kernel
theorem dX12_leastTurns_21 : decode cX12_leastTurns 21 = .ok (.iload_n 1, 1) := by decide +kernel
theorem dX12_leastTurns_22 : decode cX12_leastTurns 22 = .ok (.invokevirtual 144, 3) := by decide +kernel
theorem dX12_leastTurns_25 : decode cX12_leastTurns 25 = .ok (.iconst 1, 1) := by decide +kernel
theorem dX12_leastTurns_26 : decode cX12_leastTurns 26 = .ok (.ireturn, 1) := by decide +kernel
theorem dX12_leastTurns_27 : decode cX12_leastTurns 27 = .ok (.iinc 2 1, 3) := by decide +kernel
theorem dX12_leastTurns_30 : decode cX12_leastTurns 30 = .ok (.goto (-28), 3) := by decide +kernel
theorem dX12_leastTurns_33 : decode cX12_leastTurns 33 = .ok (.iconst 0, 1) := by decide +kernel
theorem dX12_leastTurns_34 : decode cX12_leastTurns 34 = .ok (.ireturn, 1) := by decide +kernel
set_option maxRecDepth 20000 in
theorem ggX12_judge_X12_isOne : GoodIn wsX12_judge wsX12_isOne := goodIn_r _ [9, 10, 11, 12, 8, 13, 88, 89, 90, 91, 92, 93, 94, 95, 96, 97, 98, 99, 100, 101, 102, 103, 104, 105, 106, 107, 108, 109, 110, 111, 112, 113, 114, 115, 116, 117, 118] (by decide +kernel) (by decide +kernel)
set_option maxRecDepth 20000 in
theorem gX12_judge_X12_isOne : GoodIn wsX12_judge (wsV RX12 76 RX12 yX12_isOne wsX12_isOne) := goodIn_app (goodIn_of _ (by decide +kernel)) ggX12_judge_X12_isOne
set_option maxRecDepth 20000 in
theorem ggX12_judge_X12_wrongRow : GoodIn wsX12_judge wsX12_wrongRow := goodIn_r _ [17, 18, 19, 11, 12, 8, 13, 88, 89, 90, 91, 92, 93, 94, 95, 96, 97, 98, 99, 100, 101, 102, 103, 104, 105, 106, 107, 108, 109, 110, 111, 112, 113, 114, 115, 116, 117, 118] (by decide +kernel) (by decide +kernel)
set_option maxRecDepth 20000 in
theorem gX12_judge_X12_wrongRow : GoodIn wsX12_judge (wsV RX12 153 RX12 yX12_wrongRow wsX12_wrongRow) := goodIn_app (goodIn_of _ (by decide +kernel)) ggX12_judge_X12_wrongRow
set_option maxRecDepth 20000 in
theorem ggX12_judge_X12_open : GoodIn wsX12_judge wsX12_open := goodIn_r _ [23, 24, 25, 26, 27, 8, 28, 29, 30, 31, 10, 32, 33, 34, 35, 4, 36, 37, 38, 39, 40, 88, 89, 90, 91, 92, 93, 94, 95, 96, 97, 98, 99, 100, 101, 102, 103, 104, 105, 106, 107, 108, 109, 110, 111, 112, 113, 114, 115, 116, 117, 118] (by decide +kernel) (by decide +kernel)
set_option maxRecDepth 20000 in
theorem gX12_judge_X12_open : GoodIn wsX12_judge (wsV RX12 159 RX12 yX12_open wsX12_open) := goodIn_app (goodIn_of _ (by decide +kernel)) ggX12_judge_X12_open
set_option maxRecDepth 20000 in
theorem ggX12_judge_X12_leastTurns : GoodIn wsX12_judge wsX12_leastTurns := goodIn_r _ [44, 10, 45, 46, 47, 8, 48, 4, 49, 50, 51, 52, 36, 32, 53, 54, 55, 56, 34, 57, 58, 59, 60, 61, 62, 63, 64, 35, 65, 66, 67, 68, 69, 70, 71, 72, 73, 74, 75, 88, 89, 90, 91, 92, 93, 94, 95, 96, 97, 98, 99, 100, 101, 102, 103, 104, 105, 106, 107, 108, 109, 110, 111, 112, 113, 114, 115, 116, 117, 118] (by decide +kernel) (by decide +kernel)
set_option maxRecDepth 20000 in
theorem gX12_judge_X12_leastTurns : GoodIn wsX12_judge (wsV RX12 268 RX12 yX12_leastTurns wsX12_leastTurns) := goodIn_app (goodIn_of _ (by decide +kernel)) ggX12_judge_X12_leastTurns
set_option maxRecDepth 20000 in
theorem ggX12_judge_X12_skipped : GoodIn wsX12_judge wsX12_skipped := goodIn_r _ [79, 80, 81, 82, 83, 88, 89, 90, 91, 92, 93, 94, 95, 96, 97, 98, 99, 100, 101, 102, 103, 104, 105, 106, 107, 108, 109, 110, 111, 112, 113, 114, 115, 116, 117, 118] (by decide +kernel) (by decide +kernel)
set_option maxRecDepth 20000 in
theorem gX12_judge_X12_skipped : GoodIn wsX12_judge (wsV RX12 255 RX12 yX12_skipped wsX12_skipped) := goodIn_app (goodIn_of _ (by decide +kernel)) ggX12_judge_X12_skipped
set_option maxRecDepth 20000 in
theorem ggX12_judge_X12_close : GoodIn wsX12_judge wsX12_close := goodIn_r _ [87, 24, 25, 26, 27, 8, 28, 29, 30, 31, 10, 32, 33, 34, 35, 4, 36, 37, 38, 39, 40, 88, 89, 90, 91, 92, 93, 94, 95, 96, 97, 98, 99, 100, 101, 102, 103, 104, 105, 106, 107, 108, 109, 110, 111, 112, 113, 114, 115, 116, 117, 118] (by decide +kernel) (by decide +kernel)
set_option maxRecDepth 20000 in
theorem gX12_judge_X12_close : GoodIn wsX12_judge (wsV RX12 165 RX12 yX12_close wsX12_close) := goodIn_app (goodIn_of _ (by decide +kernel)) ggX12_judge_X12_close
theorem dX12_judge_0 : decode cX12_judge 0 = .ok (.aload_n 0, 1) := by decide +kernel
theorem dX12_judge_1 : decode cX12_judge 1 = .ok (.iconst 0, 1) := by decide +kernel
theorem dX12_judge_2 : decode cX12_judge 2 = .ok (.putfield 65, 3) := by decide +kernel
theorem dX12_judge_5 : decode cX12_judge 5 = .ok (.aload_n 0, 1) := by decide +kernel
theorem dX12_judge_6 : decode cX12_judge 6 = .ok (.iload_n 1, 1) := by decide +kernel
theorem dX12_judge_7 : decode cX12_judge 7 = .ok (.invokevirtual 76, 3) := by decide +kernel
theorem dX12_judge_10 : decode cX12_judge 10 = .ok (.ifCond .eq 11, 3) := by decide +kernel
theorem dX12_judge_13 : decode cX12_judge 13 = .ok (.aload_n 0, 1) := by decide +kernel
theorem dX12_judge_14 : decode cX12_judge 14 = .ok (.iload_n 2, 1) := by decide +kernel
theorem dX12_judge_15 : decode cX12_judge 15 = .ok (.invokevirtual 153, 3) := by decide +kernel
theorem dX12_judge_18 : decode cX12_judge 18 = .ok (.goto 4, 3) := by decide +kernel
theorem dX12_judge_21 : decode cX12_judge 21 = .ok (.iconst (-1), 1) := by decide +kernel
theorem dX12_judge_22 : decode cX12_judge 22 = .ok (.istore_n 3, 1) := by decide +kernel
theorem dX12_judge_23 : decode cX12_judge 23 = .ok (.iload_n 3, 1) := by decide +kernel
theorem dX12_judge_24 : decode cX12_judge 24 = .ok (.ifCond .ge 5, 3) := by decide +kernel
theorem dX12_judge_27 : decode cX12_judge 27 = .ok (.iload_n 3, 1) := by decide +kernel
theorem dX12_judge_28 : decode cX12_judge 28 = .ok (.ireturn, 1) := by decide +kernel
theorem dX12_judge_29 : decode cX12_judge 29 = .ok (.bipush (-4), 2) := by decide +kernel
theorem dX12_judge_31 : decode cX12_judge 31 = .ok (.istore 4, 2) := by decide +kernel
theorem dX12_judge_33 : decode cX12_judge 33 = .ok (.iconst 1, 1) := by decide +kernel
theorem dX12_judge_34 : decode cX12_judge 34 = .ok (.istore 5, 2) := by decide +kernel
theorem dX12_judge_36 : decode cX12_judge 36 = .ok (.aload_n 0, 1) := by decide +kernel
theorem dX12_judge_37 : decode cX12_judge 37 = .ok (.invokevirtual 159, 3) := by decide +kernel
theorem dX12_judge_40 : decode cX12_judge 40 = .ok (.iconst 0, 1) := by decide +kernel
theorem dX12_judge_41 : decode cX12_judge 41 = .ok (.istore 6, 2) := by decide +kernel
theorem dX12_judge_43 : decode cX12_judge 43 = .ok (.iload 6, 2) := by decide +kernel
theorem dX12_judge_45 : decode cX12_judge 45 = .ok (.aload_n 0, 1) := by decide +kernel
theorem dX12_judge_46 : decode cX12_judge 46 = .ok (.getfield 34, 3) := by decide +kernel
theorem dX12_judge_49 : decode cX12_judge 49 = .ok (.iload_n 2, 1) := by decide +kernel
theorem dX12_judge_50 : decode cX12_judge 50 = .ok (.iaload, 1) := by decide +kernel
theorem dX12_judge_51 : decode cX12_judge 51 = .ok (.if_icmp .ge 91, 3) := by decide +kernel
theorem dX12_judge_54 : decode cX12_judge 54 = .ok (.iload 4, 2) := by decide +kernel
theorem dX12_judge_56 : decode cX12_judge 56 = .ok (.ifCond .ge 86, 3) := by decide +kernel
theorem dX12_judge_59 : decode cX12_judge 59 = .ok (.iload 5, 2) := by decide +kernel
theorem dX12_judge_61 : decode cX12_judge 61 = .ok (.ifCond .eq 20, 3) := by decide +kernel
theorem dX12_judge_64 : decode cX12_judge 64 = .ok (.iload 6, 2) := by decide +kernel
theorem dX12_judge_66 : decode cX12_judge 66 = .ok (.ifCond .eq 11, 3) := by decide +kernel
theorem dX12_judge_69 : decode cX12_judge 69 = .ok (.aload_n 0, 1) := by decide +kernel
theorem dX12_judge_70 : decode cX12_judge 70 = .ok (.iload_n 1, 1) := by decide +kernel
theorem dX12_judge_71 : decode cX12_judge 71 = .ok (.invokevirtual 268, 3) := by decide +kernel
theorem dX12_judge_74 : decode cX12_judge 74 = .ok (.ifCond .eq 7, 3) := by decide +kernel
theorem dX12_judge_77 : decode cX12_judge 77 = .ok (.iconst 1, 1) := by decide +kernel
theorem dX12_judge_78 : decode cX12_judge 78 = .ok (.goto 4, 3) := by decide +kernel
theorem dX12_judge_81 : decode cX12_judge 81 = .ok (.iconst 0, 1) := by decide +kernel
theorem dX12_judge_82 : decode cX12_judge 82 = .ok (.istore 5, 2) := by decide +kernel
theorem dX12_judge_84 : decode cX12_judge 84 = .ok (.aload_n 0, 1) := by decide +kernel
theorem dX12_judge_85 : decode cX12_judge 85 = .ok (.getfield 37, 3) := by decide +kernel
theorem dX12_judge_88 : decode cX12_judge 88 = .ok (.bipush 100, 2) := by decide +kernel
theorem dX12_judge_90 : decode cX12_judge 90 = .ok (.iload_n 2, 1) := by decide +kernel
theorem dX12_judge_91 : decode cX12_judge 91 = .ok (.imul, 1) := by decide +kernel
theorem dX12_judge_92 : decode cX12_judge 92 = .ok (.iload 6, 2) := by decide +kernel
theorem dX12_judge_94 : decode cX12_judge 94 = .ok (.iadd, 1) := by decide +kernel
theorem dX12_judge_95 : decode cX12_judge 95 = .ok (.laload, 1) := by decide +kernel
theorem dX12_judge_96 : decode cX12_judge 96 = .ok (.lstore 7, 2) := by decide +kernel
theorem dX12_judge_98 : decode cX12_judge 98 = .ok (.lload 7, 2) := by decide +kernel
theorem dX12_judge_100 : decode cX12_judge 100 = .ok (.aload_n 0, 1) := by decide +kernel
theorem dX12_judge_101 : decode cX12_judge 101 = .ok (.iload_n 2, 1) := by decide +kernel
theorem dX12_judge_102 : decode cX12_judge 102 = .ok (.invokevirtual 255, 3) := by decide +kernel
theorem dX12_judge_105 : decode cX12_judge 105 = .ok (.lcmp, 1) := by decide +kernel
theorem dX12_judge_106 : decode cX12_judge 106 = .ok (.ifCond .eq 21, 3) := by decide +kernel
theorem dX12_judge_109 : decode cX12_judge 109 = .ok (.iload 5, 2) := by decide +kernel
theorem dX12_judge_111 : decode cX12_judge 111 = .ok (.ifCond .eq 21, 3) := by decide +kernel
theorem dX12_judge_114 : decode cX12_judge 114 = .ok (.lload 7, 2) := by decide +kernel
theorem dX12_judge_116 : decode cX12_judge 116 = .ok (.aload_n 0, 1) := by decide +kernel
theorem dX12_judge_117 : decode cX12_judge 117 = .ok (.getfield 16, 3) := by decide +kernel
theorem dX12_judge_120 : decode cX12_judge 120 = .ok (.iload_n 1, 1) := by decide +kernel
theorem dX12_judge_121 : decode cX12_judge 121 = .ok (.iaload, 1) := by decide +kernel
theorem dX12_judge_122 : decode cX12_judge 122 = .ok (.i2l, 1) := by decide +kernel
theorem dX12_judge_123 : decode cX12_judge 123 = .ok (.lcmp, 1) := by decide +kernel
theorem dX12_judge_124 : decode cX12_judge 124 = .ok (.ifCond .ne 8, 3) := by decide +kernel
theorem dX12_judge_127 : decode cX12_judge 127 = .ok (.bipush (-4), 2) := by decide +kernel
theorem dX12_judge_129 : decode cX12_judge 129 = .ok (.goto 5, 3) := by decide +kernel
theorem dX12_judge_132 : decode cX12_judge 132 = .ok (.iload 6, 2) := by decide +kernel
theorem dX12_judge_134 : decode cX12_judge 134 = .ok (.istore 4, 2) := by decide +kernel
theorem dX12_judge_136 : decode cX12_judge 136 = .ok (.iinc 6 1, 3) := by decide +kernel
theorem dX12_judge_139 : decode cX12_judge 139 = .ok (.goto (-96), 3) := by decide +kernel
theorem dX12_judge_142 : decode cX12_judge 142 = .ok (.aload_n 0, 1) := by decide +kernel
theorem dX12_judge_143 : decode cX12_judge 143 = .ok (.invokevirtual 165, 3) := by decide +kernel
theorem dX12_judge_146 : decode cX12_judge 146 = .ok (.iload 4, 2) := by decide +kernel
theorem dX12_judge_148 : decode cX12_judge 148 = .ok (.ireturn, 1) := by decide +kernel
theorem dX12_drawBelow_0 : decode cX12_drawBelow 0 = .ok (.aload_n 0, 1) := by decide +kernel
theorem dX12_drawBelow_1 : decode cX12_drawBelow 1 = .ok (.aload_n 0, 1) := by decide +kernel
theorem dX12_drawBelow_2 : decode cX12_drawBelow 2 = .ok (.getfield 271, 3) := by decide +kernel
theorem dX12_drawBelow_5 : decode cX12_drawBelow 5 = .ok (.ldc_w 274, 3) := by decide +kernel
theorem dX12_drawBelow_8 : decode cX12_drawBelow 8 = .ok (.imul, 1) := by decide +kernel
theorem dX12_drawBelow_9 : decode cX12_drawBelow 9 = .ok (.sipush 12345, 3) := by decide +kernel
theorem dX12_drawBelow_12 : decode cX12_drawBelow 12 = .ok (.iadd, 1) := by decide +kernel
theorem dX12_drawBelow_13 : decode cX12_drawBelow 13 = .ok (.putfield 271, 3) := by decide +kernel
theorem dX12_drawBelow_16 : decode cX12_drawBelow 16 = .ok (.aload_n 0, 1) := by decide +kernel
theorem dX12_drawBelow_17 : decode cX12_drawBelow 17 = .ok (.getfield 271, 3) := by decide +kernel
theorem dX12_drawBelow_20 : decode cX12_drawBelow 20 = .ok (.ldc_w 275, 3) := by decide +kernel
theorem dX12_drawBelow_23 : decode cX12_drawBelow 23 = .ok (.iand, 1) := by decide +kernel
theorem dX12_drawBelow_24 : decode cX12_drawBelow 24 = .ok (.ldc_w 276, 3) := by decide +kernel
theorem dX12_drawBelow_27 : decode cX12_drawBelow 27 = .ok (.idiv, 1) := by decide +kernel
theorem dX12_drawBelow_28 : decode cX12_drawBelow 28 = .ok (.iload_n 1, 1) := by decide +kernel
theorem dX12_drawBelow_29 : decode cX12_drawBelow 29 = .ok (.irem, 1) := by decide +kernel
theorem dX12_drawBelow_30 : decode cX12_drawBelow 30 = .ok (.ireturn, 1) := by decide +kernel
theorem dX12_allTurned_0 : decode cX12_allTurned 0 = .ok (.iconst 0, 1) := by decide +kernel
theorem dX12_allTurned_1 : decode cX12_allTurned 1 = .ok (.istore_n 1, 1) := by decide +kernel
theorem dX12_allTurned_2 : decode cX12_allTurned 2 = .ok (.iconst 0, 1) := by decide +kernel
theorem dX12_allTurned_3 : decode cX12_allTurned 3 = .ok (.istore_n 2, 1) := by decide +kernel
theorem dX12_allTurned_4 : decode cX12_allTurned 4 = .ok (.iload_n 2, 1) := by decide +kernel
theorem dX12_allTurned_5 : decode cX12_allTurned 5 = .ok (.aload_n 0, 1) := by decide +kernel
theorem dX12_allTurned_6 : decode cX12_allTurned 6 = .ok (.getfield 69, 3) := by decide +kernel
theorem dX12_allTurned_9 : decode cX12_allTurned 9 = .ok (.if_icmp .ge 18, 3) := by decide +kernel
theorem dX12_allTurned_12 : decode cX12_allTurned 12 = .ok (.iload_n 1, 1) := by decide +kernel
theorem dX12_allTurned_13 : decode cX12_allTurned 13 = .ok (.aload_n 0, 1) := by decide +kernel
theorem dX12_allTurned_14 : decode cX12_allTurned 14 = .ok (.getfield 16, 3) := by decide +kernel
theorem dX12_allTurned_17 : decode cX12_allTurned 17 = .ok (.iload_n 2, 1) := by decide +kernel
theorem dX12_allTurned_18 : decode cX12_allTurned 18 = .ok (.iaload, 1) := by decide +kernel
theorem dX12_allTurned_19 : decode cX12_allTurned 19 = .ok (.iadd, 1) := by decide +kernel
theorem dX12_allTurned_20 : decode cX12_allTurned 20 = .ok (.istore_n 1, 1) := by decide +kernel
theorem dX12_allTurned_21 : decode cX12_allTurned 21 = .ok (.iinc 2 1, 3) := by decide +kernel
theorem dX12_allTurned_24 : decode cX12_allTurned 24 = .ok (.goto (-20), 3) := by decide +kernel
theorem dX12_allTurned_27 : decode cX12_allTurned 27 = .ok (.iload_n 1, 1) := by decide +kernel
theorem dX12_allTurned_28 : decode cX12_allTurned 28 = .ok (.ireturn, 1) := by decide +kernel
set_option maxRecDepth 20000 in
theorem ggX12_months_X12_in : GoodIn wsX12_months wsX12_in := goodIn_r _ [8] (by decide +kernel) (by decide +kernel)
set_option maxRecDepth 20000 in
theorem gX12_months_X12_in : GoodIn wsX12_months (va_wsS RX12 72 yX12_in wsX12_in) := goodIn_app (goodIn_of _ (by decide +kernel)) ggX12_months_X12_in
set_option maxRecDepth 20000 in
theorem ggX12_months_X12_open : GoodIn wsX12_months wsX12_open := goodIn_r _ [12, 13, 14, 15, 16, 7, 17, 18, 19, 20, 3, 21, 22, 23, 24, 25, 26, 27, 28, 29, 30, 77, 78, 79, 80, 81, 82, 83, 84, 85, 86, 87, 88, 89, 90, 91, 92, 93, 94, 95, 96, 97, 98, 99, 100, 101, 102, 103, 104, 105, 106, 107] (by decide +kernel) (by decide +kernel)
set_option maxRecDepth 20000 in
theorem gX12_months_X12_open : GoodIn wsX12_months (wsV RX12 159 RX12 yX12_open wsX12_open) := goodIn_app (goodIn_of _ (by decide +kernel)) ggX12_months_X12_open
set_option maxRecDepth 20000 in
theorem ggX12_months_X12_drawBelow : GoodIn wsX12_months wsX12_drawBelow := goodIn_r _ [34, 4, 35, 36, 37, 77, 78, 79, 80, 81, 82, 83, 84, 85, 86, 87, 88, 89, 90, 91, 92, 93, 94, 95, 96, 97, 98, 99, 100, 101, 102, 103, 104, 105, 106, 107] (by decide +kernel) (by decide +kernel)
set_option maxRecDepth 20000 in
theorem gX12_months_X12_drawBelow : GoodIn wsX12_months (wsV RX12 279 RX12 yX12_drawBelow wsX12_drawBelow) := goodIn_app (goodIn_of _ (by decide +kernel)) ggX12_months_X12_drawBelow
set_option maxRecDepth 20000 in
theorem ggX12_months_X12_canTurn : GoodIn wsX12_months wsX12_canTurn := goodIn_r _ [41, 25, 42, 43, 44, 7, 45, 26, 21, 46, 47, 48, 49, 23, 77, 78, 79, 80, 81, 82, 83, 84, 85, 86, 87, 88, 89, 90, 91, 92, 93, 94, 95, 96, 97, 98, 99, 100, 101, 102, 103, 104, 105, 106, 107] (by decide +kernel) (by decide +kernel)
set_option maxRecDepth 20000 in
theorem gX12_months_X12_canTurn : GoodIn wsX12_months (wsV RX12 138 RX12 yX12_canTurn wsX12_canTurn) := goodIn_app (goodIn_of _ (by decide +kernel)) ggX12_months_X12_canTurn
set_option maxRecDepth 20000 in
theorem ggX12_months_X12_turnCards : GoodIn wsX12_months wsX12_turnCards := goodIn_r _ [53, 25, 54, 55, 56, 7, 57, 23, 24, 58, 59, 60, 61, 62, 63, 64, 26, 65, 66, 67, 68, 77, 78, 79, 80, 81, 82, 83, 84, 85, 86, 87, 88, 89, 90, 91, 92, 93, 94, 95, 96, 97, 98, 99, 100, 101, 102, 103, 104, 105, 106, 107] (by decide +kernel) (by decide +kernel)
set_option maxRecDepth 20000 in
theorem gX12_months_X12_turnCards : GoodIn wsX12_months (wsV RX12 144 RX12 yX12_turnCards wsX12_turnCards) := goodIn_app (goodIn_of _ (by decide +kernel)) ggX12_months_X12_turnCards
set_option maxRecDepth 20000 in
theorem ggX12_months_X12_grow : GoodIn wsX12_months wsX12_grow := goodIn_r _ [64, 26, 65, 66, 67, 7, 68, 24, 23, 58, 59, 60, 77, 78, 79, 80, 81, 82, 83, 84, 85, 86, 87, 88, 89, 90, 91, 92, 93, 94, 95, 96, 97, 98, 99, 100, 101, 102, 103, 104, 105, 106, 107] (by decide +kernel) (by decide +kernel)
set_option maxRecDepth 20000 in
theorem gX12_months_X12_grow : GoodIn wsX12_months (wsV RX12 97 RX12 yX12_grow wsX12_grow) := goodIn_app (goodIn_of _ (by decide +kernel)) ggX12_months_X12_grow
set_option maxRecDepth 20000 in
theorem ggX12_months_X12_allTurned : GoodIn wsX12_months wsX12_allTurned := goodIn_r _ [72, 3, 25, 77, 78, 79, 80, 81, 82, 83, 84, 85, 86, 87, 88, 89, 90, 91, 92, 93, 94, 95, 96, 97, 98, 99, 100, 101, 102, 103, 104, 105, 106, 107] (by decide +kernel) (by decide +kernel)
set_option maxRecDepth 20000 in
theorem gX12_months_X12_allTurned : GoodIn wsX12_months (wsV RX12 282 RX12 yX12_allTurned wsX12_allTurned) := goodIn_app (goodIn_of _ (by decide +kernel)) ggX12_months_X12_allTurned
set_option maxRecDepth 20000 in
theorem ggX12_months_X12_close : GoodIn wsX12_months wsX12_close := goodIn_r _ [76, 13, 14, 15, 16, 7, 17, 18, 19, 20, 3, 21, 22, 23, 24, 25, 26, 27, 28, 29, 30, 77, 78, 79, 80, 81, 82, 83, 84, 85, 86, 87, 88, 89, 90, 91, 92, 93, 94, 95, 96, 97, 98, 99, 100, 101, 102, 103, 104, 105, 106, 107] (by decide +kernel) (by decide +kernel)
set_option maxRecDepth 20000 in
theorem gX12_months_X12_close : GoodIn wsX12_months (wsV RX12 165 RX12 yX12_close wsX12_close) := goodIn_app (goodIn_of _ (by decide +kernel)) ggX12_months_X12_close
theorem dX12_months_0 : decode cX12_months 0 = .ok (.aload_n 0, 1) := by decide +kernel
theorem dX12_months_1 : decode cX12_months 1 = .ok (.iconst 0, 1) := by decide +kernel
theorem dX12_months_2 : decode cX12_months 2 = .ok (.putfield 65, 3) := by decide +kernel
theorem dX12_months_5 : decode cX12_months 5 = .ok (.iload_n 1, 1) := by decide +kernel
theorem dX12_months_6 : decode cX12_months 6 = .ok (.i2l, 1) := by decide +kernel
theorem dX12_months_7 : decode cX12_months 7 = .ok (.lconst 1, 1) := by decide +kernel
theorem dX12_months_8 : decode cX12_months 8 = .ok (.ldc2_w 277, 3) := by decide +kernel
theorem dX12_months_11 : decode cX12_months 11 = .ok (.invokestatic 72, 3) := by decide +kernel
theorem dX12_months_14 : decode cX12_months 14 = .ok (.ifCond .eq 13, 3) := by decide +kernel
theorem dX12_months_17 : decode cX12_months 17 = .ok (.iload_n 3, 1) := by decide +kernel
theorem dX12_months_18 : decode cX12_months 18 = .ok (.i2l, 1) := by decide +kernel
theorem dX12_months_19 : decode cX12_months 19 = .ok (.lconst 0, 1) := by decide +kernel
theorem dX12_months_20 : decode cX12_months 20 = .ok (.lconst 1, 1) := by decide +kernel
theorem dX12_months_21 : decode cX12_months 21 = .ok (.invokestatic 72, 3) := by decide +kernel
theorem dX12_months_24 : decode cX12_months 24 = .ok (.ifCond .ne 5, 3) := by decide +kernel
theorem dX12_months_27 : decode cX12_months 27 = .ok (.iconst (-1), 1) := by decide +kernel
theorem dX12_months_28 : decode cX12_months 28 = .ok (.ireturn, 1) := by decide +kernel
theorem dX12_months_29 : decode cX12_months 29 = .ok (.aload_n 0, 1) := by decide +kernel
theorem dX12_months_30 : decode cX12_months 30 = .ok (.getfield 69, 3) := by decide +kernel
theorem dX12_months_33 : decode cX12_months 33 = .ok (.ifCond .ne 6, 3) := by decide +kernel
theorem dX12_months_36 : decode cX12_months 36 = .ok (.bipush (-3), 2) := by decide +kernel
theorem dX12_months_38 : decode cX12_months 38 = .ok (.ireturn, 1) := by decide +kernel
theorem dX12_months_39 : decode cX12_months 39 = .ok (.aload_n 0, 1) := by decide +kernel
theorem dX12_months_40 : decode cX12_months 40 = .ok (.iload_n 2, 1) := by decide +kernel
theorem dX12_months_41 : decode cX12_months 41 = .ok (.putfield 271, 3) := by decide +kernel
theorem dX12_months_44 : decode cX12_months 44 = .ok (.iconst 0, 1) := by decide +kernel
theorem dX12_months_45 : decode cX12_months 45 = .ok (.istore 4, 2) := by decide +kernel
theorem dX12_months_47 : decode cX12_months 47 = .ok (.iconst 0, 1) := by decide +kernel
theorem dX12_months_48 : decode cX12_months 48 = .ok (.istore 5, 2) := by decide +kernel
theorem dX12_months_50 : decode cX12_months 50 = .ok (.aload_n 0, 1) := by decide +kernel
theorem dX12_months_51 : decode cX12_months 51 = .ok (.invokevirtual 159, 3) := by decide +kernel
theorem dX12_months_54 : decode cX12_months 54 = .ok (.iconst 0, 1) := by decide +kernel
theorem dX12_months_55 : decode cX12_months 55 = .ok (.istore 6, 2) := by decide +kernel
theorem dX12_months_57 : decode cX12_months 57 = .ok (.iload 6, 2) := by decide +kernel
theorem dX12_months_59 : decode cX12_months 59 = .ok (.iload_n 1, 1) := by decide +kernel
theorem dX12_months_60 : decode cX12_months 60 = .ok (.if_icmp .ge 114, 3) := by decide +kernel
theorem dX12_months_63 : decode cX12_months 63 = .ok (.iconst 0, 1) := by decide +kernel
theorem dX12_months_64 : decode cX12_months 64 = .ok (.istore 7, 2) := by decide +kernel
theorem dX12_months_66 : decode cX12_months 66 = .ok (.iload 7, 2) := by decide +kernel
theorem dX12_months_68 : decode cX12_months 68 = .ok (.bipush 10, 2) := by decide +kernel
theorem dX12_months_70 : decode cX12_months 70 = .ok (.if_icmp .ge 85, 3) := by decide +kernel
theorem dX12_months_73 : decode cX12_months 73 = .ok (.aload_n 0, 1) := by decide +kernel
theorem dX12_months_74 : decode cX12_months 74 = .ok (.aload_n 0, 1) := by decide +kernel
theorem dX12_months_75 : decode cX12_months 75 = .ok (.getfield 69, 3) := by decide +kernel
theorem dX12_months_78 : decode cX12_months 78 = .ok (.invokevirtual 279, 3) := by decide +kernel
theorem dX12_months_81 : decode cX12_months 81 = .ok (.istore 8, 2) := by decide +kernel
theorem dX12_months_83 : decode cX12_months 83 = .ok (.aload_n 0, 1) := by decide +kernel
theorem dX12_months_84 : decode cX12_months 84 = .ok (.aload_n 0, 1) := by decide +kernel
theorem dX12_months_85 : decode cX12_months 85 = .ok (.getfield 69, 3) := by decide +kernel
theorem dX12_months_88 : decode cX12_months 88 = .ok (.invokevirtual 279, 3) := by decide +kernel
theorem dX12_months_91 : decode cX12_months 91 = .ok (.istore 9, 2) := by decide +kernel
theorem dX12_months_93 : decode cX12_months 93 = .ok (.aload_n 0, 1) := by decide +kernel
theorem dX12_months_94 : decode cX12_months 94 = .ok (.iload 8, 2) := by decide +kernel
theorem dX12_months_96 : decode cX12_months 96 = .ok (.iload 9, 2) := by decide +kernel
theorem dX12_months_98 : decode cX12_months 98 = .ok (.invokevirtual 138, 3) := by decide +kernel
theorem dX12_months_101 : decode cX12_months 101 = .ok (.istore 10, 2) := by decide +kernel
theorem dX12_months_103 : decode cX12_months 103 = .ok (.iload 10, 2) := by decide +kernel
theorem dX12_months_105 : decode cX12_months 105 = .ok (.ifCond .eq 14, 3) := by decide +kernel
theorem dX12_months_108 : decode cX12_months 108 = .ok (.aload_n 0, 1) := by decide +kernel
theorem dX12_months_109 : decode cX12_months 109 = .ok (.iload 8, 2) := by decide +kernel
theorem dX12_months_111 : decode cX12_months 111 = .ok (.iload 9, 2) := by decide +kernel
theorem dX12_months_113 : decode cX12_months 113 = .ok (.invokevirtual 144, 3) := by decide +kernel
theorem dX12_months_116 : decode cX12_months 116 = .ok (.goto 18, 3) := by decide +kernel
theorem dX12_months_119 : decode cX12_months 119 = .ok (.iload 8, 2) := by decide +kernel
theorem dX12_months_121 : decode cX12_months 121 = .ok (.iload 9, 2) := by decide +kernel
theorem dX12_months_123 : decode cX12_months 123 = .ok (.if_icmp .eq 11, 3) := by decide +kernel
theorem dX12_months_126 : decode cX12_months 126 = .ok (.aload_n 0, 1) := by decide +kernel
theorem dX12_months_127 : decode cX12_months 127 = .ok (.iload 8, 2) := by decide +kernel
theorem dX12_months_129 : decode cX12_months 129 = .ok (.iload 9, 2) := by decide +kernel
theorem dX12_months_131 : decode cX12_months 131 = .ok (.invokevirtual 97, 3) := by decide +kernel
theorem dX12_months_134 : decode cX12_months 134 = .ok (.iload 5, 2) := by decide +kernel
theorem dX12_months_136 : decode cX12_months 136 = .ok (.iload 10, 2) := by decide +kernel
theorem dX12_months_138 : decode cX12_months 138 = .ok (.ifCond .eq 7, 3) := by decide +kernel
theorem dX12_months_141 : decode cX12_months 141 = .ok (.iconst 1, 1) := by decide +kernel
theorem dX12_months_142 : decode cX12_months 142 = .ok (.goto 4, 3) := by decide +kernel
theorem dX12_months_145 : decode cX12_months 145 = .ok (.iconst 0, 1) := by decide +kernel
theorem dX12_months_146 : decode cX12_months 146 = .ok (.iadd, 1) := by decide +kernel
theorem dX12_months_147 : decode cX12_months 147 = .ok (.istore 5, 2) := by decide +kernel
theorem dX12_months_149 : decode cX12_months 149 = .ok (.iinc 7 1, 3) := by decide +kernel
theorem dX12_months_152 : decode cX12_months 152 = .ok (.goto (-86), 3) := by decide +kernel
theorem dX12_months_155 : decode cX12_months 155 = .ok (.iload 4, 2) := by decide +kernel
theorem dX12_months_157 : decode cX12_months 157 = .ok (.aload_n 0, 1) := by decide +kernel
theorem dX12_months_158 : decode cX12_months 158 = .ok (.invokevirtual 282, 3) := by decide +kernel
theorem dX12_months_161 : decode cX12_months 161 = .ok (.iadd, 1) := by decide +kernel
theorem dX12_months_162 : decode cX12_months 162 = .ok (.istore 4, 2) := by decide +kernel
theorem dX12_months_164 : decode cX12_months 164 = .ok (.aload_n 0, 1) := by decide +kernel
theorem dX12_months_165 : decode cX12_months 165 = .ok (.invokevirtual 165, 3) := by decide +kernel
theorem dX12_months_168 : decode cX12_months 168 = .ok (.iinc 6 1, 3) := by decide +kernel
theorem dX12_months_171 : decode cX12_months 171 = .ok (.goto (-114), 3) := by decide +kernel
theorem dX12_months_174 : decode cX12_months 174 = .ok (.iload_n 3, 1) := by decide +kernel
theorem dX12_months_175 : decode cX12_months 175 = .ok (.ifCond .ne 8, 3) := by decide +kernel
theorem dX12_months_178 : decode cX12_months 178 = .ok (.iload 4, 2) := by decide +kernel
theorem dX12_months_180 : decode cX12_months 180 = .ok (.goto 5, 3) := by decide +kernel
theorem dX12_months_183 : decode cX12_months 183 = .ok (.iload 5, 2) := by decide +kernel
theorem dX12_months_185 : decode cX12_months 185 = .ok (.ireturn, 1) := by decide +kernel
set_option maxRecDepth 20000 in
theorem ggX12_count_X12_allTurned : GoodIn wsX12_count wsX12_allTurned := goodIn_r _ [10, 2, 5, 16, 17, 18, 19, 20, 21, 22, 23, 24, 25, 26, 27, 28, 29, 30, 31, 32, 33, 34, 35, 36, 37, 38, 39, 40, 41, 42, 43, 44, 45, 46] (by decide +kernel) (by decide +kernel)
set_option maxRecDepth 20000 in
theorem gX12_count_X12_allTurned : GoodIn wsX12_count (wsV RX12 282 RX12 yX12_allTurned wsX12_allTurned) := goodIn_app (goodIn_of _ (by decide +kernel)) ggX12_count_X12_allTurned
set_option maxRecDepth 20000 in
theorem ggX12_count_X12_lovedBy : GoodIn wsX12_count wsX12_lovedBy := goodIn_r _ [14, 2, 15, 16, 17, 18, 19, 20, 21, 22, 23, 24, 25, 26, 27, 28, 29, 30, 31, 32, 33, 34, 35, 36, 37, 38, 39, 40, 41, 42, 43, 44, 45, 46] (by decide +kernel) (by decide +kernel)
set_option maxRecDepth 20000 in
theorem gX12_count_X12_lovedBy : GoodIn wsX12_count (wsV RX12 216 RX12 yX12_lovedBy wsX12_lovedBy) := goodIn_app (goodIn_of _ (by decide +kernel)) ggX12_count_X12_lovedBy
theorem dX12_count_0 : decode cX12_count 0 = .ok (.aload_n 0, 1) := by decide +kernel
theorem dX12_count_1 : decode cX12_count 1 = .ok (.iconst 0, 1) := by decide +kernel
theorem dX12_count_2 : decode cX12_count 2 = .ok (.putfield 65, 3) := by decide +kernel
theorem dX12_count_5 : decode cX12_count 5 = .ok (.iconst 0, 1) := by decide +kernel
theorem dX12_count_6 : decode cX12_count 6 = .ok (.istore_n 2, 1) := by decide +kernel
theorem dX12_count_7 : decode cX12_count 7 = .ok (.iload_n 1, 1) := by decide +kernel
theorem dX12_count_8 : decode cX12_count 8 = .ok (.tableswitch 125 0 5 #[40, 45, 50, 55, 60, 86], 40) := by decide +kernel
theorem dX12_count_48 : decode cX12_count 48 = .ok (.aload_n 0, 1) := by decide +kernel
theorem dX12_count_49 : decode cX12_count 49 = .ok (.getfield 69, 3) := by decide +kernel
theorem dX12_count_52 : decode cX12_count 52 = .ok (.ireturn, 1) := by decide +kernel
theorem dX12_count_53 : decode cX12_count 53 = .ok (.aload_n 0, 1) := by decide +kernel
theorem dX12_count_54 : decode cX12_count 54 = .ok (.getfield 132, 3) := by decide +kernel
theorem dX12_count_57 : decode cX12_count 57 = .ok (.ireturn, 1) := by decide +kernel
theorem dX12_count_58 : decode cX12_count 58 = .ok (.aload_n 0, 1) := by decide +kernel
theorem dX12_count_59 : decode cX12_count 59 = .ok (.getfield 84, 3) := by decide +kernel
theorem dX12_count_62 : decode cX12_count 62 = .ok (.ireturn, 1) := by decide +kernel
theorem dX12_count_63 : decode cX12_count 63 = .ok (.aload_n 0, 1) := by decide +kernel
theorem dX12_count_64 : decode cX12_count 64 = .ok (.invokevirtual 282, 3) := by decide +kernel
theorem dX12_count_67 : decode cX12_count 67 = .ok (.ireturn, 1) := by decide +kernel
theorem dX12_count_68 : decode cX12_count 68 = .ok (.iconst 0, 1) := by decide +kernel
theorem dX12_count_69 : decode cX12_count 69 = .ok (.istore_n 3, 1) := by decide +kernel
theorem dX12_count_70 : decode cX12_count 70 = .ok (.iload_n 3, 1) := by decide +kernel
theorem dX12_count_71 : decode cX12_count 71 = .ok (.aload_n 0, 1) := by decide +kernel
theorem dX12_count_72 : decode cX12_count 72 = .ok (.getfield 69, 3) := by decide +kernel
theorem dX12_count_75 : decode cX12_count 75 = .ok (.if_icmp .ge 17, 3) := by decide +kernel
theorem dX12_count_78 : decode cX12_count 78 = .ok (.iload_n 2, 1) := by decide +kernel
theorem dX12_count_79 : decode cX12_count 79 = .ok (.aload_n 0, 1) := by decide +kernel
theorem dX12_count_80 : decode cX12_count 80 = .ok (.iload_n 3, 1) := by decide +kernel
theorem dX12_count_81 : decode cX12_count 81 = .ok (.invokevirtual 216, 3) := by decide +kernel
theorem dX12_count_84 : decode cX12_count 84 = .ok (.iadd, 1) := by decide +kernel
theorem dX12_count_85 : decode cX12_count 85 = .ok (.istore_n 2, 1) := by decide +kernel
theorem dX12_count_86 : decode cX12_count 86 = .ok (.iinc 3 1, 3) := by decide +kernel
theorem dX12_count_89 : decode cX12_count 89 = .ok (.goto (-19), 3) := by decide +kernel
theorem dX12_count_92 : decode cX12_count 92 = .ok (.iload_n 2, 1) := by decide +kernel
theorem dX12_count_93 : decode cX12_count 93 = .ok (.ireturn, 1) := by decide +kernel
theorem dX12_count_94 : decode cX12_count 94 = .ok (.iconst 0, 1) := by decide +kernel
theorem dX12_count_95 : decode cX12_count 95 = .ok (.istore_n 3, 1) := by decide +kernel
theorem dX12_count_96 : decode cX12_count 96 = .ok (.iload_n 3, 1) := by decide +kernel
theorem dX12_count_97 : decode cX12_count 97 = .ok (.aload_n 0, 1) := by decide +kernel
theorem dX12_count_98 : decode cX12_count 98 = .ok (.getfield 69, 3) := by decide +kernel
theorem dX12_count_101 : decode cX12_count 101 = .ok (.if_icmp .ge 30, 3) := by decide +kernel
theorem dX12_count_104 : decode cX12_count 104 = .ok (.iload_n 2, 1) := by decide +kernel
theorem dX12_count_105 : decode cX12_count 105 = .ok (.aload_n 0, 1) := by decide +kernel
theorem dX12_count_106 : decode cX12_count 106 = .ok (.getfield 16, 3) := by decide +kernel
theorem dX12_count_109 : decode cX12_count 109 = .ok (.iload_n 3, 1) := by decide +kernel
theorem dX12_count_110 : decode cX12_count 110 = .ok (.iaload, 1) := by decide +kernel
theorem dX12_count_111 : decode cX12_count 111 = .ok (.bipush 9, 2) := by decide +kernel
theorem dX12_count_113 : decode cX12_count 113 = .ok (.if_icmp .ne 9, 3) := by decide +kernel
theorem dX12_count_116 : decode cX12_count 116 = .ok (.iconst 1, 1) := by decide +kernel
theorem dX12_count_117 : decode cX12_count 117 = .ok (.iload_n 3, 1) := by decide +kernel
theorem dX12_count_118 : decode cX12_count 118 = .ok (.ishl, 1) := by decide +kernel
theorem dX12_count_119 : decode cX12_count 119 = .ok (.goto 4, 3) := by decide +kernel
theorem dX12_count_122 : decode cX12_count 122 = .ok (.iconst 0, 1) := by decide +kernel
theorem dX12_count_123 : decode cX12_count 123 = .ok (.ior, 1) := by decide +kernel
theorem dX12_count_124 : decode cX12_count 124 = .ok (.istore_n 2, 1) := by decide +kernel
theorem dX12_count_125 : decode cX12_count 125 = .ok (.iinc 3 1, 3) := by decide +kernel
theorem dX12_count_128 : decode cX12_count 128 = .ok (.goto (-32), 3) := by decide +kernel
theorem dX12_count_131 : decode cX12_count 131 = .ok (.iload_n 2, 1) := by decide +kernel
theorem dX12_count_132 : decode cX12_count 132 = .ok (.ireturn, 1) := by decide +kernel
theorem dX12_count_133 : decode cX12_count 133 = .ok (.iconst (-1), 1) := by decide +kernel
theorem dX12_count_134 : decode cX12_count 134 = .ok (.ireturn, 1) := by decide +kernel
set_option maxRecDepth 20000 in
theorem ggX12_keep_X12_in : GoodIn wsX12_keep wsX12_in := goodIn_r _ [10] (by decide +kernel) (by decide +kernel)
set_option maxRecDepth 20000 in
theorem gX12_keep_X12_in : GoodIn wsX12_keep (va_wsS RX12 72 yX12_in wsX12_in) := goodIn_app (goodIn_of _ (by decide +kernel)) ggX12_keep_X12_in
theorem dX12_keep_0 : decode cX12_keep 0 = .ok (.aload_n 0, 1) := by decide +kernel
theorem dX12_keep_1 : decode cX12_keep 1 = .ok (.iconst 0, 1) := by decide +kernel
theorem dX12_keep_2 : decode cX12_keep 2 = .ok (.putfield 65, 3) := by decide +kernel
theorem dX12_keep_5 : decode cX12_keep 5 = .ok (.iload_n 1, 1) := by decide +kernel
theorem dX12_keep_6 : decode cX12_keep 6 = .ok (.i2l, 1) := by decide +kernel
theorem dX12_keep_7 : decode cX12_keep 7 = .ok (.lconst 0, 1) := by decide +kernel
theorem dX12_keep_8 : decode cX12_keep 8 = .ok (.ldc2_w 187, 3) := by decide +kernel
theorem dX12_keep_11 : decode cX12_keep 11 = .ok (.invokestatic 72, 3) := by decide +kernel
theorem dX12_keep_14 : decode cX12_keep 14 = .ok (.ifCond .eq 43, 3) := by decide +kernel
theorem dX12_keep_17 : decode cX12_keep 17 = .ok (.iload_n 2, 1) := by decide +kernel
theorem dX12_keep_18 : decode cX12_keep 18 = .ok (.i2l, 1) := by decide +kernel
theorem dX12_keep_19 : decode cX12_keep 19 = .ok (.lconst 0, 1) := by decide +kernel
theorem dX12_keep_20 : decode cX12_keep 20 = .ok (.lconst 1, 1) := by decide +kernel
theorem dX12_keep_21 : decode cX12_keep 21 = .ok (.invokestatic 72, 3) := by decide +kernel
theorem dX12_keep_24 : decode cX12_keep 24 = .ok (.ifCond .eq 33, 3) := by decide +kernel
theorem dX12_keep_27 : decode cX12_keep 27 = .ok (.iload_n 2, 1) := by decide +kernel
theorem dX12_keep_28 : decode cX12_keep 28 = .ok (.iconst 1, 1) := by decide +kernel
theorem dX12_keep_29 : decode cX12_keep 29 = .ok (.if_icmp .ne 30, 3) := by decide +kernel
theorem dX12_keep_32 : decode cX12_keep 32 = .ok (.iload_n 3, 1) := by decide +kernel
theorem dX12_keep_33 : decode cX12_keep 33 = .ok (.i2l, 1) := by decide +kernel
theorem dX12_keep_34 : decode cX12_keep 34 = .ok (.lconst 0, 1) := by decide +kernel
theorem dX12_keep_35 : decode cX12_keep 35 = .ok (.ldc2_w 187, 3) := by decide +kernel
theorem dX12_keep_38 : decode cX12_keep 38 = .ok (.invokestatic 72, 3) := by decide +kernel
theorem dX12_keep_41 : decode cX12_keep 41 = .ok (.ifCond .eq 16, 3) := by decide +kernel
theorem dX12_keep_44 : decode cX12_keep 44 = .ok (.iload 4, 2) := by decide +kernel
theorem dX12_keep_46 : decode cX12_keep 46 = .ok (.i2l, 1) := by decide +kernel
theorem dX12_keep_47 : decode cX12_keep 47 = .ok (.lconst 0, 1) := by decide +kernel
theorem dX12_keep_48 : decode cX12_keep 48 = .ok (.ldc2_w 192, 3) := by decide +kernel
theorem dX12_keep_51 : decode cX12_keep 51 = .ok (.invokestatic 72, 3) := by decide +kernel
theorem dX12_keep_54 : decode cX12_keep 54 = .ok (.ifCond .ne 5, 3) := by decide +kernel
theorem dX12_keep_57 : decode cX12_keep 57 = .ok (.iconst (-1), 1) := by decide +kernel
theorem dX12_keep_58 : decode cX12_keep 58 = .ok (.ireturn, 1) := by decide +kernel
theorem dX12_keep_59 : decode cX12_keep 59 = .ok (.aload_n 0, 1) := by decide +kernel
theorem dX12_keep_60 : decode cX12_keep 60 = .ok (.getfield 22, 3) := by decide +kernel
theorem dX12_keep_63 : decode cX12_keep 63 = .ok (.iload_n 1, 1) := by decide +kernel
theorem dX12_keep_64 : decode cX12_keep 64 = .ok (.iload_n 2, 1) := by decide +kernel
theorem dX12_keep_65 : decode cX12_keep 65 = .ok (.iastore, 1) := by decide +kernel
theorem dX12_keep_66 : decode cX12_keep 66 = .ok (.aload_n 0, 1) := by decide +kernel
theorem dX12_keep_67 : decode cX12_keep 67 = .ok (.getfield 25, 3) := by decide +kernel
theorem dX12_keep_70 : decode cX12_keep 70 = .ok (.iload_n 1, 1) := by decide +kernel
theorem dX12_keep_71 : decode cX12_keep 71 = .ok (.iload_n 2, 1) := by decide +kernel
theorem dX12_keep_72 : decode cX12_keep 72 = .ok (.iconst 1, 1) := by decide +kernel
theorem dX12_keep_73 : decode cX12_keep 73 = .ok (.if_icmp .ne 7, 3) := by decide +kernel
theorem dX12_keep_76 : decode cX12_keep 76 = .ok (.iload_n 3, 1) := by decide +kernel
theorem dX12_keep_77 : decode cX12_keep 77 = .ok (.goto 4, 3) := by decide +kernel
theorem dX12_keep_80 : decode cX12_keep 80 = .ok (.iconst 0, 1) := by decide +kernel
theorem dX12_keep_81 : decode cX12_keep 81 = .ok (.iastore, 1) := by decide +kernel
theorem dX12_keep_82 : decode cX12_keep 82 = .ok (.aload_n 0, 1) := by decide +kernel
theorem dX12_keep_83 : decode cX12_keep 83 = .ok (.getfield 28, 3) := by decide +kernel
theorem dX12_keep_86 : decode cX12_keep 86 = .ok (.iload_n 1, 1) := by decide +kernel
theorem dX12_keep_87 : decode cX12_keep 87 = .ok (.iload_n 2, 1) := by decide +kernel
theorem dX12_keep_88 : decode cX12_keep 88 = .ok (.iconst 1, 1) := by decide +kernel
theorem dX12_keep_89 : decode cX12_keep 89 = .ok (.if_icmp .ne 8, 3) := by decide +kernel
theorem dX12_keep_92 : decode cX12_keep 92 = .ok (.iload 4, 2) := by decide +kernel
theorem dX12_keep_94 : decode cX12_keep 94 = .ok (.goto 4, 3) := by decide +kernel
theorem dX12_keep_97 : decode cX12_keep 97 = .ok (.iconst 0, 1) := by decide +kernel
theorem dX12_keep_98 : decode cX12_keep 98 = .ok (.iastore, 1) := by decide +kernel
theorem dX12_keep_99 : decode cX12_keep 99 = .ok (.iconst 0, 1) := by decide +kernel
theorem dX12_keep_100 : decode cX12_keep 100 = .ok (.ireturn, 1) := by decide +kernel
set_option maxRecDepth 20000 in
theorem ggX12_wrongRow_X12_in : GoodIn wsX12_wrongRow wsX12_in := goodIn_r _ [6] (by decide +kernel) (by decide +kernel)
set_option maxRecDepth 20000 in
theorem gX12_wrongRow_X12_in : GoodIn wsX12_wrongRow (va_wsS RX12 72 yX12_in wsX12_in) := goodIn_app (goodIn_of _ (by decide +kernel)) ggX12_wrongRow_X12_in
theorem dX12_wrongRow_0 : decode cX12_wrongRow 0 = .ok (.iload_n 1, 1) := by decide +kernel
theorem dX12_wrongRow_1 : decode cX12_wrongRow 1 = .ok (.i2l, 1) := by decide +kernel
theorem dX12_wrongRow_2 : decode cX12_wrongRow 2 = .ok (.lconst 0, 1) := by decide +kernel
theorem dX12_wrongRow_3 : decode cX12_wrongRow 3 = .ok (.ldc2_w 187, 3) := by decide +kernel
theorem dX12_wrongRow_6 : decode cX12_wrongRow 6 = .ok (.invokestatic 72, 3) := by decide +kernel
theorem dX12_wrongRow_9 : decode cX12_wrongRow 9 = .ok (.ifCond .ne 7, 3) := by decide +kernel
theorem dX12_wrongRow_12 : decode cX12_wrongRow 12 = .ok (.iconst (-1), 1) := by decide +kernel
theorem dX12_wrongRow_13 : decode cX12_wrongRow 13 = .ok (.goto 33, 3) := by decide +kernel
theorem dX12_wrongRow_16 : decode cX12_wrongRow 16 = .ok (.aload_n 0, 1) := by decide +kernel
theorem dX12_wrongRow_17 : decode cX12_wrongRow 17 = .ok (.getfield 22, 3) := by decide +kernel
theorem dX12_wrongRow_20 : decode cX12_wrongRow 20 = .ok (.iload_n 1, 1) := by decide +kernel
theorem dX12_wrongRow_21 : decode cX12_wrongRow 21 = .ok (.iaload, 1) := by decide +kernel
theorem dX12_wrongRow_22 : decode cX12_wrongRow 22 = .ok (.ifCond .ne 8, 3) := by decide +kernel
theorem dX12_wrongRow_25 : decode cX12_wrongRow 25 = .ok (.bipush (-11), 2) := by decide +kernel
theorem dX12_wrongRow_27 : decode cX12_wrongRow 27 = .ok (.goto 19, 3) := by decide +kernel
theorem dX12_wrongRow_30 : decode cX12_wrongRow 30 = .ok (.aload_n 0, 1) := by decide +kernel
theorem dX12_wrongRow_31 : decode cX12_wrongRow 31 = .ok (.getfield 22, 3) := by decide +kernel
theorem dX12_wrongRow_34 : decode cX12_wrongRow 34 = .ok (.iload_n 1, 1) := by decide +kernel
theorem dX12_wrongRow_35 : decode cX12_wrongRow 35 = .ok (.iaload, 1) := by decide +kernel
theorem dX12_wrongRow_36 : decode cX12_wrongRow 36 = .ok (.iconst 2, 1) := by decide +kernel
theorem dX12_wrongRow_37 : decode cX12_wrongRow 37 = .ok (.if_icmp .eq 8, 3) := by decide +kernel
theorem dX12_wrongRow_40 : decode cX12_wrongRow 40 = .ok (.bipush (-12), 2) := by decide +kernel
theorem dX12_wrongRow_42 : decode cX12_wrongRow 42 = .ok (.goto 4, 3) := by decide +kernel
theorem dX12_wrongRow_45 : decode cX12_wrongRow 45 = .ok (.iconst 0, 1) := by decide +kernel
theorem dX12_wrongRow_46 : decode cX12_wrongRow 46 = .ok (.ireturn, 1) := by decide +kernel
theorem dX12_narrowed_0 : decode cX12_narrowed 0 = .ok (.iload_n 1, 1) := by decide +kernel
theorem dX12_narrowed_1 : decode cX12_narrowed 1 = .ok (.ifCond .ne 9, 3) := by decide +kernel
theorem dX12_narrowed_4 : decode cX12_narrowed 4 = .ok (.iload_n 0, 1) := by decide +kernel
theorem dX12_narrowed_5 : decode cX12_narrowed 5 = .ok (.i2b, 1) := by decide +kernel
theorem dX12_narrowed_6 : decode cX12_narrowed 6 = .ok (.i2l, 1) := by decide +kernel
theorem dX12_narrowed_7 : decode cX12_narrowed 7 = .ok (.goto 16, 3) := by decide +kernel
theorem dX12_narrowed_10 : decode cX12_narrowed 10 = .ok (.iload_n 1, 1) := by decide +kernel
theorem dX12_narrowed_11 : decode cX12_narrowed 11 = .ok (.iconst 1, 1) := by decide +kernel
theorem dX12_narrowed_12 : decode cX12_narrowed 12 = .ok (.if_icmp .ne 9, 3) := by decide +kernel
theorem dX12_narrowed_15 : decode cX12_narrowed 15 = .ok (.iload_n 0, 1) := by decide +kernel
theorem dX12_narrowed_16 : decode cX12_narrowed 16 = .ok (.i2s, 1) := by decide +kernel
theorem dX12_narrowed_17 : decode cX12_narrowed 17 = .ok (.i2l, 1) := by decide +kernel
theorem dX12_narrowed_18 : decode cX12_narrowed 18 = .ok (.goto 5, 3) := by decide +kernel
theorem dX12_narrowed_21 : decode cX12_narrowed 21 = .ok (.iload_n 0, 1) := by decide +kernel
theorem dX12_narrowed_22 : decode cX12_narrowed 22 = .ok (.i2l, 1) := by decide +kernel
theorem dX12_narrowed_23 : decode cX12_narrowed 23 = .ok (.lreturn, 1) := by decide +kernel
set_option maxRecDepth 20000 in
theorem ggX12_row_X12_in : GoodIn wsX12_row wsX12_in := goodIn_r _ [11] (by decide +kernel) (by decide +kernel)
set_option maxRecDepth 20000 in
theorem gX12_row_X12_in : GoodIn wsX12_row (va_wsS RX12 72 yX12_in wsX12_in) := goodIn_app (goodIn_of _ (by decide +kernel)) ggX12_row_X12_in
theorem dX12_row_0 : decode cX12_row 0 = .ok (.aload_n 0, 1) := by decide +kernel
theorem dX12_row_1 : decode cX12_row 1 = .ok (.iconst 0, 1) := by decide +kernel
theorem dX12_row_2 : decode cX12_row 2 = .ok (.putfield 65, 3) := by decide +kernel
theorem dX12_row_5 : decode cX12_row 5 = .ok (.iload_n 1, 1) := by decide +kernel
theorem dX12_row_6 : decode cX12_row 6 = .ok (.i2l, 1) := by decide +kernel
theorem dX12_row_7 : decode cX12_row 7 = .ok (.lconst 0, 1) := by decide +kernel
theorem dX12_row_8 : decode cX12_row 8 = .ok (.ldc2_w 187, 3) := by decide +kernel
theorem dX12_row_11 : decode cX12_row 11 = .ok (.invokestatic 72, 3) := by decide +kernel
theorem dX12_row_14 : decode cX12_row 14 = .ok (.ifCond .eq 21, 3) := by decide +kernel
theorem dX12_row_17 : decode cX12_row 17 = .ok (.iload_n 2, 1) := by decide +kernel
theorem dX12_row_18 : decode cX12_row 18 = .ok (.i2l, 1) := by decide +kernel
theorem dX12_row_19 : decode cX12_row 19 = .ok (.lconst 0, 1) := by decide +kernel
theorem dX12_row_20 : decode cX12_row 20 = .ok (.ldc2_w 233, 3) := by decide +kernel
theorem dX12_row_23 : decode cX12_row 23 = .ok (.invokestatic 72, 3) := by decide +kernel
theorem dX12_row_26 : decode cX12_row 26 = .ok (.ifCond .eq 9, 3) := by decide +kernel
theorem dX12_row_29 : decode cX12_row 29 = .ok (.iload_n 3, 1) := by decide +kernel
theorem dX12_row_30 : decode cX12_row 30 = .ok (.bipush 100, 2) := by decide +kernel
theorem dX12_row_32 : decode cX12_row 32 = .ok (.if_icmp .le 5, 3) := by decide +kernel
theorem dX12_row_35 : decode cX12_row 35 = .ok (.iconst (-1), 1) := by decide +kernel
theorem dX12_row_36 : decode cX12_row 36 = .ok (.ireturn, 1) := by decide +kernel
theorem dX12_row_37 : decode cX12_row 37 = .ok (.iload_n 3, 1) := by decide +kernel
theorem dX12_row_38 : decode cX12_row 38 = .ok (.ifCond .ge 6, 3) := by decide +kernel
theorem dX12_row_41 : decode cX12_row 41 = .ok (.bipush (-14), 2) := by decide +kernel
theorem dX12_row_43 : decode cX12_row 43 = .ok (.ireturn, 1) := by decide +kernel
theorem dX12_row_44 : decode cX12_row 44 = .ok (.aload_n 0, 1) := by decide +kernel
theorem dX12_row_45 : decode cX12_row 45 = .ok (.getfield 22, 3) := by decide +kernel
theorem dX12_row_48 : decode cX12_row 48 = .ok (.iload_n 1, 1) := by decide +kernel
theorem dX12_row_49 : decode cX12_row 49 = .ok (.iconst 2, 1) := by decide +kernel
theorem dX12_row_50 : decode cX12_row 50 = .ok (.iastore, 1) := by decide +kernel
theorem dX12_row_51 : decode cX12_row 51 = .ok (.aload_n 0, 1) := by decide +kernel
theorem dX12_row_52 : decode cX12_row 52 = .ok (.getfield 31, 3) := by decide +kernel
theorem dX12_row_55 : decode cX12_row 55 = .ok (.iload_n 1, 1) := by decide +kernel
theorem dX12_row_56 : decode cX12_row 56 = .ok (.iload_n 2, 1) := by decide +kernel
theorem dX12_row_57 : decode cX12_row 57 = .ok (.iastore, 1) := by decide +kernel
theorem dX12_row_58 : decode cX12_row 58 = .ok (.aload_n 0, 1) := by decide +kernel
theorem dX12_row_59 : decode cX12_row 59 = .ok (.getfield 34, 3) := by decide +kernel
theorem dX12_row_62 : decode cX12_row 62 = .ok (.iload_n 1, 1) := by decide +kernel
theorem dX12_row_63 : decode cX12_row 63 = .ok (.iload_n 3, 1) := by decide +kernel
theorem dX12_row_64 : decode cX12_row 64 = .ok (.iastore, 1) := by decide +kernel
theorem dX12_row_65 : decode cX12_row 65 = .ok (.iconst 0, 1) := by decide +kernel
theorem dX12_row_66 : decode cX12_row 66 = .ok (.istore 4, 2) := by decide +kernel
theorem dX12_row_68 : decode cX12_row 68 = .ok (.iload 4, 2) := by decide +kernel
theorem dX12_row_70 : decode cX12_row 70 = .ok (.bipush 100, 2) := by decide +kernel
theorem dX12_row_72 : decode cX12_row 72 = .ok (.if_icmp .ge 22, 3) := by decide +kernel
theorem dX12_row_75 : decode cX12_row 75 = .ok (.aload_n 0, 1) := by decide +kernel
theorem dX12_row_76 : decode cX12_row 76 = .ok (.getfield 37, 3) := by decide +kernel
theorem dX12_row_79 : decode cX12_row 79 = .ok (.bipush 100, 2) := by decide +kernel
theorem dX12_row_81 : decode cX12_row 81 = .ok (.iload_n 1, 1) := by decide +kernel
theorem dX12_row_82 : decode cX12_row 82 = .ok (.imul, 1) := by decide +kernel
theorem dX12_row_83 : decode cX12_row 83 = .ok (.iload 4, 2) := by decide +kernel
theorem dX12_row_85 : decode cX12_row 85 = .ok (.iadd, 1) := by decide +kernel
theorem dX12_row_86 : decode cX12_row 86 = .ok (.lconst 0, 1) := by decide +kernel
theorem dX12_row_87 : decode cX12_row 87 = .ok (.lastore, 1) := by decide +kernel
theorem dX12_row_88 : decode cX12_row 88 = .ok (.iinc 4 1, 3) := by decide +kernel
theorem dX12_row_91 : decode cX12_row 91 = .ok (.goto (-23), 3) := by decide +kernel
theorem dX12_row_94 : decode cX12_row 94 = .ok (.iconst 0, 1) := by decide +kernel
theorem dX12_row_95 : decode cX12_row 95 = .ok (.ireturn, 1) := by decide +kernel
set_option maxRecDepth 20000 in
theorem ggX12_put_X12_wrongRow : GoodIn wsX12_put wsX12_wrongRow := goodIn_r _ [9, 10, 11, 12, 13, 8, 14, 18, 19, 20, 21, 22, 23, 24, 25, 26, 27, 28, 29, 30, 31, 32, 33, 34, 35, 36, 37, 38, 39, 40, 41, 42, 43, 44, 45, 46, 47, 48] (by decide +kernel) (by decide +kernel)
set_option maxRecDepth 20000 in
theorem gX12_put_X12_wrongRow : GoodIn wsX12_put (wsV RX12 153 RX12 yX12_wrongRow wsX12_wrongRow) := goodIn_app (goodIn_of _ (by decide +kernel)) ggX12_put_X12_wrongRow
set_option maxRecDepth 20000 in
theorem ggX12_put_X12_in : GoodIn wsX12_put wsX12_in := goodIn_r _ [14] (by decide +kernel) (by decide +kernel)
set_option maxRecDepth 20000 in
theorem gX12_put_X12_in : GoodIn wsX12_put (va_wsS RX12 72 yX12_in wsX12_in) := goodIn_app (goodIn_of _ (by decide +kernel)) ggX12_put_X12_in
set_option maxRecDepth 20000 in
theorem ggX12_put_X12_narrowed : GoodIn wsX12_put wsX12_narrowed := goodIn_r _ [17] (by decide +kernel) (by decide +kernel)
set_option maxRecDepth 20000 in
theorem gX12_put_X12_narrowed : GoodIn wsX12_put (va_wsS RX12 285 yX12_narrowed wsX12_narrowed) := goodIn_app (goodIn_of _ (by decide +kernel)) ggX12_put_X12_narrowed
theorem dX12_put_0 : decode cX12_put 0 = .ok (.aload_n 0, 1) := by decide +kernel
theorem dX12_put_1 : decode cX12_put 1 = .ok (.iconst 0, 1) := by decide +kernel
theorem dX12_put_2 : decode cX12_put 2 = .ok (.putfield 65, 3) := by decide +kernel
theorem dX12_put_5 : decode cX12_put 5 = .ok (.aload_n 0, 1) := by decide +kernel
theorem dX12_put_6 : decode cX12_put 6 = .ok (.iload_n 1, 1) := by decide +kernel
theorem dX12_put_7 : decode cX12_put 7 = .ok (.invokevirtual 153, 3) := by decide +kernel
theorem dX12_put_10 : decode cX12_put 10 = .ok (.istore 4, 2) := by decide +kernel
theorem dX12_put_12 : decode cX12_put 12 = .ok (.iload 4, 2) := by decide +kernel
theorem dX12_put_14 : decode cX12_put 14 = .ok (.ifCond .ge 6, 3) := by decide +kernel
theorem dX12_put_17 : decode cX12_put 17 = .ok (.iload 4, 2) := by decide +kernel
theorem dX12_put_19 : decode cX12_put 19 = .ok (.ireturn, 1) := by decide +kernel
theorem dX12_put_20 : decode cX12_put 20 = .ok (.iload_n 2, 1) := by decide +kernel
theorem dX12_put_21 : decode cX12_put 21 = .ok (.i2l, 1) := by decide +kernel
theorem dX12_put_22 : decode cX12_put 22 = .ok (.lconst 0, 1) := by decide +kernel
theorem dX12_put_23 : decode cX12_put 23 = .ok (.aload_n 0, 1) := by decide +kernel
theorem dX12_put_24 : decode cX12_put 24 = .ok (.getfield 34, 3) := by decide +kernel
theorem dX12_put_27 : decode cX12_put 27 = .ok (.iload_n 1, 1) := by decide +kernel
theorem dX12_put_28 : decode cX12_put 28 = .ok (.iaload, 1) := by decide +kernel
theorem dX12_put_29 : decode cX12_put 29 = .ok (.iconst 1, 1) := by decide +kernel
theorem dX12_put_30 : decode cX12_put 30 = .ok (.isub, 1) := by decide +kernel
theorem dX12_put_31 : decode cX12_put 31 = .ok (.i2l, 1) := by decide +kernel
theorem dX12_put_32 : decode cX12_put 32 = .ok (.invokestatic 72, 3) := by decide +kernel
theorem dX12_put_35 : decode cX12_put 35 = .ok (.ifCond .ne 6, 3) := by decide +kernel
theorem dX12_put_38 : decode cX12_put 38 = .ok (.bipush (-13), 2) := by decide +kernel
theorem dX12_put_40 : decode cX12_put 40 = .ok (.ireturn, 1) := by decide +kernel
theorem dX12_put_41 : decode cX12_put 41 = .ok (.aload_n 0, 1) := by decide +kernel
theorem dX12_put_42 : decode cX12_put 42 = .ok (.getfield 37, 3) := by decide +kernel
theorem dX12_put_45 : decode cX12_put 45 = .ok (.bipush 100, 2) := by decide +kernel
theorem dX12_put_47 : decode cX12_put 47 = .ok (.iload_n 1, 1) := by decide +kernel
theorem dX12_put_48 : decode cX12_put 48 = .ok (.imul, 1) := by decide +kernel
theorem dX12_put_49 : decode cX12_put 49 = .ok (.iload_n 2, 1) := by decide +kernel
theorem dX12_put_50 : decode cX12_put 50 = .ok (.iadd, 1) := by decide +kernel
theorem dX12_put_51 : decode cX12_put 51 = .ok (.iload_n 3, 1) := by decide +kernel
theorem dX12_put_52 : decode cX12_put 52 = .ok (.aload_n 0, 1) := by decide +kernel
theorem dX12_put_53 : decode cX12_put 53 = .ok (.getfield 31, 3) := by decide +kernel
theorem dX12_put_56 : decode cX12_put 56 = .ok (.iload_n 1, 1) := by decide +kernel
theorem dX12_put_57 : decode cX12_put 57 = .ok (.iaload, 1) := by decide +kernel
theorem dX12_put_58 : decode cX12_put 58 = .ok (.invokestatic 285, 3) := by decide +kernel
theorem dX12_put_61 : decode cX12_put 61 = .ok (.lastore, 1) := by decide +kernel
theorem dX12_put_62 : decode cX12_put 62 = .ok (.iconst 0, 1) := by decide +kernel
theorem dX12_put_63 : decode cX12_put 63 = .ok (.ireturn, 1) := by decide +kernel
set_option maxRecDepth 20000 in
theorem ggX12_element_X12_wrongRow : GoodIn wsX12_element wsX12_wrongRow := goodIn_r _ [8, 9, 10, 11, 12, 7, 13, 14, 15, 16, 17, 18, 19, 20, 21, 22, 23, 24, 25, 26, 27, 28, 29, 30, 31, 32, 33, 34, 35, 36, 37, 38, 39, 40, 41, 42, 43, 44] (by decide +kernel) (by decide +kernel)
set_option maxRecDepth 20000 in
theorem gX12_element_X12_wrongRow : GoodIn wsX12_element (wsV RX12 153 RX12 yX12_wrongRow wsX12_wrongRow) := goodIn_app (goodIn_of _ (by decide +kernel)) ggX12_element_X12_wrongRow
set_option maxRecDepth 20000 in
theorem ggX12_element_X12_in : GoodIn wsX12_element wsX12_in := goodIn_r _ [13] (by decide +kernel) (by decide +kernel)
set_option maxRecDepth 20000 in
theorem gX12_element_X12_in : GoodIn wsX12_element (va_wsS RX12 72 yX12_in wsX12_in) := goodIn_app (goodIn_of _ (by decide +kernel)) ggX12_element_X12_in
theorem dX12_element_0 : decode cX12_element 0 = .ok (.aload_n 0, 1) := by decide +kernel
theorem dX12_element_1 : decode cX12_element 1 = .ok (.iload_n 1, 1) := by decide +kernel
theorem dX12_element_2 : decode cX12_element 2 = .ok (.invokevirtual 153, 3) := by decide +kernel
theorem dX12_element_5 : decode cX12_element 5 = .ok (.istore_n 3, 1) := by decide +kernel
theorem dX12_element_6 : decode cX12_element 6 = .ok (.aload_n 0, 1) := by decide +kernel
theorem dX12_element_7 : decode cX12_element 7 = .ok (.iload_n 3, 1) := by decide +kernel
theorem dX12_element_8 : decode cX12_element 8 = .ok (.iconst (-1), 1) := by decide +kernel
theorem dX12_element_9 : decode cX12_element 9 = .ok (.if_icmp .ne 7, 3) := by decide +kernel
theorem dX12_element_12 : decode cX12_element 12 = .ok (.iconst 1, 1) := by decide +kernel
theorem dX12_element_13 : decode cX12_element 13 = .ok (.goto 30, 3) := by decide +kernel
theorem dX12_element_16 : decode cX12_element 16 = .ok (.iload_n 3, 1) := by decide +kernel
theorem dX12_element_17 : decode cX12_element 17 = .ok (.ifCond .lt 21, 3) := by decide +kernel
theorem dX12_element_20 : decode cX12_element 20 = .ok (.iload_n 2, 1) := by decide +kernel
theorem dX12_element_21 : decode cX12_element 21 = .ok (.i2l, 1) := by decide +kernel
theorem dX12_element_22 : decode cX12_element 22 = .ok (.lconst 0, 1) := by decide +kernel
theorem dX12_element_23 : decode cX12_element 23 = .ok (.aload_n 0, 1) := by decide +kernel
theorem dX12_element_24 : decode cX12_element 24 = .ok (.getfield 34, 3) := by decide +kernel
theorem dX12_element_27 : decode cX12_element 27 = .ok (.iload_n 1, 1) := by decide +kernel
theorem dX12_element_28 : decode cX12_element 28 = .ok (.iaload, 1) := by decide +kernel
theorem dX12_element_29 : decode cX12_element 29 = .ok (.iconst 1, 1) := by decide +kernel
theorem dX12_element_30 : decode cX12_element 30 = .ok (.isub, 1) := by decide +kernel
theorem dX12_element_31 : decode cX12_element 31 = .ok (.i2l, 1) := by decide +kernel
theorem dX12_element_32 : decode cX12_element 32 = .ok (.invokestatic 72, 3) := by decide +kernel
theorem dX12_element_35 : decode cX12_element 35 = .ok (.ifCond .ne 7, 3) := by decide +kernel
theorem dX12_element_38 : decode cX12_element 38 = .ok (.iconst 2, 1) := by decide +kernel
theorem dX12_element_39 : decode cX12_element 39 = .ok (.goto 4, 3) := by decide +kernel
theorem dX12_element_42 : decode cX12_element 42 = .ok (.iconst 0, 1) := by decide +kernel
theorem dX12_element_43 : decode cX12_element 43 = .ok (.putfield 65, 3) := by decide +kernel
theorem dX12_element_46 : decode cX12_element 46 = .ok (.aload_n 0, 1) := by decide +kernel
theorem dX12_element_47 : decode cX12_element 47 = .ok (.getfield 65, 3) := by decide +kernel
theorem dX12_element_50 : decode cX12_element 50 = .ok (.ifCond .le 7, 3) := by decide +kernel
theorem dX12_element_53 : decode cX12_element 53 = .ok (.lconst 0, 1) := by decide +kernel
theorem dX12_element_54 : decode cX12_element 54 = .ok (.goto 14, 3) := by decide +kernel
theorem dX12_element_57 : decode cX12_element 57 = .ok (.aload_n 0, 1) := by decide +kernel
theorem dX12_element_58 : decode cX12_element 58 = .ok (.getfield 37, 3) := by decide +kernel
theorem dX12_element_61 : decode cX12_element 61 = .ok (.bipush 100, 2) := by decide +kernel
theorem dX12_element_63 : decode cX12_element 63 = .ok (.iload_n 1, 1) := by decide +kernel
theorem dX12_element_64 : decode cX12_element 64 = .ok (.imul, 1) := by decide +kernel
theorem dX12_element_65 : decode cX12_element 65 = .ok (.iload_n 2, 1) := by decide +kernel
theorem dX12_element_66 : decode cX12_element 66 = .ok (.iadd, 1) := by decide +kernel
theorem dX12_element_67 : decode cX12_element 67 = .ok (.laload, 1) := by decide +kernel
theorem dX12_element_68 : decode cX12_element 68 = .ok (.lreturn, 1) := by decide +kernel
set_option maxRecDepth 20000 in
theorem ggX12_copy_X12_in : GoodIn wsX12_copy wsX12_in := goodIn_r _ [11] (by decide +kernel) (by decide +kernel)
set_option maxRecDepth 20000 in
theorem gX12_copy_X12_in : GoodIn wsX12_copy (va_wsS RX12 72 yX12_in wsX12_in) := goodIn_app (goodIn_of _ (by decide +kernel)) ggX12_copy_X12_in
theorem dX12_copy_0 : decode cX12_copy 0 = .ok (.aload_n 0, 1) := by decide +kernel
theorem dX12_copy_1 : decode cX12_copy 1 = .ok (.iconst 0, 1) := by decide +kernel
theorem dX12_copy_2 : decode cX12_copy 2 = .ok (.putfield 65, 3) := by decide +kernel
theorem dX12_copy_5 : decode cX12_copy 5 = .ok (.iload_n 1, 1) := by decide +kernel
theorem dX12_copy_6 : decode cX12_copy 6 = .ok (.i2l, 1) := by decide +kernel
theorem dX12_copy_7 : decode cX12_copy 7 = .ok (.lconst 0, 1) := by decide +kernel
theorem dX12_copy_8 : decode cX12_copy 8 = .ok (.ldc2_w 187, 3) := by decide +kernel
theorem dX12_copy_11 : decode cX12_copy 11 = .ok (.invokestatic 72, 3) := by decide +kernel
theorem dX12_copy_14 : decode cX12_copy 14 = .ok (.ifCond .eq 15, 3) := by decide +kernel
theorem dX12_copy_17 : decode cX12_copy 17 = .ok (.iload_n 3, 1) := by decide +kernel
theorem dX12_copy_18 : decode cX12_copy 18 = .ok (.i2l, 1) := by decide +kernel
theorem dX12_copy_19 : decode cX12_copy 19 = .ok (.lconst 0, 1) := by decide +kernel
theorem dX12_copy_20 : decode cX12_copy 20 = .ok (.ldc2_w 187, 3) := by decide +kernel
theorem dX12_copy_23 : decode cX12_copy 23 = .ok (.invokestatic 72, 3) := by decide +kernel
theorem dX12_copy_26 : decode cX12_copy 26 = .ok (.ifCond .ne 5, 3) := by decide +kernel
theorem dX12_copy_29 : decode cX12_copy 29 = .ok (.iconst (-1), 1) := by decide +kernel
theorem dX12_copy_30 : decode cX12_copy 30 = .ok (.ireturn, 1) := by decide +kernel
theorem dX12_copy_31 : decode cX12_copy 31 = .ok (.aload_n 0, 1) := by decide +kernel
theorem dX12_copy_32 : decode cX12_copy 32 = .ok (.getfield 22, 3) := by decide +kernel
theorem dX12_copy_35 : decode cX12_copy 35 = .ok (.iload_n 1, 1) := by decide +kernel
theorem dX12_copy_36 : decode cX12_copy 36 = .ok (.iaload, 1) := by decide +kernel
theorem dX12_copy_37 : decode cX12_copy 37 = .ok (.ifCond .eq 12, 3) := by decide +kernel
theorem dX12_copy_40 : decode cX12_copy 40 = .ok (.aload_n 0, 1) := by decide +kernel
theorem dX12_copy_41 : decode cX12_copy 41 = .ok (.getfield 22, 3) := by decide +kernel
theorem dX12_copy_44 : decode cX12_copy 44 = .ok (.iload_n 3, 1) := by decide +kernel
theorem dX12_copy_45 : decode cX12_copy 45 = .ok (.iaload, 1) := by decide +kernel
theorem dX12_copy_46 : decode cX12_copy 46 = .ok (.ifCond .ne 6, 3) := by decide +kernel
theorem dX12_copy_49 : decode cX12_copy 49 = .ok (.bipush (-11), 2) := by decide +kernel
theorem dX12_copy_51 : decode cX12_copy 51 = .ok (.ireturn, 1) := by decide +kernel
theorem dX12_copy_52 : decode cX12_copy 52 = .ok (.aload_n 0, 1) := by decide +kernel
theorem dX12_copy_53 : decode cX12_copy 53 = .ok (.getfield 22, 3) := by decide +kernel
theorem dX12_copy_56 : decode cX12_copy 56 = .ok (.iload_n 1, 1) := by decide +kernel
theorem dX12_copy_57 : decode cX12_copy 57 = .ok (.iaload, 1) := by decide +kernel
theorem dX12_copy_58 : decode cX12_copy 58 = .ok (.iconst 2, 1) := by decide +kernel
theorem dX12_copy_59 : decode cX12_copy 59 = .ok (.if_icmp .ne 28, 3) := by decide +kernel
theorem dX12_copy_62 : decode cX12_copy 62 = .ok (.aload_n 0, 1) := by decide +kernel
theorem dX12_copy_63 : decode cX12_copy 63 = .ok (.getfield 22, 3) := by decide +kernel
theorem dX12_copy_66 : decode cX12_copy 66 = .ok (.iload_n 3, 1) := by decide +kernel
theorem dX12_copy_67 : decode cX12_copy 67 = .ok (.iaload, 1) := by decide +kernel
theorem dX12_copy_68 : decode cX12_copy 68 = .ok (.iconst 2, 1) := by decide +kernel
theorem dX12_copy_69 : decode cX12_copy 69 = .ok (.if_icmp .ne 18, 3) := by decide +kernel
theorem dX12_copy_72 : decode cX12_copy 72 = .ok (.aload_n 0, 1) := by decide +kernel
theorem dX12_copy_73 : decode cX12_copy 73 = .ok (.getfield 31, 3) := by decide +kernel
theorem dX12_copy_76 : decode cX12_copy 76 = .ok (.iload_n 1, 1) := by decide +kernel
theorem dX12_copy_77 : decode cX12_copy 77 = .ok (.iaload, 1) := by decide +kernel
theorem dX12_copy_78 : decode cX12_copy 78 = .ok (.aload_n 0, 1) := by decide +kernel
theorem dX12_copy_79 : decode cX12_copy 79 = .ok (.getfield 31, 3) := by decide +kernel
theorem dX12_copy_82 : decode cX12_copy 82 = .ok (.iload_n 3, 1) := by decide +kernel
theorem dX12_copy_83 : decode cX12_copy 83 = .ok (.iaload, 1) := by decide +kernel
theorem dX12_copy_84 : decode cX12_copy 84 = .ok (.if_icmp .eq 6, 3) := by decide +kernel
theorem dX12_copy_87 : decode cX12_copy 87 = .ok (.bipush (-12), 2) := by decide +kernel
theorem dX12_copy_89 : decode cX12_copy 89 = .ok (.ireturn, 1) := by decide +kernel
theorem dX12_copy_90 : decode cX12_copy 90 = .ok (.iload 5, 2) := by decide +kernel
theorem dX12_copy_92 : decode cX12_copy 92 = .ok (.ifCond .lt 39, 3) := by decide +kernel
theorem dX12_copy_95 : decode cX12_copy 95 = .ok (.iload_n 2, 1) := by decide +kernel
theorem dX12_copy_96 : decode cX12_copy 96 = .ok (.ifCond .lt 35, 3) := by decide +kernel
theorem dX12_copy_99 : decode cX12_copy 99 = .ok (.iload 4, 2) := by decide +kernel
theorem dX12_copy_101 : decode cX12_copy 101 = .ok (.ifCond .lt 30, 3) := by decide +kernel
theorem dX12_copy_104 : decode cX12_copy 104 = .ok (.iload_n 2, 1) := by decide +kernel
theorem dX12_copy_105 : decode cX12_copy 105 = .ok (.aload_n 0, 1) := by decide +kernel
theorem dX12_copy_106 : decode cX12_copy 106 = .ok (.getfield 34, 3) := by decide +kernel
theorem dX12_copy_109 : decode cX12_copy 109 = .ok (.iload_n 1, 1) := by decide +kernel
theorem dX12_copy_110 : decode cX12_copy 110 = .ok (.iaload, 1) := by decide +kernel
theorem dX12_copy_111 : decode cX12_copy 111 = .ok (.iload 5, 2) := by decide +kernel
theorem dX12_copy_113 : decode cX12_copy 113 = .ok (.isub, 1) := by decide +kernel
theorem dX12_copy_114 : decode cX12_copy 114 = .ok (.if_icmp .gt 17, 3) := by decide +kernel
theorem dX12_copy_117 : decode cX12_copy 117 = .ok (.iload 4, 2) := by decide +kernel
theorem dX12_copy_119 : decode cX12_copy 119 = .ok (.aload_n 0, 1) := by decide +kernel
theorem dX12_copy_120 : decode cX12_copy 120 = .ok (.getfield 34, 3) := by decide +kernel
theorem dX12_copy_123 : decode cX12_copy 123 = .ok (.iload_n 3, 1) := by decide +kernel
theorem dX12_copy_124 : decode cX12_copy 124 = .ok (.iaload, 1) := by decide +kernel
theorem dX12_copy_125 : decode cX12_copy 125 = .ok (.iload 5, 2) := by decide +kernel
theorem dX12_copy_127 : decode cX12_copy 127 = .ok (.isub, 1) := by decide +kernel
theorem dX12_copy_128 : decode cX12_copy 128 = .ok (.if_icmp .le 6, 3) := by decide +kernel
theorem dX12_copy_131 : decode cX12_copy 131 = .ok (.bipush (-13), 2) := by decide +kernel
theorem dX12_copy_133 : decode cX12_copy 133 = .ok (.ireturn, 1) := by decide +kernel
theorem dX12_copy_134 : decode cX12_copy 134 = .ok (.iconst 0, 1) := by decide +kernel
theorem dX12_copy_135 : decode cX12_copy 135 = .ok (.istore 6, 2) := by decide +kernel
theorem dX12_copy_137 : decode cX12_copy 137 = .ok (.iload 6, 2) := by decide +kernel
theorem dX12_copy_139 : decode cX12_copy 139 = .ok (.iload 5, 2) := by decide +kernel
theorem dX12_copy_141 : decode cX12_copy 141 = .ok (.if_icmp .ge 30, 3) := by decide +kernel
theorem dX12_copy_144 : decode cX12_copy 144 = .ok (.aload_n 0, 1) := by decide +kernel
theorem dX12_copy_145 : decode cX12_copy 145 = .ok (.getfield 62, 3) := by decide +kernel
theorem dX12_copy_148 : decode cX12_copy 148 = .ok (.iload 6, 2) := by decide +kernel
theorem dX12_copy_150 : decode cX12_copy 150 = .ok (.aload_n 0, 1) := by decide +kernel
theorem dX12_copy_151 : decode cX12_copy 151 = .ok (.getfield 37, 3) := by decide +kernel
theorem dX12_copy_154 : decode cX12_copy 154 = .ok (.bipush 100, 2) := by decide +kernel
theorem dX12_copy_156 : decode cX12_copy 156 = .ok (.iload_n 1, 1) := by decide +kernel
theorem dX12_copy_157 : decode cX12_copy 157 = .ok (.imul, 1) := by decide +kernel
theorem dX12_copy_158 : decode cX12_copy 158 = .ok (.iload_n 2, 1) := by decide +kernel
theorem dX12_copy_159 : decode cX12_copy 159 = .ok (.iadd, 1) := by decide +kernel
theorem dX12_copy_160 : decode cX12_copy 160 = .ok (.iload 6, 2) := by decide +kernel
theorem dX12_copy_162 : decode cX12_copy 162 = .ok (.iadd, 1) := by decide +kernel
theorem dX12_copy_163 : decode cX12_copy 163 = .ok (.laload, 1) := by decide +kernel
theorem dX12_copy_164 : decode cX12_copy 164 = .ok (.lastore, 1) := by decide +kernel
theorem dX12_copy_165 : decode cX12_copy 165 = .ok (.iinc 6 1, 3) := by decide +kernel
theorem dX12_copy_168 : decode cX12_copy 168 = .ok (.goto (-31), 3) := by decide +kernel
theorem dX12_copy_171 : decode cX12_copy 171 = .ok (.iconst 0, 1) := by decide +kernel
theorem dX12_copy_172 : decode cX12_copy 172 = .ok (.istore 6, 2) := by decide +kernel
theorem dX12_copy_174 : decode cX12_copy 174 = .ok (.iload 6, 2) := by decide +kernel
theorem dX12_copy_176 : decode cX12_copy 176 = .ok (.iload 5, 2) := by decide +kernel
theorem dX12_copy_178 : decode cX12_copy 178 = .ok (.if_icmp .ge 31, 3) := by decide +kernel
theorem dX12_copy_181 : decode cX12_copy 181 = .ok (.aload_n 0, 1) := by decide +kernel
theorem dX12_copy_182 : decode cX12_copy 182 = .ok (.getfield 37, 3) := by decide +kernel
theorem dX12_copy_185 : decode cX12_copy 185 = .ok (.bipush 100, 2) := by decide +kernel
theorem dX12_copy_187 : decode cX12_copy 187 = .ok (.iload_n 3, 1) := by decide +kernel
theorem dX12_copy_188 : decode cX12_copy 188 = .ok (.imul, 1) := by decide +kernel
theorem dX12_copy_189 : decode cX12_copy 189 = .ok (.iload 4, 2) := by decide +kernel
theorem dX12_copy_191 : decode cX12_copy 191 = .ok (.iadd, 1) := by decide +kernel
theorem dX12_copy_192 : decode cX12_copy 192 = .ok (.iload 6, 2) := by decide +kernel
theorem dX12_copy_194 : decode cX12_copy 194 = .ok (.iadd, 1) := by decide +kernel
theorem dX12_copy_195 : decode cX12_copy 195 = .ok (.aload_n 0, 1) := by decide +kernel
theorem dX12_copy_196 : decode cX12_copy 196 = .ok (.getfield 62, 3) := by decide +kernel
theorem dX12_copy_199 : decode cX12_copy 199 = .ok (.iload 6, 2) := by decide +kernel
theorem dX12_copy_201 : decode cX12_copy 201 = .ok (.laload, 1) := by decide +kernel
theorem dX12_copy_202 : decode cX12_copy 202 = .ok (.lastore, 1) := by decide +kernel
theorem dX12_copy_203 : decode cX12_copy 203 = .ok (.iinc 6 1, 3) := by decide +kernel
theorem dX12_copy_206 : decode cX12_copy 206 = .ok (.goto (-32), 3) := by decide +kernel
theorem dX12_copy_209 : decode cX12_copy 209 = .ok (.iload 5, 2) := by decide +kernel
theorem dX12_copy_211 : decode cX12_copy 211 = .ok (.ireturn, 1) := by decide +kernel
theorem dX12_costOf_0 : decode cX12_costOf 0 = .ok (.iload_n 0, 1) := by decide +kernel
theorem dX12_costOf_1 : decode cX12_costOf 1 = .ok (.tableswitch 66 0 6 #[43, 45, 47, 51, 53, 56, 60], 43) := by decide +kernel
theorem dX12_costOf_44 : decode cX12_costOf 44 = .ok (.iconst 4, 1) := by decide +kernel
theorem dX12_costOf_45 : decode cX12_costOf 45 = .ok (.ireturn, 1) := by decide +kernel
theorem dX12_costOf_46 : decode cX12_costOf 46 = .ok (.iconst 3, 1) := by decide +kernel
theorem dX12_costOf_47 : decode cX12_costOf 47 = .ok (.ireturn, 1) := by decide +kernel
theorem dX12_costOf_48 : decode cX12_costOf 48 = .ok (.iconst 4, 1) := by decide +kernel
theorem dX12_costOf_49 : decode cX12_costOf 49 = .ok (.iload_n 1, 1) := by decide +kernel
theorem dX12_costOf_50 : decode cX12_costOf 50 = .ok (.iadd, 1) := by decide +kernel
theorem dX12_costOf_51 : decode cX12_costOf 51 = .ok (.ireturn, 1) := by decide +kernel
theorem dX12_costOf_52 : decode cX12_costOf 52 = .ok (.iconst 1, 1) := by decide +kernel
theorem dX12_costOf_53 : decode cX12_costOf 53 = .ok (.ireturn, 1) := by decide +kernel
theorem dX12_costOf_54 : decode cX12_costOf 54 = .ok (.bipush 12, 2) := by decide +kernel
theorem dX12_costOf_56 : decode cX12_costOf 56 = .ok (.ireturn, 1) := by decide +kernel
theorem dX12_costOf_57 : decode cX12_costOf 57 = .ok (.iconst 3, 1) := by decide +kernel
theorem dX12_costOf_58 : decode cX12_costOf 58 = .ok (.iload_n 1, 1) := by decide +kernel
theorem dX12_costOf_59 : decode cX12_costOf 59 = .ok (.iadd, 1) := by decide +kernel
theorem dX12_costOf_60 : decode cX12_costOf 60 = .ok (.ireturn, 1) := by decide +kernel
theorem dX12_costOf_61 : decode cX12_costOf 61 = .ok (.iconst 2, 1) := by decide +kernel
theorem dX12_costOf_62 : decode cX12_costOf 62 = .ok (.iconst 4, 1) := by decide +kernel
theorem dX12_costOf_63 : decode cX12_costOf 63 = .ok (.iload_n 1, 1) := by decide +kernel
theorem dX12_costOf_64 : decode cX12_costOf 64 = .ok (.iadd, 1) := by decide +kernel
theorem dX12_costOf_65 : decode cX12_costOf 65 = .ok (.imul, 1) := by decide +kernel
theorem dX12_costOf_66 : decode cX12_costOf 66 = .ok (.ireturn, 1) := by decide +kernel
theorem dX12_costOf_67 : decode cX12_costOf 67 = .ok (.iconst 5, 1) := by decide +kernel
theorem dX12_costOf_68 : decode cX12_costOf 68 = .ok (.ireturn, 1) := by decide +kernel
set_option maxRecDepth 20000 in
theorem ggX12_cost_X12_wrongKept : GoodIn wsX12_cost wsX12_wrongKept := goodIn_r _ [8, 9, 10, 11, 12, 7, 13, 17, 18, 19, 20, 21, 22, 23, 24, 25, 26, 27, 28, 29, 30, 31, 32, 33, 34, 35, 36, 37, 38, 39, 40, 41, 42, 43, 44, 45, 46, 47] (by decide +kernel) (by decide +kernel)
set_option maxRecDepth 20000 in
theorem gX12_cost_X12_wrongKept : GoodIn wsX12_cost (wsV RX12 189 RX12 yX12_wrongKept wsX12_wrongKept) := goodIn_app (goodIn_of _ (by decide +kernel)) ggX12_cost_X12_wrongKept
set_option maxRecDepth 20000 in
theorem ggX12_cost_X12_costOf : GoodIn wsX12_cost wsX12_costOf := goodIn_r _ [16] (by decide +kernel) (by decide +kernel)
set_option maxRecDepth 20000 in
theorem gX12_cost_X12_costOf : GoodIn wsX12_cost (va_wsS RX12 289 yX12_costOf wsX12_costOf) := goodIn_app (goodIn_of _ (by decide +kernel)) ggX12_cost_X12_costOf
theorem dX12_cost_0 : decode cX12_cost 0 = .ok (.aload_n 0, 1) := by decide +kernel
theorem dX12_cost_1 : decode cX12_cost 1 = .ok (.iconst 0, 1) := by decide +kernel
theorem dX12_cost_2 : decode cX12_cost 2 = .ok (.putfield 65, 3) := by decide +kernel
theorem dX12_cost_5 : decode cX12_cost 5 = .ok (.aload_n 0, 1) := by decide +kernel
theorem dX12_cost_6 : decode cX12_cost 6 = .ok (.iload_n 1, 1) := by decide +kernel
theorem dX12_cost_7 : decode cX12_cost 7 = .ok (.invokevirtual 189, 3) := by decide +kernel
theorem dX12_cost_10 : decode cX12_cost 10 = .ok (.ifCond .ge 11, 3) := by decide +kernel
theorem dX12_cost_13 : decode cX12_cost 13 = .ok (.aload_n 0, 1) := by decide +kernel
theorem dX12_cost_14 : decode cX12_cost 14 = .ok (.iload_n 1, 1) := by decide +kernel
theorem dX12_cost_15 : decode cX12_cost 15 = .ok (.invokevirtual 189, 3) := by decide +kernel
theorem dX12_cost_18 : decode cX12_cost 18 = .ok (.goto 18, 3) := by decide +kernel
theorem dX12_cost_21 : decode cX12_cost 21 = .ok (.aload_n 0, 1) := by decide +kernel
theorem dX12_cost_22 : decode cX12_cost 22 = .ok (.getfield 25, 3) := by decide +kernel
theorem dX12_cost_25 : decode cX12_cost 25 = .ok (.iload_n 1, 1) := by decide +kernel
theorem dX12_cost_26 : decode cX12_cost 26 = .ok (.iaload, 1) := by decide +kernel
theorem dX12_cost_27 : decode cX12_cost 27 = .ok (.aload_n 0, 1) := by decide +kernel
theorem dX12_cost_28 : decode cX12_cost 28 = .ok (.getfield 28, 3) := by decide +kernel
theorem dX12_cost_31 : decode cX12_cost 31 = .ok (.iload_n 1, 1) := by decide +kernel
theorem dX12_cost_32 : decode cX12_cost 32 = .ok (.iaload, 1) := by decide +kernel
theorem dX12_cost_33 : decode cX12_cost 33 = .ok (.invokestatic 289, 3) := by decide +kernel
theorem dX12_cost_36 : decode cX12_cost 36 = .ok (.ireturn, 1) := by decide +kernel
set_option maxRecDepth 20000 in
theorem ggX12_toss_X12_wrongKept : GoodIn wsX12_toss wsX12_wrongKept := goodIn_r _ [8, 9, 10, 11, 12, 7, 13, 17, 18, 19, 20, 21, 22, 23, 24, 25, 26, 27, 28, 29, 30, 31, 32, 33, 34, 35, 36, 37, 38, 39, 40, 41, 42, 43, 44, 45, 46, 47] (by decide +kernel) (by decide +kernel)
set_option maxRecDepth 20000 in
theorem gX12_toss_X12_wrongKept : GoodIn wsX12_toss (wsV RX12 189 RX12 yX12_wrongKept wsX12_wrongKept) := goodIn_app (goodIn_of _ (by decide +kernel)) ggX12_toss_X12_wrongKept
set_option maxRecDepth 20000 in
theorem ggX12_toss_X12_costOf : GoodIn wsX12_toss wsX12_costOf := goodIn_r _ [16] (by decide +kernel) (by decide +kernel)
set_option maxRecDepth 20000 in
theorem gX12_toss_X12_costOf : GoodIn wsX12_toss (va_wsS RX12 289 yX12_costOf wsX12_costOf) := goodIn_app (goodIn_of _ (by decide +kernel)) ggX12_toss_X12_costOf
theorem dX12_toss_0 : decode cX12_toss 0 = .ok (.aload_n 0, 1) := by decide +kernel
theorem dX12_toss_1 : decode cX12_toss 1 = .ok (.iconst 0, 1) := by decide +kernel
theorem dX12_toss_2 : decode cX12_toss 2 = .ok (.putfield 65, 3) := by decide +kernel
theorem dX12_toss_5 : decode cX12_toss 5 = .ok (.aload_n 0, 1) := by decide +kernel
theorem dX12_toss_6 : decode cX12_toss 6 = .ok (.iload_n 1, 1) := by decide +kernel
theorem dX12_toss_7 : decode cX12_toss 7 = .ok (.invokevirtual 189, 3) := by decide +kernel
theorem dX12_toss_10 : decode cX12_toss 10 = .ok (.ifCond .ge 9, 3) := by decide +kernel
theorem dX12_toss_13 : decode cX12_toss 13 = .ok (.aload_n 0, 1) := by decide +kernel
theorem dX12_toss_14 : decode cX12_toss 14 = .ok (.iload_n 1, 1) := by decide +kernel
theorem dX12_toss_15 : decode cX12_toss 15 = .ok (.invokevirtual 189, 3) := by decide +kernel
theorem dX12_toss_18 : decode cX12_toss 18 = .ok (.ireturn, 1) := by decide +kernel
theorem dX12_toss_19 : decode cX12_toss 19 = .ok (.aload_n 0, 1) := by decide +kernel
theorem dX12_toss_20 : decode cX12_toss 20 = .ok (.getfield 25, 3) := by decide +kernel
theorem dX12_toss_23 : decode cX12_toss 23 = .ok (.iload_n 1, 1) := by decide +kernel
theorem dX12_toss_24 : decode cX12_toss 24 = .ok (.iaload, 1) := by decide +kernel
theorem dX12_toss_25 : decode cX12_toss 25 = .ok (.istore_n 2, 1) := by decide +kernel
theorem dX12_toss_26 : decode cX12_toss 26 = .ok (.aload_n 0, 1) := by decide +kernel
theorem dX12_toss_27 : decode cX12_toss 27 = .ok (.getfield 28, 3) := by decide +kernel
theorem dX12_toss_30 : decode cX12_toss 30 = .ok (.iload_n 1, 1) := by decide +kernel
theorem dX12_toss_31 : decode cX12_toss 31 = .ok (.iaload, 1) := by decide +kernel
theorem dX12_toss_32 : decode cX12_toss 32 = .ok (.istore_n 3, 1) := by decide +kernel
theorem dX12_toss_33 : decode cX12_toss 33 = .ok (.iload_n 2, 1) := by decide +kernel
theorem dX12_toss_34 : decode cX12_toss 34 = .ok (.iconst 3, 1) := by decide +kernel
theorem dX12_toss_35 : decode cX12_toss 35 = .ok (.if_icmp .eq 7, 3) := by decide +kernel
theorem dX12_toss_38 : decode cX12_toss 38 = .ok (.iload_n 3, 1) := by decide +kernel
theorem dX12_toss_39 : decode cX12_toss 39 = .ok (.ifCond .ne 6, 3) := by decide +kernel
theorem dX12_toss_42 : decode cX12_toss 42 = .ok (.bipush (-15), 2) := by decide +kernel
theorem dX12_toss_44 : decode cX12_toss 44 = .ok (.ireturn, 1) := by decide +kernel
theorem dX12_toss_45 : decode cX12_toss 45 = .ok (.iload_n 2, 1) := by decide +kernel
theorem dX12_toss_46 : decode cX12_toss 46 = .ok (.iconst 2, 1) := by decide +kernel
theorem dX12_toss_47 : decode cX12_toss 47 = .ok (.if_icmp .ne 10, 3) := by decide +kernel
theorem dX12_toss_50 : decode cX12_toss 50 = .ok (.bipush 100, 2) := by decide +kernel
theorem dX12_toss_52 : decode cX12_toss 52 = .ok (.iload_n 3, 1) := by decide +kernel
theorem dX12_toss_53 : decode cX12_toss 53 = .ok (.iadd, 1) := by decide +kernel
theorem dX12_toss_54 : decode cX12_toss 54 = .ok (.goto 22, 3) := by decide +kernel
theorem dX12_toss_57 : decode cX12_toss 57 = .ok (.iload_n 2, 1) := by decide +kernel
theorem dX12_toss_58 : decode cX12_toss 58 = .ok (.bipush 6, 2) := by decide +kernel
theorem dX12_toss_60 : decode cX12_toss 60 = .ok (.if_icmp .ne 15, 3) := by decide +kernel
theorem dX12_toss_63 : decode cX12_toss 63 = .ok (.sipush 200, 3) := by decide +kernel
theorem dX12_toss_66 : decode cX12_toss 66 = .ok (.iload_n 2, 1) := by decide +kernel
theorem dX12_toss_67 : decode cX12_toss 67 = .ok (.iload_n 3, 1) := by decide +kernel
theorem dX12_toss_68 : decode cX12_toss 68 = .ok (.invokestatic 289, 3) := by decide +kernel
theorem dX12_toss_71 : decode cX12_toss 71 = .ok (.iadd, 1) := by decide +kernel
theorem dX12_toss_72 : decode cX12_toss 72 = .ok (.goto 4, 3) := by decide +kernel
theorem dX12_toss_75 : decode cX12_toss 75 = .ok (.iload_n 3, 1) := by decide +kernel
theorem dX12_toss_76 : decode cX12_toss 76 = .ok (.ireturn, 1) := by decide +kernel
