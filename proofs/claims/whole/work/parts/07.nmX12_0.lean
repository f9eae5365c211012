theorem dX12_init_0 : decode cX12_init 0 = .ok (.aload_n 0, 1) := by decide +kernel
theorem dX12_init_1 : decode cX12_init 1 = .ok (.invokespecial 1, 3) := by decide +kernel
theorem dX12_init_4 : decode cX12_init 4 = .ok (.aload_n 0, 1) := by decide +kernel
theorem dX12_init_5 : decode cX12_init 5 = .ok (.bipush 7, 2) := by decide +kernel
theorem dX12_init_7 : decode cX12_init 7 = .ok (.newarray .int, 2) := by decide +kernel
theorem dX12_init_9 : decode cX12_init 9 = .ok (.putfield 7, 3) := by decide +kernel
theorem dX12_init_12 : decode cX12_init 12 = .ok (.aload_n 0, 1) := by decide +kernel
theorem dX12_init_13 : decode cX12_init 13 = .ok (.bipush 7, 2) := by decide +kernel
theorem dX12_init_15 : decode cX12_init 15 = .ok (.newarray .int, 2) := by decide +kernel
theorem dX12_init_17 : decode cX12_init 17 = .ok (.putfield 13, 3) := by decide +kernel
theorem dX12_init_20 : decode cX12_init 20 = .ok (.aload_n 0, 1) := by decide +kernel
theorem dX12_init_21 : decode cX12_init 21 = .ok (.bipush 7, 2) := by decide +kernel
theorem dX12_init_23 : decode cX12_init 23 = .ok (.newarray .int, 2) := by decide +kernel
theorem dX12_init_25 : decode cX12_init 25 = .ok (.putfield 16, 3) := by decide +kernel
theorem dX12_init_28 : decode cX12_init 28 = .ok (.aload_n 0, 1) := by decide +kernel
theorem dX12_init_29 : decode cX12_init 29 = .ok (.bipush 49, 2) := by decide +kernel
theorem dX12_init_31 : decode cX12_init 31 = .ok (.newarray .int, 2) := by decide +kernel
theorem dX12_init_33 : decode cX12_init 33 = .ok (.putfield 19, 3) := by decide +kernel
theorem dX12_init_36 : decode cX12_init 36 = .ok (.aload_n 0, 1) := by decide +kernel
theorem dX12_init_37 : decode cX12_init 37 = .ok (.bipush 8, 2) := by decide +kernel
theorem dX12_init_39 : decode cX12_init 39 = .ok (.newarray .int, 2) := by decide +kernel
theorem dX12_init_41 : decode cX12_init 41 = .ok (.putfield 22, 3) := by decide +kernel
theorem dX12_init_44 : decode cX12_init 44 = .ok (.aload_n 0, 1) := by decide +kernel
theorem dX12_init_45 : decode cX12_init 45 = .ok (.bipush 8, 2) := by decide +kernel
theorem dX12_init_47 : decode cX12_init 47 = .ok (.newarray .int, 2) := by decide +kernel
theorem dX12_init_49 : decode cX12_init 49 = .ok (.putfield 25, 3) := by decide +kernel
theorem dX12_init_52 : decode cX12_init 52 = .ok (.aload_n 0, 1) := by decide +kernel
theorem dX12_init_53 : decode cX12_init 53 = .ok (.bipush 8, 2) := by decide +kernel
theorem dX12_init_55 : decode cX12_init 55 = .ok (.newarray .int, 2) := by decide +kernel
theorem dX12_init_57 : decode cX12_init 57 = .ok (.putfield 28, 3) := by decide +kernel
theorem dX12_init_60 : decode cX12_init 60 = .ok (.aload_n 0, 1) := by decide +kernel
theorem dX12_init_61 : decode cX12_init 61 = .ok (.bipush 8, 2) := by decide +kernel
theorem dX12_init_63 : decode cX12_init 63 = .ok (.newarray .int, 2) := by decide +kernel
theorem dX12_init_65 : decode cX12_init 65 = .ok (.putfield 31, 3) := by decide +kernel
theorem dX12_init_68 : decode cX12_init 68 = .ok (.aload_n 0, 1) := by decide +kernel
theorem dX12_init_69 : decode cX12_init 69 = .ok (.bipush 8, 2) := by decide +kernel
theorem dX12_init_71 : decode cX12_init 71 = .ok (.newarray .int, 2) := by decide +kernel
theorem dX12_init_73 : decode cX12_init 73 = .ok (.putfield 34, 3) := by decide +kernel
theorem dX12_init_76 : decode cX12_init 76 = .ok (.aload_n 0, 1) := by decide +kernel
theorem dX12_init_77 : decode cX12_init 77 = .ok (.sipush 800, 3) := by decide +kernel
theorem dX12_init_80 : decode cX12_init 80 = .ok (.newarray .long, 2) := by decide +kernel
theorem dX12_init_82 : decode cX12_init 82 = .ok (.putfield 37, 3) := by decide +kernel
theorem dX12_init_85 : decode cX12_init 85 = .ok (.aload_n 0, 1) := by decide +kernel
theorem dX12_init_86 : decode cX12_init 86 = .ok (.bipush 51, 2) := by decide +kernel
theorem dX12_init_88 : decode cX12_init 88 = .ok (.newarray .int, 2) := by decide +kernel
theorem dX12_init_90 : decode cX12_init 90 = .ok (.putfield 41, 3) := by decide +kernel
theorem dX12_init_93 : decode cX12_init 93 = .ok (.aload_n 0, 1) := by decide +kernel
theorem dX12_init_94 : decode cX12_init 94 = .ok (.bipush 51, 2) := by decide +kernel
theorem dX12_init_96 : decode cX12_init 96 = .ok (.newarray .int, 2) := by decide +kernel
theorem dX12_init_98 : decode cX12_init 98 = .ok (.putfield 44, 3) := by decide +kernel
theorem dX12_init_101 : decode cX12_init 101 = .ok (.aload_n 0, 1) := by decide +kernel
theorem dX12_init_102 : decode cX12_init 102 = .ok (.sipush 153, 3) := by decide +kernel
theorem dX12_init_105 : decode cX12_init 105 = .ok (.newarray .int, 2) := by decide +kernel
theorem dX12_init_107 : decode cX12_init 107 = .ok (.putfield 47, 3) := by decide +kernel
theorem dX12_init_110 : decode cX12_init 110 = .ok (.aload_n 0, 1) := by decide +kernel
theorem dX12_init_111 : decode cX12_init 111 = .ok (.bipush 73, 2) := by decide +kernel
theorem dX12_init_113 : decode cX12_init 113 = .ok (.newarray .int, 2) := by decide +kernel
theorem dX12_init_115 : decode cX12_init 115 = .ok (.putfield 50, 3) := by decide +kernel
theorem dX12_init_118 : decode cX12_init 118 = .ok (.aload_n 0, 1) := by decide +kernel
theorem dX12_init_119 : decode cX12_init 119 = .ok (.bipush 73, 2) := by decide +kernel
theorem dX12_init_121 : decode cX12_init 121 = .ok (.newarray .int, 2) := by decide +kernel
theorem dX12_init_123 : decode cX12_init 123 = .ok (.putfield 53, 3) := by decide +kernel
theorem dX12_init_126 : decode cX12_init 126 = .ok (.aload_n 0, 1) := by decide +kernel
theorem dX12_init_127 : decode cX12_init 127 = .ok (.sipush 1024, 3) := by decide +kernel
theorem dX12_init_130 : decode cX12_init 130 = .ok (.newarray .int, 2) := by decide +kernel
theorem dX12_init_132 : decode cX12_init 132 = .ok (.putfield 56, 3) := by decide +kernel
theorem dX12_init_135 : decode cX12_init 135 = .ok (.aload_n 0, 1) := by decide +kernel
theorem dX12_init_136 : decode cX12_init 136 = .ok (.sipush 1024, 3) := by decide +kernel
theorem dX12_init_139 : decode cX12_init 139 = .ok (.newarray .int, 2) := by decide +kernel
theorem dX12_init_141 : decode cX12_init 141 = .ok (.putfield 59, 3) := by decide +kernel
theorem dX12_init_144 : decode cX12_init 144 = .ok (.aload_n 0, 1) := by decide +kernel
theorem dX12_init_145 : decode cX12_init 145 = .ok (.bipush 100, 2) := by decide +kernel
theorem dX12_init_147 : decode cX12_init 147 = .ok (.newarray .long, 2) := by decide +kernel
theorem dX12_init_149 : decode cX12_init 149 = .ok (.putfield 62, 3) := by decide +kernel
theorem dX12_init_152 : decode cX12_init 152 = .ok (.aload_n 0, 1) := by decide +kernel
theorem dX12_init_153 : decode cX12_init 153 = .ok (.iconst 0, 1) := by decide +kernel
theorem dX12_init_154 : decode cX12_init 154 = .ok (.putfield 65, 3) := by decide +kernel
theorem dX12_init_157 : decode cX12_init 157 = .ok (.return_, 1) := by decide +kernel
theorem dX12_thrown_0 : decode cX12_thrown 0 = .ok (.aload_n 0, 1) := by decide +kernel
theorem dX12_thrown_1 : decode cX12_thrown 1 = .ok (.getfield 65, 3) := by decide +kernel
theorem dX12_thrown_4 : decode cX12_thrown 4 = .ok (.ireturn, 1) := by decide +kernel
theorem dX12_in_0 : decode cX12_in 0 = .ok (.lload_n 0, 1) := by decide +kernel
theorem dX12_in_1 : decode cX12_in 1 = .ok (.lload_n 2, 1) := by decide +kernel
theorem dX12_in_2 : decode cX12_in 2 = .ok (.lcmp, 1) := by decide +kernel
theorem dX12_in_3 : decode cX12_in 3 = .ok (.ifCond .lt 14, 3) := by decide +kernel
theorem dX12_in_6 : decode cX12_in 6 = .ok (.lload_n 0, 1) := by decide +kernel
theorem dX12_in_7 : decode cX12_in 7 = .ok (.lload 4, 2) := by decide +kernel
theorem dX12_in_9 : decode cX12_in 9 = .ok (.lcmp, 1) := by decide +kernel
theorem dX12_in_10 : decode cX12_in 10 = .ok (.ifCond .gt 7, 3) := by decide +kernel
theorem dX12_in_13 : decode cX12_in 13 = .ok (.iconst 1, 1) := by decide +kernel
theorem dX12_in_14 : decode cX12_in 14 = .ok (.goto 4, 3) := by decide +kernel
theorem dX12_in_17 : decode cX12_in 17 = .ok (.iconst 0, 1) := by decide +kernel
theorem dX12_in_18 : decode cX12_in 18 = .ok (.ireturn, 1) := by decide +kernel
theorem dX12_hasBit_0 : decode cX12_hasBit 0 = .ok (.iload_n 0, 1) := by decide +kernel
theorem dX12_hasBit_1 : decode cX12_hasBit 1 = .ok (.iload_n 1, 1) := by decide +kernel
theorem dX12_hasBit_2 : decode cX12_hasBit 2 = .ok (.ishr, 1) := by decide +kernel
theorem dX12_hasBit_3 : decode cX12_hasBit 3 = .ok (.iconst 1, 1) := by decide +kernel
theorem dX12_hasBit_4 : decode cX12_hasBit 4 = .ok (.iand, 1) := by decide +kernel
theorem dX12_hasBit_5 : decode cX12_hasBit 5 = .ok (.iconst 1, 1) := by decide +kernel
theorem dX12_hasBit_6 : decode cX12_hasBit 6 = .ok (.if_icmp .ne 7, 3) := by decide +kernel
theorem dX12_hasBit_9 : decode cX12_hasBit 9 = .ok (.iconst 1, 1) := by decide +kernel
theorem dX12_hasBit_10 : decode cX12_hasBit 10 = .ok (.goto 4, 3) := by decide +kernel
theorem dX12_hasBit_13 : decode cX12_hasBit 13 = .ok (.iconst 0, 1) := by decide +kernel
theorem dX12_hasBit_14 : decode cX12_hasBit 14 = .ok (.ireturn, 1) := by decide +kernel
theorem dX12_onesOf_0 : decode cX12_onesOf 0 = .ok (.iconst 0, 1) := by decide +kernel
theorem dX12_onesOf_1 : decode cX12_onesOf 1 = .ok (.istore_n 1, 1) := by decide +kernel
theorem dX12_onesOf_2 : decode cX12_onesOf 2 = .ok (.iload_n 0, 1) := by decide +kernel
theorem dX12_onesOf_3 : decode cX12_onesOf 3 = .ok (.istore_n 2, 1) := by decide +kernel
theorem dX12_onesOf_4 : decode cX12_onesOf 4 = .ok (.iload_n 2, 1) := by decide +kernel
theorem dX12_onesOf_5 : decode cX12_onesOf 5 = .ok (.ifCond .eq 15, 3) := by decide +kernel
theorem dX12_onesOf_8 : decode cX12_onesOf 8 = .ok (.iinc 1 1, 3) := by decide +kernel
theorem dX12_onesOf_11 : decode cX12_onesOf 11 = .ok (.iload_n 2, 1) := by decide +kernel
theorem dX12_onesOf_12 : decode cX12_onesOf 12 = .ok (.iload_n 2, 1) := by decide +kernel
theorem dX12_onesOf_13 : decode cX12_onesOf 13 = .ok (.iconst 1, 1) := by decide +kernel
theorem dX12_onesOf_14 : decode cX12_onesOf 14 = .ok (.isub, 1) := by decide +kernel
theorem dX12_onesOf_15 : decode cX12_onesOf 15 = .ok (.iand, 1) := by decide +kernel
theorem dX12_onesOf_16 : decode cX12_onesOf 16 = .ok (.istore_n 2, 1) := by decide +kernel
theorem dX12_onesOf_17 : decode cX12_onesOf 17 = .ok (.goto (-13), 3) := by decide +kernel
theorem dX12_onesOf_20 : decode cX12_onesOf 20 = .ok (.iload_n 1, 1) := by decide +kernel
theorem dX12_onesOf_21 : decode cX12_onesOf 21 = .ok (.ireturn, 1) := by decide +kernel
theorem dX12_lesser_0 : decode cX12_lesser 0 = .ok (.iload_n 0, 1) := by decide +kernel
theorem dX12_lesser_1 : decode cX12_lesser 1 = .ok (.iload_n 1, 1) := by decide +kernel
theorem dX12_lesser_2 : decode cX12_lesser 2 = .ok (.if_icmp .ge 7, 3) := by decide +kernel
theorem dX12_lesser_5 : decode cX12_lesser 5 = .ok (.iload_n 0, 1) := by decide +kernel
theorem dX12_lesser_6 : decode cX12_lesser 6 = .ok (.goto 4, 3) := by decide +kernel
theorem dX12_lesser_9 : decode cX12_lesser 9 = .ok (.iload_n 1, 1) := by decide +kernel
theorem dX12_lesser_10 : decode cX12_lesser 10 = .ok (.ireturn, 1) := by decide +kernel
theorem dX12_greater_0 : decode cX12_greater 0 = .ok (.iload_n 0, 1) := by decide +kernel
theorem dX12_greater_1 : decode cX12_greater 1 = .ok (.iload_n 1, 1) := by decide +kernel
theorem dX12_greater_2 : decode cX12_greater 2 = .ok (.if_icmp .le 7, 3) := by decide +kernel
theorem dX12_greater_5 : decode cX12_greater 5 = .ok (.iload_n 0, 1) := by decide +kernel
theorem dX12_greater_6 : decode cX12_greater 6 = .ok (.goto 4, 3) := by decide +kernel
theorem dX12_greater_9 : decode cX12_greater 9 = .ok (.iload_n 1, 1) := by decide +kernel
theorem dX12_greater_10 : decode cX12_greater 10 = .ok (.ireturn, 1) := by decide +kernel
set_option maxRecDepth 20000 in
theorem ggX12_isOne_X12_in : GoodIn wsX12_isOne wsX12_in := goodIn_r _ [5] (by decide +kernel) (by decide +kernel)
set_option maxRecDepth 20000 in
theorem gX12_isOne_X12_in : GoodIn wsX12_isOne (va_wsS RX12 72 yX12_in wsX12_in) := goodIn_app (goodIn_of _ (by decide +kernel)) ggX12_isOne_X12_in
theorem dX12_isOne_0 : decode cX12_isOne 0 = .ok (.iload_n 1, 1) := by decide +kernel
theorem dX12_isOne_1 : decode cX12_isOne 1 = .ok (.i2l, 1) := by decide +kernel
theorem dX12_isOne_2 : decode cX12_isOne 2 = .ok (.lconst 0, 1) := by decide +kernel
theorem dX12_isOne_3 : decode cX12_isOne 3 = .ok (.aload_n 0, 1) := by decide +kernel
theorem dX12_isOne_4 : decode cX12_isOne 4 = .ok (.getfield 69, 3) := by decide +kernel
theorem dX12_isOne_7 : decode cX12_isOne 7 = .ok (.iconst 1, 1) := by decide +kernel
theorem dX12_isOne_8 : decode cX12_isOne 8 = .ok (.isub, 1) := by decide +kernel
theorem dX12_isOne_9 : decode cX12_isOne 9 = .ok (.i2l, 1) := by decide +kernel
theorem dX12_isOne_10 : decode cX12_isOne 10 = .ok (.invokestatic 72, 3) := by decide +kernel
theorem dX12_isOne_13 : decode cX12_isOne 13 = .ok (.ireturn, 1) := by decide +kernel
set_option maxRecDepth 20000 in
theorem ggX12_areTwo_X12_isOne : GoodIn wsX12_areTwo wsX12_isOne := goodIn_r _ [5, 6, 7, 8, 4, 9, 10, 11, 12, 13, 14, 15, 16, 17, 18, 19, 20, 21, 22, 23, 24, 25, 26, 27, 28, 29, 30, 31, 32, 33, 34, 35, 36, 37, 38, 39, 40] (by decide +kernel) (by decide +kernel)
set_option maxRecDepth 20000 in
theorem gX12_areTwo_X12_isOne : GoodIn wsX12_areTwo (wsV RX12 76 RX12 yX12_isOne wsX12_isOne) := goodIn_app (goodIn_of _ (by decide +kernel)) ggX12_areTwo_X12_isOne
theorem dX12_areTwo_0 : decode cX12_areTwo 0 = .ok (.aload_n 0, 1) := by decide +kernel
theorem dX12_areTwo_1 : decode cX12_areTwo 1 = .ok (.iload_n 1, 1) := by decide +kernel
theorem dX12_areTwo_2 : decode cX12_areTwo 2 = .ok (.invokevirtual 76, 3) := by decide +kernel
theorem dX12_areTwo_5 : decode cX12_areTwo 5 = .ok (.ifCond .eq 20, 3) := by decide +kernel
theorem dX12_areTwo_8 : decode cX12_areTwo 8 = .ok (.aload_n 0, 1) := by decide +kernel
theorem dX12_areTwo_9 : decode cX12_areTwo 9 = .ok (.iload_n 2, 1) := by decide +kernel
theorem dX12_areTwo_10 : decode cX12_areTwo 10 = .ok (.invokevirtual 76, 3) := by decide +kernel
theorem dX12_areTwo_13 : decode cX12_areTwo 13 = .ok (.ifCond .eq 12, 3) := by decide +kernel
theorem dX12_areTwo_16 : decode cX12_areTwo 16 = .ok (.iload_n 1, 1) := by decide +kernel
theorem dX12_areTwo_17 : decode cX12_areTwo 17 = .ok (.iload_n 2, 1) := by decide +kernel
theorem dX12_areTwo_18 : decode cX12_areTwo 18 = .ok (.if_icmp .eq 7, 3) := by decide +kernel
theorem dX12_areTwo_21 : decode cX12_areTwo 21 = .ok (.iconst 1, 1) := by decide +kernel
theorem dX12_areTwo_22 : decode cX12_areTwo 22 = .ok (.goto 4, 3) := by decide +kernel
theorem dX12_areTwo_25 : decode cX12_areTwo 25 = .ok (.iconst 0, 1) := by decide +kernel
theorem dX12_areTwo_26 : decode cX12_areTwo 26 = .ok (.ireturn, 1) := by decide +kernel
theorem dX12_growsOf_0 : decode cX12_growsOf 0 = .ok (.aload_n 0, 1) := by decide +kernel
theorem dX12_growsOf_1 : decode cX12_growsOf 1 = .ok (.getfield 13, 3) := by decide +kernel
theorem dX12_growsOf_4 : decode cX12_growsOf 4 = .ok (.iload_n 1, 1) := by decide +kernel
theorem dX12_growsOf_5 : decode cX12_growsOf 5 = .ok (.iaload, 1) := by decide +kernel
theorem dX12_growsOf_6 : decode cX12_growsOf 6 = .ok (.istore_n 2, 1) := by decide +kernel
theorem dX12_growsOf_7 : decode cX12_growsOf 7 = .ok (.aload_n 0, 1) := by decide +kernel
theorem dX12_growsOf_8 : decode cX12_growsOf 8 = .ok (.getfield 7, 3) := by decide +kernel
theorem dX12_growsOf_11 : decode cX12_growsOf 11 = .ok (.iload_n 1, 1) := by decide +kernel
theorem dX12_growsOf_12 : decode cX12_growsOf 12 = .ok (.iaload, 1) := by decide +kernel
theorem dX12_growsOf_13 : decode cX12_growsOf 13 = .ok (.tableswitch 73 1 7 #[43, 45, 51, 53, 57, 63, 71], 43) := by decide +kernel
theorem dX12_growsOf_56 : decode cX12_growsOf 56 = .ok (.iconst 1, 1) := by decide +kernel
theorem dX12_growsOf_57 : decode cX12_growsOf 57 = .ok (.ireturn, 1) := by decide +kernel
theorem dX12_growsOf_58 : decode cX12_growsOf 58 = .ok (.iconst 2, 1) := by decide +kernel
theorem dX12_growsOf_59 : decode cX12_growsOf 59 = .ok (.iload_n 2, 1) := by decide +kernel
theorem dX12_growsOf_60 : decode cX12_growsOf 60 = .ok (.iconst 3, 1) := by decide +kernel
theorem dX12_growsOf_61 : decode cX12_growsOf 61 = .ok (.idiv, 1) := by decide +kernel
theorem dX12_growsOf_62 : decode cX12_growsOf 62 = .ok (.iadd, 1) := by decide +kernel
theorem dX12_growsOf_63 : decode cX12_growsOf 63 = .ok (.ireturn, 1) := by decide +kernel
theorem dX12_growsOf_64 : decode cX12_growsOf 64 = .ok (.iconst 0, 1) := by decide +kernel
theorem dX12_growsOf_65 : decode cX12_growsOf 65 = .ok (.ireturn, 1) := by decide +kernel
theorem dX12_growsOf_66 : decode cX12_growsOf 66 = .ok (.iload_n 2, 1) := by decide +kernel
theorem dX12_growsOf_67 : decode cX12_growsOf 67 = .ok (.iconst 2, 1) := by decide +kernel
theorem dX12_growsOf_68 : decode cX12_growsOf 68 = .ok (.idiv, 1) := by decide +kernel
theorem dX12_growsOf_69 : decode cX12_growsOf 69 = .ok (.ireturn, 1) := by decide +kernel
theorem dX12_growsOf_70 : decode cX12_growsOf 70 = .ok (.iconst 1, 1) := by decide +kernel
theorem dX12_growsOf_71 : decode cX12_growsOf 71 = .ok (.iload_n 2, 1) := by decide +kernel
theorem dX12_growsOf_72 : decode cX12_growsOf 72 = .ok (.iconst 4, 1) := by decide +kernel
theorem dX12_growsOf_73 : decode cX12_growsOf 73 = .ok (.idiv, 1) := by decide +kernel
theorem dX12_growsOf_74 : decode cX12_growsOf 74 = .ok (.iadd, 1) := by decide +kernel
theorem dX12_growsOf_75 : decode cX12_growsOf 75 = .ok (.ireturn, 1) := by decide +kernel
theorem dX12_growsOf_76 : decode cX12_growsOf 76 = .ok (.iconst 2, 1) := by decide +kernel
theorem dX12_growsOf_77 : decode cX12_growsOf 77 = .ok (.iload_n 2, 1) := by decide +kernel
theorem dX12_growsOf_78 : decode cX12_growsOf 78 = .ok (.iconst 3, 1) := by decide +kernel
theorem dX12_growsOf_79 : decode cX12_growsOf 79 = .ok (.idiv, 1) := by decide +kernel
theorem dX12_growsOf_80 : decode cX12_growsOf 80 = .ok (.iadd, 1) := by decide +kernel
theorem dX12_growsOf_81 : decode cX12_growsOf 81 = .ok (.iconst 2, 1) := by decide +kernel
theorem dX12_growsOf_82 : decode cX12_growsOf 82 = .ok (.idiv, 1) := by decide +kernel
theorem dX12_growsOf_83 : decode cX12_growsOf 83 = .ok (.ireturn, 1) := by decide +kernel
theorem dX12_growsOf_84 : decode cX12_growsOf 84 = .ok (.iconst 3, 1) := by decide +kernel
theorem dX12_growsOf_85 : decode cX12_growsOf 85 = .ok (.ireturn, 1) := by decide +kernel
theorem dX12_growsOf_86 : decode cX12_growsOf 86 = .ok (.iconst 2, 1) := by decide +kernel
theorem dX12_growsOf_87 : decode cX12_growsOf 87 = .ok (.ireturn, 1) := by decide +kernel
theorem dX12_bearsOf_0 : decode cX12_bearsOf 0 = .ok (.aload_n 0, 1) := by decide +kernel
theorem dX12_bearsOf_1 : decode cX12_bearsOf 1 = .ok (.getfield 7, 3) := by decide +kernel
theorem dX12_bearsOf_4 : decode cX12_bearsOf 4 = .ok (.iload_n 1, 1) := by decide +kernel
theorem dX12_bearsOf_5 : decode cX12_bearsOf 5 = .ok (.iaload, 1) := by decide +kernel
theorem dX12_bearsOf_6 : decode cX12_bearsOf 6 = .ok (.tableswitch 53 1 7 #[42, 53, 44, 47, 49, 53, 51], 42) := by decide +kernel
theorem dX12_bearsOf_48 : decode cX12_bearsOf 48 = .ok (.iconst 1, 1) := by decide +kernel
theorem dX12_bearsOf_49 : decode cX12_bearsOf 49 = .ok (.ireturn, 1) := by decide +kernel
theorem dX12_bearsOf_50 : decode cX12_bearsOf 50 = .ok (.bipush 9, 2) := by decide +kernel
theorem dX12_bearsOf_52 : decode cX12_bearsOf 52 = .ok (.ireturn, 1) := by decide +kernel
theorem dX12_bearsOf_53 : decode cX12_bearsOf 53 = .ok (.iconst (-1), 1) := by decide +kernel
theorem dX12_bearsOf_54 : decode cX12_bearsOf 54 = .ok (.ireturn, 1) := by decide +kernel
theorem dX12_bearsOf_55 : decode cX12_bearsOf 55 = .ok (.iconst 2, 1) := by decide +kernel
theorem dX12_bearsOf_56 : decode cX12_bearsOf 56 = .ok (.ireturn, 1) := by decide +kernel
theorem dX12_bearsOf_57 : decode cX12_bearsOf 57 = .ok (.iconst 3, 1) := by decide +kernel
theorem dX12_bearsOf_58 : decode cX12_bearsOf 58 = .ok (.ireturn, 1) := by decide +kernel
theorem dX12_bearsOf_59 : decode cX12_bearsOf 59 = .ok (.iconst 0, 1) := by decide +kernel
theorem dX12_bearsOf_60 : decode cX12_bearsOf 60 = .ok (.ireturn, 1) := by decide +kernel
theorem dX12_turnsOf_0 : decode cX12_turnsOf 0 = .ok (.aload_n 0, 1) := by decide +kernel
theorem dX12_turnsOf_1 : decode cX12_turnsOf 1 = .ok (.getfield 7, 3) := by decide +kernel
theorem dX12_turnsOf_4 : decode cX12_turnsOf 4 = .ok (.iload_n 1, 1) := by decide +kernel
theorem dX12_turnsOf_5 : decode cX12_turnsOf 5 = .ok (.iaload, 1) := by decide +kernel
theorem dX12_turnsOf_6 : decode cX12_turnsOf 6 = .ok (.tableswitch 53 2 7 #[38, 40, 53, 53, 42, 40], 38) := by decide +kernel
theorem dX12_turnsOf_44 : decode cX12_turnsOf 44 = .ok (.iconst 2, 1) := by decide +kernel
theorem dX12_turnsOf_45 : decode cX12_turnsOf 45 = .ok (.ireturn, 1) := by decide +kernel
theorem dX12_turnsOf_46 : decode cX12_turnsOf 46 = .ok (.iconst 3, 1) := by decide +kernel
theorem dX12_turnsOf_47 : decode cX12_turnsOf 47 = .ok (.ireturn, 1) := by decide +kernel
theorem dX12_turnsOf_48 : decode cX12_turnsOf 48 = .ok (.iconst 2, 1) := by decide +kernel
theorem dX12_turnsOf_49 : decode cX12_turnsOf 49 = .ok (.aload_n 0, 1) := by decide +kernel
theorem dX12_turnsOf_50 : decode cX12_turnsOf 50 = .ok (.getfield 13, 3) := by decide +kernel
theorem dX12_turnsOf_53 : decode cX12_turnsOf 53 = .ok (.iload_n 1, 1) := by decide +kernel
theorem dX12_turnsOf_54 : decode cX12_turnsOf 54 = .ok (.iaload, 1) := by decide +kernel
theorem dX12_turnsOf_55 : decode cX12_turnsOf 55 = .ok (.iconst 3, 1) := by decide +kernel
theorem dX12_turnsOf_56 : decode cX12_turnsOf 56 = .ok (.idiv, 1) := by decide +kernel
theorem dX12_turnsOf_57 : decode cX12_turnsOf 57 = .ok (.iadd, 1) := by decide +kernel
theorem dX12_turnsOf_58 : decode cX12_turnsOf 58 = .ok (.ireturn, 1) := by decide +kernel
theorem dX12_turnsOf_59 : decode cX12_turnsOf 59 = .ok (.iconst 1, 1) := by decide +kernel
theorem dX12_turnsOf_60 : decode cX12_turnsOf 60 = .ok (.ireturn, 1) := by decide +kernel
theorem dX12_showsOf_0 : decode cX12_showsOf 0 = .ok (.aload_n 0, 1) := by decide +kernel
theorem dX12_showsOf_1 : decode cX12_showsOf 1 = .ok (.getfield 7, 3) := by decide +kernel
theorem dX12_showsOf_4 : decode cX12_showsOf 4 = .ok (.iload_n 1, 1) := by decide +kernel
theorem dX12_showsOf_5 : decode cX12_showsOf 5 = .ok (.iaload, 1) := by decide +kernel
theorem dX12_showsOf_6 : decode cX12_showsOf 6 = .ok (.iconst 2, 1) := by decide +kernel
theorem dX12_showsOf_7 : decode cX12_showsOf 7 = .ok (.if_icmp .ne 7, 3) := by decide +kernel
theorem dX12_showsOf_10 : decode cX12_showsOf 10 = .ok (.iload_n 2, 1) := by decide +kernel
theorem dX12_showsOf_11 : decode cX12_showsOf 11 = .ok (.goto 21, 3) := by decide +kernel
theorem dX12_showsOf_14 : decode cX12_showsOf 14 = .ok (.aload_n 0, 1) := by decide +kernel
theorem dX12_showsOf_15 : decode cX12_showsOf 15 = .ok (.getfield 7, 3) := by decide +kernel
theorem dX12_showsOf_18 : decode cX12_showsOf 18 = .ok (.iload_n 1, 1) := by decide +kernel
theorem dX12_showsOf_19 : decode cX12_showsOf 19 = .ok (.iaload, 1) := by decide +kernel
theorem dX12_showsOf_20 : decode cX12_showsOf 20 = .ok (.bipush 6, 2) := by decide +kernel
theorem dX12_showsOf_22 : decode cX12_showsOf 22 = .ok (.if_icmp .ne 9, 3) := by decide +kernel
theorem dX12_showsOf_25 : decode cX12_showsOf 25 = .ok (.iload_n 2, 1) := by decide +kernel
theorem dX12_showsOf_26 : decode cX12_showsOf 26 = .ok (.iconst 2, 1) := by decide +kernel
theorem dX12_showsOf_27 : decode cX12_showsOf 27 = .ok (.idiv, 1) := by decide +kernel
theorem dX12_showsOf_28 : decode cX12_showsOf 28 = .ok (.goto 4, 3) := by decide +kernel
theorem dX12_showsOf_31 : decode cX12_showsOf 31 = .ok (.iconst 0, 1) := by decide +kernel
theorem dX12_showsOf_32 : decode cX12_showsOf 32 = .ok (.ireturn, 1) := by decide +kernel
set_option maxRecDepth 20000 in
theorem ggX12_mayTurn_X12_bearsOf : GoodIn wsX12_mayTurn wsX12_bearsOf := goodIn_r _ [7, 8, 9, 10, 11, 12, 13, 14, 15, 16, 17, 18, 19, 20, 21, 22, 23, 24, 25, 26, 27, 28, 29, 30, 31, 32, 33, 34, 35, 36, 37, 38, 39] (by decide +kernel) (by decide +kernel)
set_option maxRecDepth 20000 in
theorem gX12_mayTurn_X12_bearsOf : GoodIn wsX12_mayTurn (wsV RX12 80 RX12 yX12_bearsOf wsX12_bearsOf) := goodIn_app (goodIn_of _ (by decide +kernel)) ggX12_mayTurn_X12_bearsOf
theorem dX12_mayTurn_0 : decode cX12_mayTurn 0 = .ok (.iload_n 1, 1) := by decide +kernel
theorem dX12_mayTurn_1 : decode cX12_mayTurn 1 = .ok (.iload_n 2, 1) := by decide +kernel
theorem dX12_mayTurn_2 : decode cX12_mayTurn 2 = .ok (.if_icmp .eq 31, 3) := by decide +kernel
theorem dX12_mayTurn_5 : decode cX12_mayTurn 5 = .ok (.aload_n 0, 1) := by decide +kernel
theorem dX12_mayTurn_6 : decode cX12_mayTurn 6 = .ok (.getfield 19, 3) := by decide +kernel
theorem dX12_mayTurn_9 : decode cX12_mayTurn 9 = .ok (.bipush 7, 2) := by decide +kernel
theorem dX12_mayTurn_11 : decode cX12_mayTurn 11 = .ok (.iload_n 1, 1) := by decide +kernel
theorem dX12_mayTurn_12 : decode cX12_mayTurn 12 = .ok (.imul, 1) := by decide +kernel
theorem dX12_mayTurn_13 : decode cX12_mayTurn 13 = .ok (.iload_n 2, 1) := by decide +kernel
theorem dX12_mayTurn_14 : decode cX12_mayTurn 14 = .ok (.iadd, 1) := by decide +kernel
theorem dX12_mayTurn_15 : decode cX12_mayTurn 15 = .ok (.iaload, 1) := by decide +kernel
theorem dX12_mayTurn_16 : decode cX12_mayTurn 16 = .ok (.aload_n 0, 1) := by decide +kernel
theorem dX12_mayTurn_17 : decode cX12_mayTurn 17 = .ok (.iload_n 1, 1) := by decide +kernel
theorem dX12_mayTurn_18 : decode cX12_mayTurn 18 = .ok (.invokevirtual 80, 3) := by decide +kernel
theorem dX12_mayTurn_21 : decode cX12_mayTurn 21 = .ok (.aload_n 0, 1) := by decide +kernel
theorem dX12_mayTurn_22 : decode cX12_mayTurn 22 = .ok (.getfield 84, 3) := by decide +kernel
theorem dX12_mayTurn_25 : decode cX12_mayTurn 25 = .ok (.iadd, 1) := by decide +kernel
theorem dX12_mayTurn_26 : decode cX12_mayTurn 26 = .ok (.if_icmp .gt 7, 3) := by decide +kernel
theorem dX12_mayTurn_29 : decode cX12_mayTurn 29 = .ok (.iconst 1, 1) := by decide +kernel
theorem dX12_mayTurn_30 : decode cX12_mayTurn 30 = .ok (.goto 4, 3) := by decide +kernel
theorem dX12_mayTurn_33 : decode cX12_mayTurn 33 = .ok (.iconst 0, 1) := by decide +kernel
theorem dX12_mayTurn_34 : decode cX12_mayTurn 34 = .ok (.ireturn, 1) := by decide +kernel
set_option maxRecDepth 20000 in
theorem ggX12_grow_X12_growsOf : GoodIn wsX12_grow wsX12_growsOf := goodIn_r _ [6, 7, 8, 12, 13, 14, 15, 16, 17, 18, 19, 20, 21, 22, 23, 24, 25, 26, 27, 28, 29, 30, 31, 32, 33, 34, 35, 36, 37, 38, 39, 40, 41, 42] (by decide +kernel) (by decide +kernel)
set_option maxRecDepth 20000 in
theorem gX12_grow_X12_growsOf : GoodIn wsX12_grow (wsV RX12 87 RX12 yX12_growsOf wsX12_growsOf) := goodIn_app (goodIn_of _ (by decide +kernel)) ggX12_grow_X12_growsOf
set_option maxRecDepth 20000 in
theorem ggX12_grow_X12_lesser : GoodIn wsX12_grow wsX12_lesser := goodIn_r _ [11] (by decide +kernel) (by decide +kernel)
set_option maxRecDepth 20000 in
theorem gX12_grow_X12_lesser : GoodIn wsX12_grow (va_wsS RX12 90 yX12_lesser wsX12_lesser) := goodIn_app (goodIn_of _ (by decide +kernel)) ggX12_grow_X12_lesser
theorem dX12_grow_0 : decode cX12_grow 0 = .ok (.aload_n 0, 1) := by decide +kernel
theorem dX12_grow_1 : decode cX12_grow 1 = .ok (.getfield 19, 3) := by decide +kernel
theorem dX12_grow_4 : decode cX12_grow 4 = .ok (.bipush 7, 2) := by decide +kernel
theorem dX12_grow_6 : decode cX12_grow 6 = .ok (.iload_n 1, 1) := by decide +kernel
theorem dX12_grow_7 : decode cX12_grow 7 = .ok (.imul, 1) := by decide +kernel
theorem dX12_grow_8 : decode cX12_grow 8 = .ok (.iload_n 2, 1) := by decide +kernel
theorem dX12_grow_9 : decode cX12_grow 9 = .ok (.iadd, 1) := by decide +kernel
theorem dX12_grow_10 : decode cX12_grow 10 = .ok (.bipush 9, 2) := by decide +kernel
theorem dX12_grow_12 : decode cX12_grow 12 = .ok (.aload_n 0, 1) := by decide +kernel
theorem dX12_grow_13 : decode cX12_grow 13 = .ok (.getfield 19, 3) := by decide +kernel
theorem dX12_grow_16 : decode cX12_grow 16 = .ok (.bipush 7, 2) := by decide +kernel
theorem dX12_grow_18 : decode cX12_grow 18 = .ok (.iload_n 1, 1) := by decide +kernel
theorem dX12_grow_19 : decode cX12_grow 19 = .ok (.imul, 1) := by decide +kernel
theorem dX12_grow_20 : decode cX12_grow 20 = .ok (.iload_n 2, 1) := by decide +kernel
theorem dX12_grow_21 : decode cX12_grow 21 = .ok (.iadd, 1) := by decide +kernel
theorem dX12_grow_22 : decode cX12_grow 22 = .ok (.iaload, 1) := by decide +kernel
theorem dX12_grow_23 : decode cX12_grow 23 = .ok (.aload_n 0, 1) := by decide +kernel
theorem dX12_grow_24 : decode cX12_grow 24 = .ok (.iload_n 1, 1) := by decide +kernel
theorem dX12_grow_25 : decode cX12_grow 25 = .ok (.invokevirtual 87, 3) := by decide +kernel
theorem dX12_grow_28 : decode cX12_grow 28 = .ok (.iadd, 1) := by decide +kernel
theorem dX12_grow_29 : decode cX12_grow 29 = .ok (.invokestatic 90, 3) := by decide +kernel
theorem dX12_grow_32 : decode cX12_grow 32 = .ok (.iastore, 1) := by decide +kernel
theorem dX12_grow_33 : decode cX12_grow 33 = .ok (.return_, 1) := by decide +kernel
set_option maxRecDepth 20000 in
theorem ggX12_turnCards_X12_turnsOf : GoodIn wsX12_turnCards wsX12_turnsOf := goodIn_r _ [6, 7, 8, 21, 22, 23, 24, 25, 26, 27, 28, 29, 30, 31, 32, 33, 34, 35, 36, 37, 38, 39, 40, 41, 42, 43, 44, 45, 46, 47, 48, 49, 50, 51] (by decide +kernel) (by decide +kernel)
set_option maxRecDepth 20000 in
theorem gX12_turnCards_X12_turnsOf : GoodIn wsX12_turnCards (wsV RX12 94 RX12 yX12_turnsOf wsX12_turnsOf) := goodIn_app (goodIn_of _ (by decide +kernel)) ggX12_turnCards_X12_turnsOf
set_option maxRecDepth 20000 in
theorem ggX12_turnCards_X12_lesser : GoodIn wsX12_turnCards wsX12_lesser := goodIn_r _ [11] (by decide +kernel) (by decide +kernel)
set_option maxRecDepth 20000 in
theorem gX12_turnCards_X12_lesser : GoodIn wsX12_turnCards (va_wsS RX12 90 yX12_lesser wsX12_lesser) := goodIn_app (goodIn_of _ (by decide +kernel)) ggX12_turnCards_X12_lesser
set_option maxRecDepth 20000 in
theorem ggX12_turnCards_X12_grow : GoodIn wsX12_turnCards wsX12_grow := goodIn_r _ [15, 16, 17, 18, 19, 5, 20, 8, 7, 9, 10, 11, 21, 22, 23, 24, 25, 26, 27, 28, 29, 30, 31, 32, 33, 34, 35, 36, 37, 38, 39, 40, 41, 42, 43, 44, 45, 46, 47, 48, 49, 50, 51] (by decide +kernel) (by decide +kernel)
set_option maxRecDepth 20000 in
theorem gX12_turnCards_X12_grow : GoodIn wsX12_turnCards (wsV RX12 97 RX12 yX12_grow wsX12_grow) := goodIn_app (goodIn_of _ (by decide +kernel)) ggX12_turnCards_X12_grow
theorem dX12_turnCards_0 : decode cX12_turnCards 0 = .ok (.aload_n 0, 1) := by decide +kernel
theorem dX12_turnCards_1 : decode cX12_turnCards 1 = .ok (.getfield 16, 3) := by decide +kernel
theorem dX12_turnCards_4 : decode cX12_turnCards 4 = .ok (.iload_n 2, 1) := by decide +kernel
theorem dX12_turnCards_5 : decode cX12_turnCards 5 = .ok (.bipush 9, 2) := by decide +kernel
theorem dX12_turnCards_7 : decode cX12_turnCards 7 = .ok (.aload_n 0, 1) := by decide +kernel
theorem dX12_turnCards_8 : decode cX12_turnCards 8 = .ok (.getfield 16, 3) := by decide +kernel
theorem dX12_turnCards_11 : decode cX12_turnCards 11 = .ok (.iload_n 2, 1) := by decide +kernel
theorem dX12_turnCards_12 : decode cX12_turnCards 12 = .ok (.iaload, 1) := by decide +kernel
theorem dX12_turnCards_13 : decode cX12_turnCards 13 = .ok (.aload_n 0, 1) := by decide +kernel
theorem dX12_turnCards_14 : decode cX12_turnCards 14 = .ok (.iload_n 1, 1) := by decide +kernel
theorem dX12_turnCards_15 : decode cX12_turnCards 15 = .ok (.invokevirtual 94, 3) := by decide +kernel
theorem dX12_turnCards_18 : decode cX12_turnCards 18 = .ok (.iadd, 1) := by decide +kernel
theorem dX12_turnCards_19 : decode cX12_turnCards 19 = .ok (.invokestatic 90, 3) := by decide +kernel
theorem dX12_turnCards_22 : decode cX12_turnCards 22 = .ok (.iastore, 1) := by decide +kernel
theorem dX12_turnCards_23 : decode cX12_turnCards 23 = .ok (.aload_n 0, 1) := by decide +kernel
theorem dX12_turnCards_24 : decode cX12_turnCards 24 = .ok (.iload_n 1, 1) := by decide +kernel
theorem dX12_turnCards_25 : decode cX12_turnCards 25 = .ok (.iload_n 2, 1) := by decide +kernel
theorem dX12_turnCards_26 : decode cX12_turnCards 26 = .ok (.invokevirtual 97, 3) := by decide +kernel
theorem dX12_turnCards_29 : decode cX12_turnCards 29 = .ok (.return_, 1) := by decide +kernel
set_option maxRecDepth 20000 in
theorem ggX12_canTurn_X12_mayTurn : GoodIn wsX12_canTurn wsX12_mayTurn := goodIn_r _ [6, 7, 8, 9, 10, 11, 5, 12, 13, 14, 15, 16, 17, 18, 19, 20, 21, 22, 23, 24, 25, 26, 27, 28, 29, 30, 31, 32, 33, 34, 35, 36, 37, 38, 39, 40, 41, 42, 43, 44] (by decide +kernel) (by decide +kernel)
set_option maxRecDepth 20000 in
theorem gX12_canTurn_X12_mayTurn : GoodIn wsX12_canTurn (wsV RX12 101 RX12 yX12_mayTurn wsX12_mayTurn) := goodIn_app (goodIn_of _ (by decide +kernel)) ggX12_canTurn_X12_mayTurn
theorem dX12_canTurn_0 : decode cX12_canTurn 0 = .ok (.aload_n 0, 1) := by decide +kernel
theorem dX12_canTurn_1 : decode cX12_canTurn 1 = .ok (.iload_n 1, 1) := by decide +kernel
theorem dX12_canTurn_2 : decode cX12_canTurn 2 = .ok (.iload_n 2, 1) := by decide +kernel
theorem dX12_canTurn_3 : decode cX12_canTurn 3 = .ok (.invokevirtual 101, 3) := by decide +kernel
theorem dX12_canTurn_6 : decode cX12_canTurn 6 = .ok (.ifCond .eq 18, 3) := by decide +kernel
theorem dX12_canTurn_9 : decode cX12_canTurn 9 = .ok (.aload_n 0, 1) := by decide +kernel
theorem dX12_canTurn_10 : decode cX12_canTurn 10 = .ok (.getfield 16, 3) := by decide +kernel
theorem dX12_canTurn_13 : decode cX12_canTurn 13 = .ok (.iload_n 2, 1) := by decide +kernel
theorem dX12_canTurn_14 : decode cX12_canTurn 14 = .ok (.iaload, 1) := by decide +kernel
theorem dX12_canTurn_15 : decode cX12_canTurn 15 = .ok (.bipush 9, 2) := by decide +kernel
theorem dX12_canTurn_17 : decode cX12_canTurn 17 = .ok (.if_icmp .ge 7, 3) := by decide +kernel
theorem dX12_canTurn_20 : decode cX12_canTurn 20 = .ok (.iconst 1, 1) := by decide +kernel
theorem dX12_canTurn_21 : decode cX12_canTurn 21 = .ok (.goto 4, 3) := by decide +kernel
theorem dX12_canTurn_24 : decode cX12_canTurn 24 = .ok (.iconst 0, 1) := by decide +kernel
theorem dX12_canTurn_25 : decode cX12_canTurn 25 = .ok (.ireturn, 1) := by decide +kernel
theorem dX12_here_0 : decode cX12_here 0 = .ok (.aload_n 0, 1) := by decide +kernel
theorem dX12_here_1 : decode cX12_here 1 = .ok (.getfield 105, 3) := by decide +kernel
theorem dX12_here_4 : decode cX12_here 4 = .ok (.aload_n 0, 1) := by decide +kernel
theorem dX12_here_5 : decode cX12_here 5 = .ok (.getfield 34, 3) := by decide +kernel
theorem dX12_here_8 : decode cX12_here 8 = .ok (.aload_n 0, 1) := by decide +kernel
theorem dX12_here_9 : decode cX12_here 9 = .ok (.getfield 108, 3) := by decide +kernel
theorem dX12_here_12 : decode cX12_here 12 = .ok (.iaload, 1) := by decide +kernel
theorem dX12_here_13 : decode cX12_here 13 = .ok (.if_icmp .ge 24, 3) := by decide +kernel
theorem dX12_here_16 : decode cX12_here 16 = .ok (.aload_n 0, 1) := by decide +kernel
theorem dX12_here_17 : decode cX12_here 17 = .ok (.getfield 37, 3) := by decide +kernel
theorem dX12_here_20 : decode cX12_here 20 = .ok (.bipush 100, 2) := by decide +kernel
theorem dX12_here_22 : decode cX12_here 22 = .ok (.aload_n 0, 1) := by decide +kernel
theorem dX12_here_23 : decode cX12_here 23 = .ok (.getfield 108, 3) := by decide +kernel
theorem dX12_here_26 : decode cX12_here 26 = .ok (.imul, 1) := by decide +kernel
theorem dX12_here_27 : decode cX12_here 27 = .ok (.aload_n 0, 1) := by decide +kernel
theorem dX12_here_28 : decode cX12_here 28 = .ok (.getfield 105, 3) := by decide +kernel
theorem dX12_here_31 : decode cX12_here 31 = .ok (.iadd, 1) := by decide +kernel
theorem dX12_here_32 : decode cX12_here 32 = .ok (.laload, 1) := by decide +kernel
theorem dX12_here_33 : decode cX12_here 33 = .ok (.l2i, 1) := by decide +kernel
theorem dX12_here_34 : decode cX12_here 34 = .ok (.goto 6, 3) := by decide +kernel
theorem dX12_here_37 : decode cX12_here 37 = .ok (.sipush (-999), 3) := by decide +kernel
theorem dX12_here_40 : decode cX12_here 40 = .ok (.ireturn, 1) := by decide +kernel
set_option maxRecDepth 20000 in
theorem ggX12_readDigit_X12_here : GoodIn wsX12_readDigit wsX12_here := goodIn_r _ [9, 4, 10, 11, 12, 16, 17, 18, 19, 20, 21, 22, 23, 24, 25, 26, 27, 28, 29, 30, 31, 32, 33, 34, 35, 36, 37, 38, 39, 40, 41, 42, 43, 44, 45, 46] (by decide +kernel) (by decide +kernel)
set_option maxRecDepth 20000 in
theorem gX12_readDigit_X12_here : GoodIn wsX12_readDigit (wsV RX12 115 RX12 yX12_here wsX12_here) := goodIn_app (goodIn_of _ (by decide +kernel)) ggX12_readDigit_X12_here
set_option maxRecDepth 20000 in
theorem ggX12_readDigit_X12_in : GoodIn wsX12_readDigit wsX12_in := goodIn_r _ [15] (by decide +kernel) (by decide +kernel)
set_option maxRecDepth 20000 in
theorem gX12_readDigit_X12_in : GoodIn wsX12_readDigit (va_wsS RX12 72 yX12_in wsX12_in) := goodIn_app (goodIn_of _ (by decide +kernel)) ggX12_readDigit_X12_in
theorem dX12_readDigit_0 : decode cX12_readDigit 0 = .ok (.aload_n 0, 1) := by decide +kernel
theorem dX12_readDigit_1 : decode cX12_readDigit 1 = .ok (.aload_n 0, 1) := by decide +kernel
theorem dX12_readDigit_2 : decode cX12_readDigit 2 = .ok (.getfield 111, 3) := by decide +kernel
theorem dX12_readDigit_5 : decode cX12_readDigit 5 = .ok (.ifCond .ne 20, 3) := by decide +kernel
theorem dX12_readDigit_8 : decode cX12_readDigit 8 = .ok (.aload_n 0, 1) := by decide +kernel
theorem dX12_readDigit_9 : decode cX12_readDigit 9 = .ok (.invokevirtual 115, 3) := by decide +kernel
theorem dX12_readDigit_12 : decode cX12_readDigit 12 = .ok (.i2l, 1) := by decide +kernel
theorem dX12_readDigit_13 : decode cX12_readDigit 13 = .ok (.ldc2_w 119, 3) := by decide +kernel
theorem dX12_readDigit_16 : decode cX12_readDigit 16 = .ok (.ldc2_w 121, 3) := by decide +kernel
theorem dX12_readDigit_19 : decode cX12_readDigit 19 = .ok (.invokestatic 72, 3) := by decide +kernel
theorem dX12_readDigit_22 : decode cX12_readDigit 22 = .ok (.ifCond .ne 7, 3) := by decide +kernel
theorem dX12_readDigit_25 : decode cX12_readDigit 25 = .ok (.iconst 1, 1) := by decide +kernel
theorem dX12_readDigit_26 : decode cX12_readDigit 26 = .ok (.goto 4, 3) := by decide +kernel
theorem dX12_readDigit_29 : decode cX12_readDigit 29 = .ok (.iconst 0, 1) := by decide +kernel
theorem dX12_readDigit_30 : decode cX12_readDigit 30 = .ok (.putfield 111, 3) := by decide +kernel
theorem dX12_readDigit_33 : decode cX12_readDigit 33 = .ok (.aload_n 0, 1) := by decide +kernel
theorem dX12_readDigit_34 : decode cX12_readDigit 34 = .ok (.getfield 111, 3) := by decide +kernel
theorem dX12_readDigit_37 : decode cX12_readDigit 37 = .ok (.ifCond .eq 7, 3) := by decide +kernel
theorem dX12_readDigit_40 : decode cX12_readDigit 40 = .ok (.iconst 0, 1) := by decide +kernel
theorem dX12_readDigit_41 : decode cX12_readDigit 41 = .ok (.goto 10, 3) := by decide +kernel
theorem dX12_readDigit_44 : decode cX12_readDigit 44 = .ok (.aload_n 0, 1) := by decide +kernel
theorem dX12_readDigit_45 : decode cX12_readDigit 45 = .ok (.invokevirtual 115, 3) := by decide +kernel
theorem dX12_readDigit_48 : decode cX12_readDigit 48 = .ok (.bipush 48, 2) := by decide +kernel
theorem dX12_readDigit_50 : decode cX12_readDigit 50 = .ok (.isub, 1) := by decide +kernel
theorem dX12_readDigit_51 : decode cX12_readDigit 51 = .ok (.istore_n 1, 1) := by decide +kernel
theorem dX12_readDigit_52 : decode cX12_readDigit 52 = .ok (.aload_n 0, 1) := by decide +kernel
theorem dX12_readDigit_53 : decode cX12_readDigit 53 = .ok (.dup, 1) := by decide +kernel
theorem dX12_readDigit_54 : decode cX12_readDigit 54 = .ok (.getfield 105, 3) := by decide +kernel
theorem dX12_readDigit_57 : decode cX12_readDigit 57 = .ok (.aload_n 0, 1) := by decide +kernel
theorem dX12_readDigit_58 : decode cX12_readDigit 58 = .ok (.getfield 111, 3) := by decide +kernel
theorem dX12_readDigit_61 : decode cX12_readDigit 61 = .ok (.ifCond .eq 7, 3) := by decide +kernel
theorem dX12_readDigit_64 : decode cX12_readDigit 64 = .ok (.iconst 0, 1) := by decide +kernel
theorem dX12_readDigit_65 : decode cX12_readDigit 65 = .ok (.goto 4, 3) := by decide +kernel
theorem dX12_readDigit_68 : decode cX12_readDigit 68 = .ok (.iconst 1, 1) := by decide +kernel
theorem dX12_readDigit_69 : decode cX12_readDigit 69 = .ok (.iadd, 1) := by decide +kernel
theorem dX12_readDigit_70 : decode cX12_readDigit 70 = .ok (.putfield 105, 3) := by decide +kernel
theorem dX12_readDigit_73 : decode cX12_readDigit 73 = .ok (.iload_n 1, 1) := by decide +kernel
theorem dX12_readDigit_74 : decode cX12_readDigit 74 = .ok (.ireturn, 1) := by decide +kernel
theorem dX12_isLetter_0 : decode cX12_isLetter 0 = .ok (.iload_n 0, 1) := by decide +kernel
theorem dX12_isLetter_1 : decode cX12_isLetter 1 = .ok (.bipush 112, 2) := by decide +kernel
theorem dX12_isLetter_3 : decode cX12_isLetter 3 = .ok (.if_icmp .eq 33, 3) := by decide +kernel
theorem dX12_isLetter_6 : decode cX12_isLetter 6 = .ok (.iload_n 0, 1) := by decide +kernel
theorem dX12_isLetter_7 : decode cX12_isLetter 7 = .ok (.bipush 102, 2) := by decide +kernel
theorem dX12_isLetter_9 : decode cX12_isLetter 9 = .ok (.if_icmp .eq 27, 3) := by decide +kernel
theorem dX12_isLetter_12 : decode cX12_isLetter 12 = .ok (.iload_n 0, 1) := by decide +kernel
theorem dX12_isLetter_13 : decode cX12_isLetter 13 = .ok (.bipush 115, 2) := by decide +kernel
theorem dX12_isLetter_15 : decode cX12_isLetter 15 = .ok (.if_icmp .eq 21, 3) := by decide +kernel
theorem dX12_isLetter_18 : decode cX12_isLetter 18 = .ok (.iload_n 0, 1) := by decide +kernel
theorem dX12_isLetter_19 : decode cX12_isLetter 19 = .ok (.bipush 116, 2) := by decide +kernel
theorem dX12_isLetter_21 : decode cX12_isLetter 21 = .ok (.if_icmp .eq 15, 3) := by decide +kernel
theorem dX12_isLetter_24 : decode cX12_isLetter 24 = .ok (.iload_n 0, 1) := by decide +kernel
theorem dX12_isLetter_25 : decode cX12_isLetter 25 = .ok (.bipush 108, 2) := by decide +kernel
theorem dX12_isLetter_27 : decode cX12_isLetter 27 = .ok (.if_icmp .eq 9, 3) := by decide +kernel
theorem dX12_isLetter_30 : decode cX12_isLetter 30 = .ok (.iload_n 0, 1) := by decide +kernel
theorem dX12_isLetter_31 : decode cX12_isLetter 31 = .ok (.bipush 100, 2) := by decide +kernel
theorem dX12_isLetter_33 : decode cX12_isLetter 33 = .ok (.if_icmp .ne 7, 3) := by decide +kernel
theorem dX12_isLetter_36 : decode cX12_isLetter 36 = .ok (.iconst 1, 1) := by decide +kernel
theorem dX12_isLetter_37 : decode cX12_isLetter 37 = .ok (.goto 4, 3) := by decide +kernel
theorem dX12_isLetter_40 : decode cX12_isLetter 40 = .ok (.iconst 0, 1) := by decide +kernel
theorem dX12_isLetter_41 : decode cX12_isLetter 41 = .ok (.ireturn, 1) := by decide +kernel
set_option maxRecDepth 20000 in
theorem ggX12_readStatement_X12_here : GoodIn wsX12_readStatement wsX12_here := goodIn_r _ [11, 3, 12, 13, 14, 27, 28, 29, 30, 31, 32, 33, 34, 35, 36, 37, 38, 39, 40, 41, 42, 43, 44, 45, 46, 47, 48, 49, 50, 51, 52, 53, 54, 55, 56, 57] (by decide +kernel) (by decide +kernel)
set_option maxRecDepth 20000 in
theorem gX12_readStatement_X12_here : GoodIn wsX12_readStatement (wsV RX12 115 RX12 yX12_here wsX12_here) := goodIn_app (goodIn_of _ (by decide +kernel)) ggX12_readStatement_X12_here
set_option maxRecDepth 20000 in
theorem ggX12_readStatement_X12_isLetter : GoodIn wsX12_readStatement wsX12_isLetter := goodIn_r _ [17] (by decide +kernel) (by decide +kernel)
set_option maxRecDepth 20000 in
theorem gX12_readStatement_X12_isLetter : GoodIn wsX12_readStatement (va_wsS RX12 126 yX12_isLetter wsX12_isLetter) := goodIn_app (goodIn_of _ (by decide +kernel)) ggX12_readStatement_X12_isLetter
set_option maxRecDepth 20000 in
theorem ggX12_readStatement_X12_readDigit : GoodIn wsX12_readStatement wsX12_readDigit := goodIn_r _ [21, 5, 22, 23, 3, 7, 8, 9, 10, 11, 12, 13, 14, 24, 25, 26, 27, 28, 29, 30, 31, 32, 33, 34, 35, 36, 37, 38, 39, 40, 41, 42, 43, 44, 45, 46, 47, 48, 49, 50, 51, 52, 53, 54, 55, 56, 57] (by decide +kernel) (by decide +kernel)
set_option maxRecDepth 20000 in
theorem gX12_readStatement_X12_readDigit : GoodIn wsX12_readStatement (wsV RX12 129 RX12 yX12_readDigit wsX12_readDigit) := goodIn_app (goodIn_of _ (by decide +kernel)) ggX12_readStatement_X12_readDigit
theorem dX12_readStatement_0 : decode cX12_readStatement 0 = .ok (.aload_n 0, 1) := by decide +kernel
theorem dX12_readStatement_1 : decode cX12_readStatement 1 = .ok (.getfield 123, 3) := by decide +kernel
theorem dX12_readStatement_4 : decode cX12_readStatement 4 = .ok (.istore_n 1, 1) := by decide +kernel
theorem dX12_readStatement_5 : decode cX12_readStatement 5 = .ok (.aload_n 0, 1) := by decide +kernel
theorem dX12_readStatement_6 : decode cX12_readStatement 6 = .ok (.invokevirtual 115, 3) := by decide +kernel
theorem dX12_readStatement_9 : decode cX12_readStatement 9 = .ok (.istore_n 2, 1) := by decide +kernel
theorem dX12_readStatement_10 : decode cX12_readStatement 10 = .ok (.aload_n 0, 1) := by decide +kernel
theorem dX12_readStatement_11 : decode cX12_readStatement 11 = .ok (.getfield 41, 3) := by decide +kernel
theorem dX12_readStatement_14 : decode cX12_readStatement 14 = .ok (.iload_n 1, 1) := by decide +kernel
theorem dX12_readStatement_15 : decode cX12_readStatement 15 = .ok (.aload_n 0, 1) := by decide +kernel
theorem dX12_readStatement_16 : decode cX12_readStatement 16 = .ok (.getfield 105, 3) := by decide +kernel
theorem dX12_readStatement_19 : decode cX12_readStatement 19 = .ok (.iastore, 1) := by decide +kernel
theorem dX12_readStatement_20 : decode cX12_readStatement 20 = .ok (.aload_n 0, 1) := by decide +kernel
theorem dX12_readStatement_21 : decode cX12_readStatement 21 = .ok (.getfield 44, 3) := by decide +kernel
theorem dX12_readStatement_24 : decode cX12_readStatement 24 = .ok (.iload_n 1, 1) := by decide +kernel
theorem dX12_readStatement_25 : decode cX12_readStatement 25 = .ok (.iload_n 2, 1) := by decide +kernel
theorem dX12_readStatement_26 : decode cX12_readStatement 26 = .ok (.iastore, 1) := by decide +kernel
theorem dX12_readStatement_27 : decode cX12_readStatement 27 = .ok (.aload_n 0, 1) := by decide +kernel
theorem dX12_readStatement_28 : decode cX12_readStatement 28 = .ok (.aload_n 0, 1) := by decide +kernel
theorem dX12_readStatement_29 : decode cX12_readStatement 29 = .ok (.getfield 111, 3) := by decide +kernel
theorem dX12_readStatement_32 : decode cX12_readStatement 32 = .ok (.ifCond .ne 10, 3) := by decide +kernel
theorem dX12_readStatement_35 : decode cX12_readStatement 35 = .ok (.iload_n 2, 1) := by decide +kernel
theorem dX12_readStatement_36 : decode cX12_readStatement 36 = .ok (.invokestatic 126, 3) := by decide +kernel
theorem dX12_readStatement_39 : decode cX12_readStatement 39 = .ok (.ifCond .ne 7, 3) := by decide +kernel
theorem dX12_readStatement_42 : decode cX12_readStatement 42 = .ok (.iconst 1, 1) := by decide +kernel
theorem dX12_readStatement_43 : decode cX12_readStatement 43 = .ok (.goto 4, 3) := by decide +kernel
theorem dX12_readStatement_46 : decode cX12_readStatement 46 = .ok (.iconst 0, 1) := by decide +kernel
theorem dX12_readStatement_47 : decode cX12_readStatement 47 = .ok (.putfield 111, 3) := by decide +kernel
theorem dX12_readStatement_50 : decode cX12_readStatement 50 = .ok (.aload_n 0, 1) := by decide +kernel
theorem dX12_readStatement_51 : decode cX12_readStatement 51 = .ok (.dup, 1) := by decide +kernel
theorem dX12_readStatement_52 : decode cX12_readStatement 52 = .ok (.getfield 105, 3) := by decide +kernel
theorem dX12_readStatement_55 : decode cX12_readStatement 55 = .ok (.aload_n 0, 1) := by decide +kernel
theorem dX12_readStatement_56 : decode cX12_readStatement 56 = .ok (.getfield 111, 3) := by decide +kernel
theorem dX12_readStatement_59 : decode cX12_readStatement 59 = .ok (.ifCond .eq 7, 3) := by decide +kernel
theorem dX12_readStatement_62 : decode cX12_readStatement 62 = .ok (.iconst 0, 1) := by decide +kernel
theorem dX12_readStatement_63 : decode cX12_readStatement 63 = .ok (.goto 4, 3) := by decide +kernel
theorem dX12_readStatement_66 : decode cX12_readStatement 66 = .ok (.iconst 1, 1) := by decide +kernel
theorem dX12_readStatement_67 : decode cX12_readStatement 67 = .ok (.iadd, 1) := by decide +kernel
theorem dX12_readStatement_68 : decode cX12_readStatement 68 = .ok (.putfield 105, 3) := by decide +kernel
theorem dX12_readStatement_71 : decode cX12_readStatement 71 = .ok (.iload_n 2, 1) := by decide +kernel
theorem dX12_readStatement_72 : decode cX12_readStatement 72 = .ok (.bipush 102, 2) := by decide +kernel
theorem dX12_readStatement_74 : decode cX12_readStatement 74 = .ok (.if_icmp .ne 7, 3) := by decide +kernel
theorem dX12_readStatement_77 : decode cX12_readStatement 77 = .ok (.iconst 3, 1) := by decide +kernel
theorem dX12_readStatement_78 : decode cX12_readStatement 78 = .ok (.goto 14, 3) := by decide +kernel
theorem dX12_readStatement_81 : decode cX12_readStatement 81 = .ok (.iload_n 2, 1) := by decide +kernel
theorem dX12_readStatement_82 : decode cX12_readStatement 82 = .ok (.bipush 108, 2) := by decide +kernel
theorem dX12_readStatement_84 : decode cX12_readStatement 84 = .ok (.if_icmp .ne 7, 3) := by decide +kernel
theorem dX12_readStatement_87 : decode cX12_readStatement 87 = .ok (.iconst 1, 1) := by decide +kernel
theorem dX12_readStatement_88 : decode cX12_readStatement 88 = .ok (.goto 4, 3) := by decide +kernel
theorem dX12_readStatement_91 : decode cX12_readStatement 91 = .ok (.iconst 2, 1) := by decide +kernel
theorem dX12_readStatement_92 : decode cX12_readStatement 92 = .ok (.istore_n 3, 1) := by decide +kernel
theorem dX12_readStatement_93 : decode cX12_readStatement 93 = .ok (.iconst 0, 1) := by decide +kernel
theorem dX12_readStatement_94 : decode cX12_readStatement 94 = .ok (.istore 4, 2) := by decide +kernel
theorem dX12_readStatement_96 : decode cX12_readStatement 96 = .ok (.iload 4, 2) := by decide +kernel
theorem dX12_readStatement_98 : decode cX12_readStatement 98 = .ok (.iload_n 3, 1) := by decide +kernel
theorem dX12_readStatement_99 : decode cX12_readStatement 99 = .ok (.if_icmp .ge 31, 3) := by decide +kernel
theorem dX12_readStatement_102 : decode cX12_readStatement 102 = .ok (.aload_n 0, 1) := by decide +kernel
theorem dX12_readStatement_103 : decode cX12_readStatement 103 = .ok (.getfield 111, 3) := by decide +kernel
theorem dX12_readStatement_106 : decode cX12_readStatement 106 = .ok (.ifCond .ne 24, 3) := by decide +kernel
theorem dX12_readStatement_109 : decode cX12_readStatement 109 = .ok (.aload_n 0, 1) := by decide +kernel
theorem dX12_readStatement_110 : decode cX12_readStatement 110 = .ok (.getfield 47, 3) := by decide +kernel
theorem dX12_readStatement_113 : decode cX12_readStatement 113 = .ok (.iconst 3, 1) := by decide +kernel
theorem dX12_readStatement_114 : decode cX12_readStatement 114 = .ok (.iload_n 1, 1) := by decide +kernel
theorem dX12_readStatement_115 : decode cX12_readStatement 115 = .ok (.imul, 1) := by decide +kernel
theorem dX12_readStatement_116 : decode cX12_readStatement 116 = .ok (.iload 4, 2) := by decide +kernel
theorem dX12_readStatement_118 : decode cX12_readStatement 118 = .ok (.iadd, 1) := by decide +kernel
theorem dX12_readStatement_119 : decode cX12_readStatement 119 = .ok (.aload_n 0, 1) := by decide +kernel
theorem dX12_readStatement_120 : decode cX12_readStatement 120 = .ok (.invokevirtual 129, 3) := by decide +kernel
theorem dX12_readStatement_123 : decode cX12_readStatement 123 = .ok (.iastore, 1) := by decide +kernel
theorem dX12_readStatement_124 : decode cX12_readStatement 124 = .ok (.iinc 4 1, 3) := by decide +kernel
theorem dX12_readStatement_127 : decode cX12_readStatement 127 = .ok (.goto (-31), 3) := by decide +kernel
theorem dX12_readStatement_130 : decode cX12_readStatement 130 = .ok (.aload_n 0, 1) := by decide +kernel
theorem dX12_readStatement_131 : decode cX12_readStatement 131 = .ok (.aload_n 0, 1) := by decide +kernel
theorem dX12_readStatement_132 : decode cX12_readStatement 132 = .ok (.getfield 111, 3) := by decide +kernel
theorem dX12_readStatement_135 : decode cX12_readStatement 135 = .ok (.ifCond .ne 12, 3) := by decide +kernel
theorem dX12_readStatement_138 : decode cX12_readStatement 138 = .ok (.aload_n 0, 1) := by decide +kernel
theorem dX12_readStatement_139 : decode cX12_readStatement 139 = .ok (.invokevirtual 115, 3) := by decide +kernel
theorem dX12_readStatement_142 : decode cX12_readStatement 142 = .ok (.bipush 59, 2) := by decide +kernel
theorem dX12_readStatement_144 : decode cX12_readStatement 144 = .ok (.if_icmp .eq 7, 3) := by decide +kernel
theorem dX12_readStatement_147 : decode cX12_readStatement 147 = .ok (.iconst 1, 1) := by decide +kernel
theorem dX12_readStatement_148 : decode cX12_readStatement 148 = .ok (.goto 4, 3) := by decide +kernel
theorem dX12_readStatement_151 : decode cX12_readStatement 151 = .ok (.iconst 0, 1) := by decide +kernel
theorem dX12_readStatement_152 : decode cX12_readStatement 152 = .ok (.putfield 111, 3) := by decide +kernel
theorem dX12_readStatement_155 : decode cX12_readStatement 155 = .ok (.aload_n 0, 1) := by decide +kernel
theorem dX12_readStatement_156 : decode cX12_readStatement 156 = .ok (.dup, 1) := by decide +kernel
theorem dX12_readStatement_157 : decode cX12_readStatement 157 = .ok (.getfield 105, 3) := by decide +kernel
theorem dX12_readStatement_160 : decode cX12_readStatement 160 = .ok (.aload_n 0, 1) := by decide +kernel
theorem dX12_readStatement_161 : decode cX12_readStatement 161 = .ok (.getfield 111, 3) := by decide +kernel
theorem dX12_readStatement_164 : decode cX12_readStatement 164 = .ok (.ifCond .eq 7, 3) := by decide +kernel
theorem dX12_readStatement_167 : decode cX12_readStatement 167 = .ok (.iconst 0, 1) := by decide +kernel
theorem dX12_readStatement_168 : decode cX12_readStatement 168 = .ok (.goto 4, 3) := by decide +kernel
theorem dX12_readStatement_171 : decode cX12_readStatement 171 = .ok (.iconst 1, 1) := by decide +kernel
theorem dX12_readStatement_172 : decode cX12_readStatement 172 = .ok (.iadd, 1) := by decide +kernel
theorem dX12_readStatement_173 : decode cX12_readStatement 173 = .ok (.putfield 105, 3) := by decide +kernel
theorem dX12_readStatement_176 : decode cX12_readStatement 176 = .ok (.aload_n 0, 1) := by decide +kernel
theorem dX12_readStatement_177 : decode cX12_readStatement 177 = .ok (.dup, 1) := by decide +kernel
theorem dX12_readStatement_178 : decode cX12_readStatement 178 = .ok (.getfield 123, 3) := by decide +kernel
theorem dX12_readStatement_181 : decode cX12_readStatement 181 = .ok (.iconst 1, 1) := by decide +kernel
theorem dX12_readStatement_182 : decode cX12_readStatement 182 = .ok (.iadd, 1) := by decide +kernel
theorem dX12_readStatement_183 : decode cX12_readStatement 183 = .ok (.putfield 123, 3) := by decide +kernel
theorem dX12_readStatement_186 : decode cX12_readStatement 186 = .ok (.return_, 1) := by decide +kernel
theorem dX12_personComes_0 : decode cX12_personComes 0 = .ok (.iload_n 1, 1) := by decide +kernel
theorem dX12_personComes_1 : decode cX12_personComes 1 = .ok (.bipush 8, 2) := by decide +kernel
theorem dX12_personComes_3 : decode cX12_personComes 3 = .ok (.if_icmp .ge 16, 3) := by decide +kernel
theorem dX12_personComes_6 : decode cX12_personComes 6 = .ok (.aload_n 0, 1) := by decide +kernel
theorem dX12_personComes_7 : decode cX12_personComes 7 = .ok (.getfield 69, 3) := by decide +kernel
theorem dX12_personComes_10 : decode cX12_personComes 10 = .ok (.bipush 7, 2) := by decide +kernel
theorem dX12_personComes_12 : decode cX12_personComes 12 = .ok (.if_icmp .ge 7, 3) := by decide +kernel
theorem dX12_personComes_15 : decode cX12_personComes 15 = .ok (.iconst 1, 1) := by decide +kernel
theorem dX12_personComes_16 : decode cX12_personComes 16 = .ok (.goto 4, 3) := by decide +kernel
theorem dX12_personComes_19 : decode cX12_personComes 19 = .ok (.iconst 0, 1) := by decide +kernel
theorem dX12_personComes_20 : decode cX12_personComes 20 = .ok (.istore_n 3, 1) := by decide +kernel
theorem dX12_personComes_21 : decode cX12_personComes 21 = .ok (.iload_n 3, 1) := by decide +kernel
theorem dX12_personComes_22 : decode cX12_personComes 22 = .ok (.ifCond .eq 91, 3) := by decide +kernel
theorem dX12_personComes_25 : decode cX12_personComes 25 = .ok (.aload_n 0, 1) := by decide +kernel
theorem dX12_personComes_26 : decode cX12_personComes 26 = .ok (.getfield 7, 3) := by decide +kernel
theorem dX12_personComes_29 : decode cX12_personComes 29 = .ok (.aload_n 0, 1) := by decide +kernel
theorem dX12_personComes_30 : decode cX12_personComes 30 = .ok (.getfield 69, 3) := by decide +kernel
theorem dX12_personComes_33 : decode cX12_personComes 33 = .ok (.iload_n 1, 1) := by decide +kernel
theorem dX12_personComes_34 : decode cX12_personComes 34 = .ok (.iastore, 1) := by decide +kernel
theorem dX12_personComes_35 : decode cX12_personComes 35 = .ok (.aload_n 0, 1) := by decide +kernel
theorem dX12_personComes_36 : decode cX12_personComes 36 = .ok (.getfield 13, 3) := by decide +kernel
theorem dX12_personComes_39 : decode cX12_personComes 39 = .ok (.aload_n 0, 1) := by decide +kernel
theorem dX12_personComes_40 : decode cX12_personComes 40 = .ok (.getfield 69, 3) := by decide +kernel
theorem dX12_personComes_43 : decode cX12_personComes 43 = .ok (.iload_n 2, 1) := by decide +kernel
theorem dX12_personComes_44 : decode cX12_personComes 44 = .ok (.iastore, 1) := by decide +kernel
theorem dX12_personComes_45 : decode cX12_personComes 45 = .ok (.aload_n 0, 1) := by decide +kernel
theorem dX12_personComes_46 : decode cX12_personComes 46 = .ok (.getfield 16, 3) := by decide +kernel
theorem dX12_personComes_49 : decode cX12_personComes 49 = .ok (.aload_n 0, 1) := by decide +kernel
theorem dX12_personComes_50 : decode cX12_personComes 50 = .ok (.getfield 69, 3) := by decide +kernel
theorem dX12_personComes_53 : decode cX12_personComes 53 = .ok (.iconst 0, 1) := by decide +kernel
theorem dX12_personComes_54 : decode cX12_personComes 54 = .ok (.iastore, 1) := by decide +kernel
theorem dX12_personComes_55 : decode cX12_personComes 55 = .ok (.iconst 0, 1) := by decide +kernel
theorem dX12_personComes_56 : decode cX12_personComes 56 = .ok (.istore 4, 2) := by decide +kernel
theorem dX12_personComes_58 : decode cX12_personComes 58 = .ok (.iload 4, 2) := by decide +kernel
theorem dX12_personComes_60 : decode cX12_personComes 60 = .ok (.bipush 7, 2) := by decide +kernel
theorem dX12_personComes_62 : decode cX12_personComes 62 = .ok (.if_icmp .ge 41, 3) := by decide +kernel
theorem dX12_personComes_65 : decode cX12_personComes 65 = .ok (.aload_n 0, 1) := by decide +kernel
theorem dX12_personComes_66 : decode cX12_personComes 66 = .ok (.getfield 19, 3) := by decide +kernel
theorem dX12_personComes_69 : decode cX12_personComes 69 = .ok (.bipush 7, 2) := by decide +kernel
theorem dX12_personComes_71 : decode cX12_personComes 71 = .ok (.aload_n 0, 1) := by decide +kernel
theorem dX12_personComes_72 : decode cX12_personComes 72 = .ok (.getfield 69, 3) := by decide +kernel
theorem dX12_personComes_75 : decode cX12_personComes 75 = .ok (.imul, 1) := by decide +kernel
theorem dX12_personComes_76 : decode cX12_personComes 76 = .ok (.iload 4, 2) := by decide +kernel
theorem dX12_personComes_78 : decode cX12_personComes 78 = .ok (.iadd, 1) := by decide +kernel
theorem dX12_personComes_79 : decode cX12_personComes 79 = .ok (.iconst 0, 1) := by decide +kernel
theorem dX12_personComes_80 : decode cX12_personComes 80 = .ok (.iastore, 1) := by decide +kernel
theorem dX12_personComes_81 : decode cX12_personComes 81 = .ok (.aload_n 0, 1) := by decide +kernel
theorem dX12_personComes_82 : decode cX12_personComes 82 = .ok (.getfield 19, 3) := by decide +kernel
theorem dX12_personComes_85 : decode cX12_personComes 85 = .ok (.bipush 7, 2) := by decide +kernel
theorem dX12_personComes_87 : decode cX12_personComes 87 = .ok (.iload 4, 2) := by decide +kernel
theorem dX12_personComes_89 : decode cX12_personComes 89 = .ok (.imul, 1) := by decide +kernel
theorem dX12_personComes_90 : decode cX12_personComes 90 = .ok (.aload_n 0, 1) := by decide +kernel
theorem dX12_personComes_91 : decode cX12_personComes 91 = .ok (.getfield 69, 3) := by decide +kernel
theorem dX12_personComes_94 : decode cX12_personComes 94 = .ok (.iadd, 1) := by decide +kernel
theorem dX12_personComes_95 : decode cX12_personComes 95 = .ok (.iconst 0, 1) := by decide +kernel
theorem dX12_personComes_96 : decode cX12_personComes 96 = .ok (.iastore, 1) := by decide +kernel
theorem dX12_personComes_97 : decode cX12_personComes 97 = .ok (.iinc 4 1, 3) := by decide +kernel
theorem dX12_personComes_100 : decode cX12_personComes 100 = .ok (.goto (-42), 3) := by decide +kernel
theorem dX12_personComes_103 : decode cX12_personComes 103 = .ok (.aload_n 0, 1) := by decide +kernel
theorem dX12_personComes_104 : decode cX12_personComes 104 = .ok (.dup, 1) := by decide +kernel
theorem dX12_personComes_105 : decode cX12_personComes 105 = .ok (.getfield 69, 3) := by decide +kernel
theorem dX12_personComes_108 : decode cX12_personComes 108 = .ok (.iconst 1, 1) := by decide +kernel
theorem dX12_personComes_109 : decode cX12_personComes 109 = .ok (.iadd, 1) := by decide +kernel
theorem dX12_personComes_110 : decode cX12_personComes 110 = .ok (.putfield 69, 3) := by decide +kernel
theorem dX12_personComes_113 : decode cX12_personComes 113 = .ok (.iload_n 3, 1) := by decide +kernel
theorem dX12_personComes_114 : decode cX12_personComes 114 = .ok (.ireturn, 1) := by decide +kernel
theorem dX12_daysPass_0 : decode cX12_daysPass 0 = .ok (.iload_n 1, 1) := by decide +kernel
theorem dX12_daysPass_1 : decode cX12_daysPass 1 = .ok (.ifCond .le 19, 3) := by decide +kernel
theorem dX12_daysPass_4 : decode cX12_daysPass 4 = .ok (.aload_n 0, 1) := by decide +kernel
theorem dX12_daysPass_5 : decode cX12_daysPass 5 = .ok (.getfield 132, 3) := by decide +kernel
theorem dX12_daysPass_8 : decode cX12_daysPass 8 = .ok (.iload_n 1, 1) := by decide +kernel
theorem dX12_daysPass_9 : decode cX12_daysPass 9 = .ok (.iadd, 1) := by decide +kernel
theorem dX12_daysPass_10 : decode cX12_daysPass 10 = .ok (.sipush 999, 3) := by decide +kernel
theorem dX12_daysPass_13 : decode cX12_daysPass 13 = .ok (.if_icmp .gt 7, 3) := by decide +kernel
theorem dX12_daysPass_16 : decode cX12_daysPass 16 = .ok (.iconst 1, 1) := by decide +kernel
theorem dX12_daysPass_17 : decode cX12_daysPass 17 = .ok (.goto 4, 3) := by decide +kernel
theorem dX12_daysPass_20 : decode cX12_daysPass 20 = .ok (.iconst 0, 1) := by decide +kernel
theorem dX12_daysPass_21 : decode cX12_daysPass 21 = .ok (.istore_n 2, 1) := by decide +kernel
theorem dX12_daysPass_22 : decode cX12_daysPass 22 = .ok (.aload_n 0, 1) := by decide +kernel
theorem dX12_daysPass_23 : decode cX12_daysPass 23 = .ok (.dup, 1) := by decide +kernel
theorem dX12_daysPass_24 : decode cX12_daysPass 24 = .ok (.getfield 132, 3) := by decide +kernel
theorem dX12_daysPass_27 : decode cX12_daysPass 27 = .ok (.iload_n 2, 1) := by decide +kernel
theorem dX12_daysPass_28 : decode cX12_daysPass 28 = .ok (.ifCond .eq 7, 3) := by decide +kernel
theorem dX12_daysPass_31 : decode cX12_daysPass 31 = .ok (.iload_n 1, 1) := by decide +kernel
theorem dX12_daysPass_32 : decode cX12_daysPass 32 = .ok (.goto 4, 3) := by decide +kernel
theorem dX12_daysPass_35 : decode cX12_daysPass 35 = .ok (.iconst 0, 1) := by decide +kernel
theorem dX12_daysPass_36 : decode cX12_daysPass 36 = .ok (.iadd, 1) := by decide +kernel
theorem dX12_daysPass_37 : decode cX12_daysPass 37 = .ok (.putfield 132, 3) := by decide +kernel
theorem dX12_daysPass_40 : decode cX12_daysPass 40 = .ok (.iload_n 2, 1) := by decide +kernel
theorem dX12_daysPass_41 : decode cX12_daysPass 41 = .ok (.ireturn, 1) := by decide +kernel
set_option maxRecDepth 20000 in
theorem ggX12_turning_X12_areTwo : GoodIn wsX12_turning wsX12_areTwo := goodIn_r _ [5, 6, 7, 8, 4, 9, 10, 11, 12, 13, 55, 56, 57, 58, 59, 60, 61, 62, 63, 64, 65, 66, 67, 68, 69, 70, 71, 72, 73, 74, 75, 76, 77, 78, 79, 80, 81, 82, 83, 84, 85] (by decide +kernel) (by decide +kernel)
set_option maxRecDepth 20000 in
theorem gX12_turning_X12_areTwo : GoodIn wsX12_turning (wsV RX12 135 RX12 yX12_areTwo wsX12_areTwo) := goodIn_app (goodIn_of _ (by decide +kernel)) ggX12_turning_X12_areTwo
set_option maxRecDepth 20000 in
theorem ggX12_turning_X12_canTurn : GoodIn wsX12_turning wsX12_canTurn := goodIn_r _ [17, 18, 19, 20, 21, 4, 22, 23, 24, 25, 26, 27, 28, 29, 55, 56, 57, 58, 59, 60, 61, 62, 63, 64, 65, 66, 67, 68, 69, 70, 71, 72, 73, 74, 75, 76, 77, 78, 79, 80, 81, 82, 83, 84, 85] (by decide +kernel) (by decide +kernel)
set_option maxRecDepth 20000 in
theorem gX12_turning_X12_canTurn : GoodIn wsX12_turning (wsV RX12 138 RX12 yX12_canTurn wsX12_canTurn) := goodIn_app (goodIn_of _ (by decide +kernel)) ggX12_turning_X12_canTurn
set_option maxRecDepth 20000 in
theorem ggX12_turning_X12_daysPass : GoodIn wsX12_turning wsX12_daysPass := goodIn_r _ [33, 34, 55, 56, 57, 58, 59, 60, 61, 62, 63, 64, 65, 66, 67, 68, 69, 70, 71, 72, 73, 74, 75, 76, 77, 78, 79, 80, 81, 82, 83, 84, 85] (by decide +kernel) (by decide +kernel)
set_option maxRecDepth 20000 in
theorem gX12_turning_X12_daysPass : GoodIn wsX12_turning (wsV RX12 141 RX12 yX12_daysPass wsX12_daysPass) := goodIn_app (goodIn_of _ (by decide +kernel)) ggX12_turning_X12_daysPass
set_option maxRecDepth 20000 in
theorem ggX12_turning_X12_turnCards : GoodIn wsX12_turning wsX12_turnCards := goodIn_r _ [38, 18, 39, 40, 41, 4, 42, 29, 43, 44, 45, 46, 47, 48, 49, 50, 23, 51, 52, 53, 54, 55, 56, 57, 58, 59, 60, 61, 62, 63, 64, 65, 66, 67, 68, 69, 70, 71, 72, 73, 74, 75, 76, 77, 78, 79, 80, 81, 82, 83, 84, 85] (by decide +kernel) (by decide +kernel)
set_option maxRecDepth 20000 in
theorem gX12_turning_X12_turnCards : GoodIn wsX12_turning (wsV RX12 144 RX12 yX12_turnCards wsX12_turnCards) := goodIn_app (goodIn_of _ (by decide +kernel)) ggX12_turning_X12_turnCards
theorem dX12_turning_0 : decode cX12_turning 0 = .ok (.aload_n 0, 1) := by decide +kernel
theorem dX12_turning_1 : decode cX12_turning 1 = .ok (.iload_n 1, 1) := by decide +kernel
theorem dX12_turning_2 : decode cX12_turning 2 = .ok (.iload_n 2, 1) := by decide +kernel
theorem dX12_turning_3 : decode cX12_turning 3 = .ok (.invokevirtual 135, 3) := by decide +kernel
theorem dX12_turning_6 : decode cX12_turning 6 = .ok (.ifCond .eq 24, 3) := by decide +kernel
theorem dX12_turning_9 : decode cX12_turning 9 = .ok (.aload_n 0, 1) := by decide +kernel
theorem dX12_turning_10 : decode cX12_turning 10 = .ok (.iload_n 1, 1) := by decide +kernel
theorem dX12_turning_11 : decode cX12_turning 11 = .ok (.iload_n 2, 1) := by decide +kernel
theorem dX12_turning_12 : decode cX12_turning 12 = .ok (.invokevirtual 138, 3) := by decide +kernel
theorem dX12_turning_15 : decode cX12_turning 15 = .ok (.ifCond .eq 15, 3) := by decide +kernel
theorem dX12_turning_18 : decode cX12_turning 18 = .ok (.aload_n 0, 1) := by decide +kernel
theorem dX12_turning_19 : decode cX12_turning 19 = .ok (.iconst 1, 1) := by decide +kernel
theorem dX12_turning_20 : decode cX12_turning 20 = .ok (.invokevirtual 141, 3) := by decide +kernel
theorem dX12_turning_23 : decode cX12_turning 23 = .ok (.ifCond .eq 7, 3) := by decide +kernel
theorem dX12_turning_26 : decode cX12_turning 26 = .ok (.iconst 1, 1) := by decide +kernel
theorem dX12_turning_27 : decode cX12_turning 27 = .ok (.goto 4, 3) := by decide +kernel
theorem dX12_turning_30 : decode cX12_turning 30 = .ok (.iconst 0, 1) := by decide +kernel
theorem dX12_turning_31 : decode cX12_turning 31 = .ok (.istore_n 3, 1) := by decide +kernel
theorem dX12_turning_32 : decode cX12_turning 32 = .ok (.iload_n 3, 1) := by decide +kernel
theorem dX12_turning_33 : decode cX12_turning 33 = .ok (.ifCond .eq 9, 3) := by decide +kernel
theorem dX12_turning_36 : decode cX12_turning 36 = .ok (.aload_n 0, 1) := by decide +kernel
theorem dX12_turning_37 : decode cX12_turning 37 = .ok (.iload_n 1, 1) := by decide +kernel
theorem dX12_turning_38 : decode cX12_turning 38 = .ok (.iload_n 2, 1) := by decide +kernel
theorem dX12_turning_39 : decode cX12_turning 39 = .ok (.invokevirtual 144, 3) := by decide +kernel
theorem dX12_turning_42 : decode cX12_turning 42 = .ok (.iload_n 3, 1) := by decide +kernel
theorem dX12_turning_43 : decode cX12_turning 43 = .ok (.ireturn, 1) := by decide +kernel
set_option maxRecDepth 20000 in
theorem ggX12_comesTold_X12_personComes : GoodIn wsX12_comesTold wsX12_personComes := goodIn_r _ [9, 10, 11, 12, 13, 3, 65, 66, 67, 68, 69, 70, 71, 72, 73, 74, 75, 76, 77, 78, 79, 80, 81, 82, 83, 84, 85, 86, 87, 88, 89, 90, 91, 92, 93, 94, 95] (by decide +kernel) (by decide +kernel)
set_option maxRecDepth 20000 in
theorem gX12_comesTold_X12_personComes : GoodIn wsX12_comesTold (wsV RX12 147 RX12 yX12_personComes wsX12_personComes) := goodIn_app (goodIn_of _ (by decide +kernel)) ggX12_comesTold_X12_personComes
set_option maxRecDepth 20000 in
theorem ggX12_comesTold_X12_areTwo : GoodIn wsX12_comesTold wsX12_areTwo := goodIn_r _ [17, 18, 19, 20, 8, 21, 10, 22, 23, 24, 65, 66, 67, 68, 69, 70, 71, 72, 73, 74, 75, 76, 77, 78, 79, 80, 81, 82, 83, 84, 85, 86, 87, 88, 89, 90, 91, 92, 93, 94, 95] (by decide +kernel) (by decide +kernel)
set_option maxRecDepth 20000 in
theorem gX12_comesTold_X12_areTwo : GoodIn wsX12_comesTold (wsV RX12 135 RX12 yX12_areTwo wsX12_areTwo) := goodIn_app (goodIn_of _ (by decide +kernel)) ggX12_comesTold_X12_areTwo
set_option maxRecDepth 20000 in
theorem ggX12_comesTold_X12_daysPass : GoodIn wsX12_comesTold wsX12_daysPass := goodIn_r _ [28, 29, 65, 66, 67, 68, 69, 70, 71, 72, 73, 74, 75, 76, 77, 78, 79, 80, 81, 82, 83, 84, 85, 86, 87, 88, 89, 90, 91, 92, 93, 94, 95] (by decide +kernel) (by decide +kernel)
set_option maxRecDepth 20000 in
theorem gX12_comesTold_X12_daysPass : GoodIn wsX12_comesTold (wsV RX12 141 RX12 yX12_daysPass wsX12_daysPass) := goodIn_app (goodIn_of _ (by decide +kernel)) ggX12_comesTold_X12_daysPass
set_option maxRecDepth 20000 in
theorem ggX12_comesTold_X12_grow : GoodIn wsX12_comesTold wsX12_grow := goodIn_r _ [33, 3, 34, 35, 36, 8, 37, 12, 11, 38, 39, 40, 65, 66, 67, 68, 69, 70, 71, 72, 73, 74, 75, 76, 77, 78, 79, 80, 81, 82, 83, 84, 85, 86, 87, 88, 89, 90, 91, 92, 93, 94, 95] (by decide +kernel) (by decide +kernel)
set_option maxRecDepth 20000 in
theorem gX12_comesTold_X12_grow : GoodIn wsX12_comesTold (wsV RX12 97 RX12 yX12_grow wsX12_grow) := goodIn_app (goodIn_of _ (by decide +kernel)) ggX12_comesTold_X12_grow
set_option maxRecDepth 20000 in
theorem ggX12_comesTold_X12_turning : GoodIn wsX12_comesTold wsX12_turning := goodIn_r _ [44, 14, 15, 16, 8, 17, 18, 19, 20, 21, 10, 22, 23, 24, 45, 46, 47, 48, 13, 49, 50, 51, 52, 3, 4, 53, 54, 55, 56, 11, 25, 26, 27, 28, 29, 57, 58, 59, 60, 61, 62, 63, 64, 12, 38, 39, 40, 30, 31, 32, 33, 34, 35, 36, 37, 65, 66, 67, 68, 69, 70, 71, 72, 73, 74, 75, 76, 77, 78, 79, 80, 81, 82, 83, 84, 85, 86, 87, 88, 89, 90, 91, 92, 93, 94, 95] (by decide +kernel) (by decide +kernel)
set_option maxRecDepth 20000 in
theorem gX12_comesTold_X12_turning : GoodIn wsX12_comesTold (wsV RX12 150 RX12 yX12_turning wsX12_turning) := goodIn_app (goodIn_of _ (by decide +kernel)) ggX12_comesTold_X12_turning
theorem dX12_comesTold_0 : decode cX12_comesTold 0 = .ok (.aload_n 0, 1) := by decide +kernel
theorem dX12_comesTold_1 : decode cX12_comesTold 1 = .ok (.getfield 47, 3) := by decide +kernel
theorem dX12_comesTold_4 : decode cX12_comesTold 4 = .ok (.iconst 3, 1) := by decide +kernel
theorem dX12_comesTold_5 : decode cX12_comesTold 5 = .ok (.iload_n 1, 1) := by decide +kernel
theorem dX12_comesTold_6 : decode cX12_comesTold 6 = .ok (.imul, 1) := by decide +kernel
theorem dX12_comesTold_7 : decode cX12_comesTold 7 = .ok (.iaload, 1) := by decide +kernel
theorem dX12_comesTold_8 : decode cX12_comesTold 8 = .ok (.istore_n 2, 1) := by decide +kernel
theorem dX12_comesTold_9 : decode cX12_comesTold 9 = .ok (.aload_n 0, 1) := by decide +kernel
theorem dX12_comesTold_10 : decode cX12_comesTold 10 = .ok (.getfield 47, 3) := by decide +kernel
theorem dX12_comesTold_13 : decode cX12_comesTold 13 = .ok (.iconst 3, 1) := by decide +kernel
theorem dX12_comesTold_14 : decode cX12_comesTold 14 = .ok (.iload_n 1, 1) := by decide +kernel
theorem dX12_comesTold_15 : decode cX12_comesTold 15 = .ok (.imul, 1) := by decide +kernel
theorem dX12_comesTold_16 : decode cX12_comesTold 16 = .ok (.iconst 1, 1) := by decide +kernel
theorem dX12_comesTold_17 : decode cX12_comesTold 17 = .ok (.iadd, 1) := by decide +kernel
theorem dX12_comesTold_18 : decode cX12_comesTold 18 = .ok (.iaload, 1) := by decide +kernel
theorem dX12_comesTold_19 : decode cX12_comesTold 19 = .ok (.istore_n 3, 1) := by decide +kernel
theorem dX12_comesTold_20 : decode cX12_comesTold 20 = .ok (.iconst 1, 1) := by decide +kernel
theorem dX12_comesTold_21 : decode cX12_comesTold 21 = .ok (.istore 4, 2) := by decide +kernel
theorem dX12_comesTold_23 : decode cX12_comesTold 23 = .ok (.aload_n 0, 1) := by decide +kernel
theorem dX12_comesTold_24 : decode cX12_comesTold 24 = .ok (.getfield 44, 3) := by decide +kernel
theorem dX12_comesTold_27 : decode cX12_comesTold 27 = .ok (.iload_n 1, 1) := by decide +kernel
theorem dX12_comesTold_28 : decode cX12_comesTold 28 = .ok (.iaload, 1) := by decide +kernel
theorem dX12_comesTold_29 : decode cX12_comesTold 29 = .ok (.tableswitch 171 102 116 #[82, 171, 171, 171, 171, 171, 164, 171, 171, 171, 75, 171, 171, 119, 157], 75) := by decide +kernel
theorem dX12_comesTold_104 : decode cX12_comesTold 104 = .ok (.aload_n 0, 1) := by decide +kernel
theorem dX12_comesTold_105 : decode cX12_comesTold 105 = .ok (.iload_n 2, 1) := by decide +kernel
theorem dX12_comesTold_106 : decode cX12_comesTold 106 = .ok (.iload_n 3, 1) := by decide +kernel
theorem dX12_comesTold_107 : decode cX12_comesTold 107 = .ok (.invokevirtual 147, 3) := by decide +kernel
theorem dX12_comesTold_110 : decode cX12_comesTold 110 = .ok (.ireturn, 1) := by decide +kernel
theorem dX12_comesTold_111 : decode cX12_comesTold 111 = .ok (.aload_n 0, 1) := by decide +kernel
theorem dX12_comesTold_112 : decode cX12_comesTold 112 = .ok (.iload_n 2, 1) := by decide +kernel
theorem dX12_comesTold_113 : decode cX12_comesTold 113 = .ok (.iload_n 3, 1) := by decide +kernel
theorem dX12_comesTold_114 : decode cX12_comesTold 114 = .ok (.invokevirtual 135, 3) := by decide +kernel
theorem dX12_comesTold_117 : decode cX12_comesTold 117 = .ok (.istore 4, 2) := by decide +kernel
theorem dX12_comesTold_119 : decode cX12_comesTold 119 = .ok (.iload 4, 2) := by decide +kernel
theorem dX12_comesTold_121 : decode cX12_comesTold 121 = .ok (.ifCond .eq 24, 3) := by decide +kernel
theorem dX12_comesTold_124 : decode cX12_comesTold 124 = .ok (.aload_n 0, 1) := by decide +kernel
theorem dX12_comesTold_125 : decode cX12_comesTold 125 = .ok (.getfield 19, 3) := by decide +kernel
theorem dX12_comesTold_128 : decode cX12_comesTold 128 = .ok (.bipush 7, 2) := by decide +kernel
theorem dX12_comesTold_130 : decode cX12_comesTold 130 = .ok (.iload_n 2, 1) := by decide +kernel
theorem dX12_comesTold_131 : decode cX12_comesTold 131 = .ok (.imul, 1) := by decide +kernel
theorem dX12_comesTold_132 : decode cX12_comesTold 132 = .ok (.iload_n 3, 1) := by decide +kernel
theorem dX12_comesTold_133 : decode cX12_comesTold 133 = .ok (.iadd, 1) := by decide +kernel
theorem dX12_comesTold_134 : decode cX12_comesTold 134 = .ok (.aload_n 0, 1) := by decide +kernel
theorem dX12_comesTold_135 : decode cX12_comesTold 135 = .ok (.getfield 47, 3) := by decide +kernel
theorem dX12_comesTold_138 : decode cX12_comesTold 138 = .ok (.iconst 3, 1) := by decide +kernel
theorem dX12_comesTold_139 : decode cX12_comesTold 139 = .ok (.iload_n 1, 1) := by decide +kernel
theorem dX12_comesTold_140 : decode cX12_comesTold 140 = .ok (.imul, 1) := by decide +kernel
theorem dX12_comesTold_141 : decode cX12_comesTold 141 = .ok (.iconst 2, 1) := by decide +kernel
theorem dX12_comesTold_142 : decode cX12_comesTold 142 = .ok (.iadd, 1) := by decide +kernel
theorem dX12_comesTold_143 : decode cX12_comesTold 143 = .ok (.iaload, 1) := by decide +kernel
theorem dX12_comesTold_144 : decode cX12_comesTold 144 = .ok (.iastore, 1) := by decide +kernel
theorem dX12_comesTold_145 : decode cX12_comesTold 145 = .ok (.iload 4, 2) := by decide +kernel
theorem dX12_comesTold_147 : decode cX12_comesTold 147 = .ok (.ireturn, 1) := by decide +kernel
theorem dX12_comesTold_148 : decode cX12_comesTold 148 = .ok (.aload_n 0, 1) := by decide +kernel
theorem dX12_comesTold_149 : decode cX12_comesTold 149 = .ok (.iload_n 2, 1) := by decide +kernel
theorem dX12_comesTold_150 : decode cX12_comesTold 150 = .ok (.iload_n 3, 1) := by decide +kernel
theorem dX12_comesTold_151 : decode cX12_comesTold 151 = .ok (.invokevirtual 135, 3) := by decide +kernel
theorem dX12_comesTold_154 : decode cX12_comesTold 154 = .ok (.ifCond .eq 15, 3) := by decide +kernel
theorem dX12_comesTold_157 : decode cX12_comesTold 157 = .ok (.aload_n 0, 1) := by decide +kernel
theorem dX12_comesTold_158 : decode cX12_comesTold 158 = .ok (.iconst 1, 1) := by decide +kernel
theorem dX12_comesTold_159 : decode cX12_comesTold 159 = .ok (.invokevirtual 141, 3) := by decide +kernel
theorem dX12_comesTold_162 : decode cX12_comesTold 162 = .ok (.ifCond .eq 7, 3) := by decide +kernel
theorem dX12_comesTold_165 : decode cX12_comesTold 165 = .ok (.iconst 1, 1) := by decide +kernel
theorem dX12_comesTold_166 : decode cX12_comesTold 166 = .ok (.goto 4, 3) := by decide +kernel
theorem dX12_comesTold_169 : decode cX12_comesTold 169 = .ok (.iconst 0, 1) := by decide +kernel
theorem dX12_comesTold_170 : decode cX12_comesTold 170 = .ok (.istore 4, 2) := by decide +kernel
theorem dX12_comesTold_172 : decode cX12_comesTold 172 = .ok (.iload 4, 2) := by decide +kernel
theorem dX12_comesTold_174 : decode cX12_comesTold 174 = .ok (.ifCond .eq 9, 3) := by decide +kernel
theorem dX12_comesTold_177 : decode cX12_comesTold 177 = .ok (.aload_n 0, 1) := by decide +kernel
theorem dX12_comesTold_178 : decode cX12_comesTold 178 = .ok (.iload_n 2, 1) := by decide +kernel
theorem dX12_comesTold_179 : decode cX12_comesTold 179 = .ok (.iload_n 3, 1) := by decide +kernel
theorem dX12_comesTold_180 : decode cX12_comesTold 180 = .ok (.invokevirtual 97, 3) := by decide +kernel
theorem dX12_comesTold_183 : decode cX12_comesTold 183 = .ok (.iload 4, 2) := by decide +kernel
theorem dX12_comesTold_185 : decode cX12_comesTold 185 = .ok (.ireturn, 1) := by decide +kernel
theorem dX12_comesTold_186 : decode cX12_comesTold 186 = .ok (.aload_n 0, 1) := by decide +kernel
theorem dX12_comesTold_187 : decode cX12_comesTold 187 = .ok (.iload_n 2, 1) := by decide +kernel
theorem dX12_comesTold_188 : decode cX12_comesTold 188 = .ok (.iload_n 3, 1) := by decide +kernel
theorem dX12_comesTold_189 : decode cX12_comesTold 189 = .ok (.invokevirtual 150, 3) := by decide +kernel
theorem dX12_comesTold_192 : decode cX12_comesTold 192 = .ok (.ireturn, 1) := by decide +kernel
theorem dX12_comesTold_193 : decode cX12_comesTold 193 = .ok (.aload_n 0, 1) := by decide +kernel
theorem dX12_comesTold_194 : decode cX12_comesTold 194 = .ok (.iload_n 2, 1) := by decide +kernel
theorem dX12_comesTold_195 : decode cX12_comesTold 195 = .ok (.putfield 84, 3) := by decide +kernel
theorem dX12_comesTold_198 : decode cX12_comesTold 198 = .ok (.iconst 1, 1) := by decide +kernel
theorem dX12_comesTold_199 : decode cX12_comesTold 199 = .ok (.ireturn, 1) := by decide +kernel
theorem dX12_comesTold_200 : decode cX12_comesTold 200 = .ok (.aload_n 0, 1) := by decide +kernel
theorem dX12_comesTold_201 : decode cX12_comesTold 201 = .ok (.bipush 10, 2) := by decide +kernel
theorem dX12_comesTold_203 : decode cX12_comesTold 203 = .ok (.iload_n 2, 1) := by decide +kernel
theorem dX12_comesTold_204 : decode cX12_comesTold 204 = .ok (.imul, 1) := by decide +kernel
theorem dX12_comesTold_205 : decode cX12_comesTold 205 = .ok (.iload_n 3, 1) := by decide +kernel
theorem dX12_comesTold_206 : decode cX12_comesTold 206 = .ok (.iadd, 1) := by decide +kernel
theorem dX12_comesTold_207 : decode cX12_comesTold 207 = .ok (.invokevirtual 141, 3) := by decide +kernel
theorem dX12_comesTold_210 : decode cX12_comesTold 210 = .ok (.ireturn, 1) := by decide +kernel
set_option maxRecDepth 20000 in
theorem ggX12_town_X12_wrongRow : GoodIn wsX12_town wsX12_wrongRow := goodIn_r _ [13, 14, 15, 16, 17, 12, 18, 121, 122, 123, 124, 125, 126, 127, 128, 129, 130, 131, 132, 133, 134, 135, 136, 137, 138, 139, 140, 141, 142, 143, 144, 145, 146, 147, 148, 149, 150, 151] (by decide +kernel) (by decide +kernel)
set_option maxRecDepth 20000 in
theorem gX12_town_X12_wrongRow : GoodIn wsX12_town (wsV RX12 153 RX12 yX12_wrongRow wsX12_wrongRow) := goodIn_app (goodIn_of _ (by decide +kernel)) ggX12_town_X12_wrongRow
set_option maxRecDepth 20000 in
theorem ggX12_town_X12_readStatement : GoodIn wsX12_town wsX12_readStatement := goodIn_r _ [22, 6, 8, 4, 23, 5, 24, 25, 26, 27, 12, 28, 7, 3, 29, 30, 31, 32, 33, 34, 35, 36, 37, 38, 16, 17, 18, 121, 122, 123, 124, 125, 126, 127, 128, 129, 130, 131, 132, 133, 134, 135, 136, 137, 138, 139, 140, 141, 142, 143, 144, 145, 146, 147, 148, 149, 150, 151] (by decide +kernel) (by decide +kernel)
set_option maxRecDepth 20000 in
theorem gX12_town_X12_readStatement : GoodIn wsX12_town (wsV RX12 156 RX12 yX12_readStatement wsX12_readStatement) := goodIn_app (goodIn_of _ (by decide +kernel)) ggX12_town_X12_readStatement
set_option maxRecDepth 20000 in
theorem ggX12_town_X12_open : GoodIn wsX12_town wsX12_open := goodIn_r _ [42, 43, 44, 45, 46, 12, 47, 48, 49, 50, 51, 52, 53, 54, 55, 56, 57, 58, 59, 60, 61, 121, 122, 123, 124, 125, 126, 127, 128, 129, 130, 131, 132, 133, 134, 135, 136, 137, 138, 139, 140, 141, 142, 143, 144, 145, 146, 147, 148, 149, 150, 151] (by decide +kernel) (by decide +kernel)
set_option maxRecDepth 20000 in
theorem gX12_town_X12_open : GoodIn wsX12_town (wsV RX12 159 RX12 yX12_open wsX12_open) := goodIn_app (goodIn_of _ (by decide +kernel)) ggX12_town_X12_open
set_option maxRecDepth 20000 in
theorem ggX12_town_X12_comesTold : GoodIn wsX12_town wsX12_comesTold := goodIn_r _ [65, 24, 23, 57, 52, 66, 67, 68, 12, 69, 51, 54, 55, 56, 70, 71, 72, 73, 74, 75, 76, 77, 16, 17, 18, 78, 79, 80, 81, 53, 82, 83, 84, 85, 86, 87, 88, 89, 90, 91, 92, 93, 94, 95, 96, 97, 98, 99, 100, 101, 102, 103, 104, 105, 106, 107, 108, 109, 110, 111, 112, 113, 114, 115, 116, 121, 122, 123, 124, 125, 126, 127, 128, 129, 130, 131, 132, 133, 134, 135, 136, 137, 138, 139, 140, 141, 142, 143, 144, 145, 146, 147, 148, 149, 150, 151] (by decide +kernel) (by decide +kernel)
set_option maxRecDepth 20000 in
theorem gX12_town_X12_comesTold : GoodIn wsX12_town (wsV RX12 162 RX12 yX12_comesTold wsX12_comesTold) := goodIn_app (goodIn_of _ (by decide +kernel)) ggX12_town_X12_comesTold
set_option maxRecDepth 20000 in
theorem ggX12_town_X12_close : GoodIn wsX12_town wsX12_close := goodIn_r _ [120, 43, 44, 45, 46, 12, 47, 48, 49, 50, 51, 52, 53, 54, 55, 56, 57, 58, 59, 60, 61, 121, 122, 123, 124, 125, 126, 127, 128, 129, 130, 131, 132, 133, 134, 135, 136, 137, 138, 139, 140, 141, 142, 143, 144, 145, 146, 147, 148, 149, 150, 151] (by decide +kernel) (by decide +kernel)
set_option maxRecDepth 20000 in
theorem gX12_town_X12_close : GoodIn wsX12_town (wsV RX12 165 RX12 yX12_close wsX12_close) := goodIn_app (goodIn_of _ (by decide +kernel)) ggX12_town_X12_close
theorem dX12_town_0 : decode cX12_town 0 = .ok (.aload_n 0, 1) := by decide +kernel
theorem dX12_town_1 : decode cX12_town 1 = .ok (.iconst 0, 1) := by decide +kernel
theorem dX12_town_2 : decode cX12_town 2 = .ok (.putfield 65, 3) := by decide +kernel
theorem dX12_town_5 : decode cX12_town 5 = .ok (.aload_n 0, 1) := by decide +kernel
theorem dX12_town_6 : decode cX12_town 6 = .ok (.iload_n 1, 1) := by decide +kernel
theorem dX12_town_7 : decode cX12_town 7 = .ok (.invokevirtual 153, 3) := by decide +kernel
theorem dX12_town_10 : decode cX12_town 10 = .ok (.istore_n 2, 1) := by decide +kernel
theorem dX12_town_11 : decode cX12_town 11 = .ok (.iload_n 2, 1) := by decide +kernel
theorem dX12_town_12 : decode cX12_town 12 = .ok (.ifCond .ne 17, 3) := by decide +kernel
theorem dX12_town_15 : decode cX12_town 15 = .ok (.aload_n 0, 1) := by decide +kernel
theorem dX12_town_16 : decode cX12_town 16 = .ok (.getfield 31, 3) := by decide +kernel
theorem dX12_town_19 : decode cX12_town 19 = .ok (.iload_n 1, 1) := by decide +kernel
theorem dX12_town_20 : decode cX12_town 20 = .ok (.iaload, 1) := by decide +kernel
theorem dX12_town_21 : decode cX12_town 21 = .ok (.ifCond .eq 8, 3) := by decide +kernel
theorem dX12_town_24 : decode cX12_town 24 = .ok (.bipush (-12), 2) := by decide +kernel
theorem dX12_town_26 : decode cX12_town 26 = .ok (.goto 4, 3) := by decide +kernel
theorem dX12_town_29 : decode cX12_town 29 = .ok (.iload_n 2, 1) := by decide +kernel
theorem dX12_town_30 : decode cX12_town 30 = .ok (.istore_n 2, 1) := by decide +kernel
theorem dX12_town_31 : decode cX12_town 31 = .ok (.iload_n 2, 1) := by decide +kernel
theorem dX12_town_32 : decode cX12_town 32 = .ok (.ifCond .ge 5, 3) := by decide +kernel
theorem dX12_town_35 : decode cX12_town 35 = .ok (.iload_n 2, 1) := by decide +kernel
theorem dX12_town_36 : decode cX12_town 36 = .ok (.ireturn, 1) := by decide +kernel
theorem dX12_town_37 : decode cX12_town 37 = .ok (.aload_n 0, 1) := by decide +kernel
theorem dX12_town_38 : decode cX12_town 38 = .ok (.iload_n 1, 1) := by decide +kernel
theorem dX12_town_39 : decode cX12_town 39 = .ok (.putfield 108, 3) := by decide +kernel
theorem dX12_town_42 : decode cX12_town 42 = .ok (.aload_n 0, 1) := by decide +kernel
theorem dX12_town_43 : decode cX12_town 43 = .ok (.iconst 0, 1) := by decide +kernel
theorem dX12_town_44 : decode cX12_town 44 = .ok (.putfield 105, 3) := by decide +kernel
theorem dX12_town_47 : decode cX12_town 47 = .ok (.aload_n 0, 1) := by decide +kernel
theorem dX12_town_48 : decode cX12_town 48 = .ok (.iconst 0, 1) := by decide +kernel
theorem dX12_town_49 : decode cX12_town 49 = .ok (.putfield 111, 3) := by decide +kernel
theorem dX12_town_52 : decode cX12_town 52 = .ok (.aload_n 0, 1) := by decide +kernel
theorem dX12_town_53 : decode cX12_town 53 = .ok (.iconst 0, 1) := by decide +kernel
theorem dX12_town_54 : decode cX12_town 54 = .ok (.putfield 123, 3) := by decide +kernel
theorem dX12_town_57 : decode cX12_town 57 = .ok (.aload_n 0, 1) := by decide +kernel
theorem dX12_town_58 : decode cX12_town 58 = .ok (.getfield 111, 3) := by decide +kernel
theorem dX12_town_61 : decode cX12_town 61 = .ok (.ifCond .ne 30, 3) := by decide +kernel
theorem dX12_town_64 : decode cX12_town 64 = .ok (.aload_n 0, 1) := by decide +kernel
theorem dX12_town_65 : decode cX12_town 65 = .ok (.getfield 123, 3) := by decide +kernel
theorem dX12_town_68 : decode cX12_town 68 = .ok (.ifCond .eq 16, 3) := by decide +kernel
theorem dX12_town_71 : decode cX12_town 71 = .ok (.aload_n 0, 1) := by decide +kernel
theorem dX12_town_72 : decode cX12_town 72 = .ok (.getfield 105, 3) := by decide +kernel
theorem dX12_town_75 : decode cX12_town 75 = .ok (.aload_n 0, 1) := by decide +kernel
theorem dX12_town_76 : decode cX12_town 76 = .ok (.getfield 34, 3) := by decide +kernel
theorem dX12_town_79 : decode cX12_town 79 = .ok (.iload_n 1, 1) := by decide +kernel
theorem dX12_town_80 : decode cX12_town 80 = .ok (.iaload, 1) := by decide +kernel
theorem dX12_town_81 : decode cX12_town 81 = .ok (.if_icmp .ge 10, 3) := by decide +kernel
theorem dX12_town_84 : decode cX12_town 84 = .ok (.aload_n 0, 1) := by decide +kernel
theorem dX12_town_85 : decode cX12_town 85 = .ok (.invokevirtual 156, 3) := by decide +kernel
theorem dX12_town_88 : decode cX12_town 88 = .ok (.goto (-31), 3) := by decide +kernel
theorem dX12_town_91 : decode cX12_town 91 = .ok (.aload_n 0, 1) := by decide +kernel
theorem dX12_town_92 : decode cX12_town 92 = .ok (.getfield 111, 3) := by decide +kernel
theorem dX12_town_95 : decode cX12_town 95 = .ok (.ifCond .eq 12, 3) := by decide +kernel
theorem dX12_town_98 : decode cX12_town 98 = .ok (.sipush (-1000), 3) := by decide +kernel
theorem dX12_town_101 : decode cX12_town 101 = .ok (.aload_n 0, 1) := by decide +kernel
theorem dX12_town_102 : decode cX12_town 102 = .ok (.getfield 105, 3) := by decide +kernel
theorem dX12_town_105 : decode cX12_town 105 = .ok (.isub, 1) := by decide +kernel
theorem dX12_town_106 : decode cX12_town 106 = .ok (.ireturn, 1) := by decide +kernel
theorem dX12_town_107 : decode cX12_town 107 = .ok (.aload_n 0, 1) := by decide +kernel
theorem dX12_town_108 : decode cX12_town 108 = .ok (.invokevirtual 159, 3) := by decide +kernel
theorem dX12_town_111 : decode cX12_town 111 = .ok (.iconst 0, 1) := by decide +kernel
theorem dX12_town_112 : decode cX12_town 112 = .ok (.istore_n 3, 1) := by decide +kernel
theorem dX12_town_113 : decode cX12_town 113 = .ok (.iload_n 3, 1) := by decide +kernel
theorem dX12_town_114 : decode cX12_town 114 = .ok (.aload_n 0, 1) := by decide +kernel
theorem dX12_town_115 : decode cX12_town 115 = .ok (.getfield 123, 3) := by decide +kernel
theorem dX12_town_118 : decode cX12_town 118 = .ok (.if_icmp .ge 32, 3) := by decide +kernel
theorem dX12_town_121 : decode cX12_town 121 = .ok (.aload_n 0, 1) := by decide +kernel
theorem dX12_town_122 : decode cX12_town 122 = .ok (.iload_n 3, 1) := by decide +kernel
theorem dX12_town_123 : decode cX12_town 123 = .ok (.invokevirtual 162, 3) := by decide +kernel
theorem dX12_town_126 : decode cX12_town 126 = .ok (.ifCond .ne 18, 3) := by decide +kernel
theorem dX12_town_129 : decode cX12_town 129 = .ok (.aload_n 0, 1) := by decide +kernel
theorem dX12_town_130 : decode cX12_town 130 = .ok (.invokevirtual 165, 3) := by decide +kernel
theorem dX12_town_133 : decode cX12_town 133 = .ok (.sipush (-2000), 3) := by decide +kernel
theorem dX12_town_136 : decode cX12_town 136 = .ok (.aload_n 0, 1) := by decide +kernel
theorem dX12_town_137 : decode cX12_town 137 = .ok (.getfield 41, 3) := by decide +kernel
theorem dX12_town_140 : decode cX12_town 140 = .ok (.iload_n 3, 1) := by decide +kernel
theorem dX12_town_141 : decode cX12_town 141 = .ok (.iaload, 1) := by decide +kernel
theorem dX12_town_142 : decode cX12_town 142 = .ok (.isub, 1) := by decide +kernel
theorem dX12_town_143 : decode cX12_town 143 = .ok (.ireturn, 1) := by decide +kernel
theorem dX12_town_144 : decode cX12_town 144 = .ok (.iinc 3 1, 3) := by decide +kernel
theorem dX12_town_147 : decode cX12_town 147 = .ok (.goto (-34), 3) := by decide +kernel
theorem dX12_town_150 : decode cX12_town 150 = .ok (.aload_n 0, 1) := by decide +kernel
theorem dX12_town_151 : decode cX12_town 151 = .ok (.getfield 123, 3) := by decide +kernel
theorem dX12_town_154 : decode cX12_town 154 = .ok (.ireturn, 1) := by decide +kernel
theorem dX12_carry_0 : decode cX12_carry 0 = .ok (.aload_n 0, 1) := by decide +kernel
theorem dX12_carry_1 : decode cX12_carry 1 = .ok (.getfield 168, 3) := by decide +kernel
theorem dX12_carry_4 : decode cX12_carry 4 = .ok (.ifCond .eq 13, 3) := by decide +kernel
theorem dX12_carry_7 : decode cX12_carry 7 = .ok (.aload_n 0, 1) := by decide +kernel
theorem dX12_carry_8 : decode cX12_carry 8 = .ok (.getfield 171, 3) := by decide +kernel
theorem dX12_carry_11 : decode cX12_carry 11 = .ok (.aload_n 0, 1) := by decide +kernel
theorem dX12_carry_12 : decode cX12_carry 12 = .ok (.getfield 174, 3) := by decide +kernel
theorem dX12_carry_15 : decode cX12_carry 15 = .ok (.iload_n 1, 1) := by decide +kernel
theorem dX12_carry_16 : decode cX12_carry 16 = .ok (.iastore, 1) := by decide +kernel
theorem dX12_carry_17 : decode cX12_carry 17 = .ok (.aload_n 0, 1) := by decide +kernel
theorem dX12_carry_18 : decode cX12_carry 18 = .ok (.dup, 1) := by decide +kernel
theorem dX12_carry_19 : decode cX12_carry 19 = .ok (.getfield 174, 3) := by decide +kernel
theorem dX12_carry_22 : decode cX12_carry 22 = .ok (.iconst 1, 1) := by decide +kernel
theorem dX12_carry_23 : decode cX12_carry 23 = .ok (.iadd, 1) := by decide +kernel
theorem dX12_carry_24 : decode cX12_carry 24 = .ok (.putfield 174, 3) := by decide +kernel
theorem dX12_carry_27 : decode cX12_carry 27 = .ok (.aload_n 0, 1) := by decide +kernel
theorem dX12_carry_28 : decode cX12_carry 28 = .ok (.getfield 171, 3) := by decide +kernel
theorem dX12_carry_31 : decode cX12_carry 31 = .ok (.aload_n 0, 1) := by decide +kernel
theorem dX12_carry_32 : decode cX12_carry 32 = .ok (.getfield 174, 3) := by decide +kernel
theorem dX12_carry_35 : decode cX12_carry 35 = .ok (.iconst 1, 1) := by decide +kernel
theorem dX12_carry_36 : decode cX12_carry 36 = .ok (.isub, 1) := by decide +kernel
theorem dX12_carry_37 : decode cX12_carry 37 = .ok (.iaload, 1) := by decide +kernel
theorem dX12_carry_38 : decode cX12_carry 38 = .ok (.ireturn, 1) := by decide +kernel
set_option maxRecDepth 20000 in
theorem ggX12_carryAll_X12_carry : GoodIn wsX12_carryAll wsX12_carry := goodIn_r _ [15, 2, 1, 3, 16, 17, 18, 19, 20, 21, 22, 23, 24, 25, 26, 27, 28, 29, 30, 31, 32, 33, 34, 35, 36, 37, 38, 39, 40, 41, 42, 43, 44, 45, 46] (by decide +kernel) (by decide +kernel)
set_option maxRecDepth 20000 in
theorem gX12_carryAll_X12_carry : GoodIn wsX12_carryAll (wsV RX12 177 RX12 yX12_carry wsX12_carry) := goodIn_app (goodIn_of _ (by decide +kernel)) ggX12_carryAll_X12_carry
theorem dX12_carryAll_0 : decode cX12_carryAll 0 = .ok (.aload_n 0, 1) := by decide +kernel
theorem dX12_carryAll_1 : decode cX12_carryAll 1 = .ok (.aload_n 1, 1) := by decide +kernel
theorem dX12_carryAll_2 : decode cX12_carryAll 2 = .ok (.putfield 171, 3) := by decide +kernel
theorem dX12_carryAll_5 : decode cX12_carryAll 5 = .ok (.aload_n 0, 1) := by decide +kernel
theorem dX12_carryAll_6 : decode cX12_carryAll 6 = .ok (.iload_n 2, 1) := by decide +kernel
theorem dX12_carryAll_7 : decode cX12_carryAll 7 = .ok (.putfield 168, 3) := by decide +kernel
theorem dX12_carryAll_10 : decode cX12_carryAll 10 = .ok (.aload_n 0, 1) := by decide +kernel
theorem dX12_carryAll_11 : decode cX12_carryAll 11 = .ok (.iconst 0, 1) := by decide +kernel
theorem dX12_carryAll_12 : decode cX12_carryAll 12 = .ok (.putfield 174, 3) := by decide +kernel
theorem dX12_carryAll_15 : decode cX12_carryAll 15 = .ok (.aload_n 0, 1) := by decide +kernel
theorem dX12_carryAll_16 : decode cX12_carryAll 16 = .ok (.aload_n 0, 1) := by decide +kernel
theorem dX12_carryAll_17 : decode cX12_carryAll 17 = .ok (.aload_n 0, 1) := by decide +kernel
theorem dX12_carryAll_18 : decode cX12_carryAll 18 = .ok (.getfield 69, 3) := by decide +kernel
theorem dX12_carryAll_21 : decode cX12_carryAll 21 = .ok (.invokevirtual 177, 3) := by decide +kernel
theorem dX12_carryAll_24 : decode cX12_carryAll 24 = .ok (.putfield 69, 3) := by decide +kernel
theorem dX12_carryAll_27 : decode cX12_carryAll 27 = .ok (.aload_n 0, 1) := by decide +kernel
theorem dX12_carryAll_28 : decode cX12_carryAll 28 = .ok (.aload_n 0, 1) := by decide +kernel
theorem dX12_carryAll_29 : decode cX12_carryAll 29 = .ok (.aload_n 0, 1) := by decide +kernel
theorem dX12_carryAll_30 : decode cX12_carryAll 30 = .ok (.getfield 84, 3) := by decide +kernel
theorem dX12_carryAll_33 : decode cX12_carryAll 33 = .ok (.invokevirtual 177, 3) := by decide +kernel
theorem dX12_carryAll_36 : decode cX12_carryAll 36 = .ok (.putfield 84, 3) := by decide +kernel
theorem dX12_carryAll_39 : decode cX12_carryAll 39 = .ok (.aload_n 0, 1) := by decide +kernel
theorem dX12_carryAll_40 : decode cX12_carryAll 40 = .ok (.aload_n 0, 1) := by decide +kernel
theorem dX12_carryAll_41 : decode cX12_carryAll 41 = .ok (.aload_n 0, 1) := by decide +kernel
theorem dX12_carryAll_42 : decode cX12_carryAll 42 = .ok (.getfield 132, 3) := by decide +kernel
theorem dX12_carryAll_45 : decode cX12_carryAll 45 = .ok (.invokevirtual 177, 3) := by decide +kernel
theorem dX12_carryAll_48 : decode cX12_carryAll 48 = .ok (.putfield 132, 3) := by decide +kernel
theorem dX12_carryAll_51 : decode cX12_carryAll 51 = .ok (.iconst 0, 1) := by decide +kernel
theorem dX12_carryAll_52 : decode cX12_carryAll 52 = .ok (.istore_n 3, 1) := by decide +kernel
theorem dX12_carryAll_53 : decode cX12_carryAll 53 = .ok (.iload_n 3, 1) := by decide +kernel
theorem dX12_carryAll_54 : decode cX12_carryAll 54 = .ok (.bipush 7, 2) := by decide +kernel
theorem dX12_carryAll_56 : decode cX12_carryAll 56 = .ok (.if_icmp .ge 57, 3) := by decide +kernel
theorem dX12_carryAll_59 : decode cX12_carryAll 59 = .ok (.aload_n 0, 1) := by decide +kernel
theorem dX12_carryAll_60 : decode cX12_carryAll 60 = .ok (.getfield 7, 3) := by decide +kernel
theorem dX12_carryAll_63 : decode cX12_carryAll 63 = .ok (.iload_n 3, 1) := by decide +kernel
theorem dX12_carryAll_64 : decode cX12_carryAll 64 = .ok (.aload_n 0, 1) := by decide +kernel
theorem dX12_carryAll_65 : decode cX12_carryAll 65 = .ok (.aload_n 0, 1) := by decide +kernel
theorem dX12_carryAll_66 : decode cX12_carryAll 66 = .ok (.getfield 7, 3) := by decide +kernel
theorem dX12_carryAll_69 : decode cX12_carryAll 69 = .ok (.iload_n 3, 1) := by decide +kernel
theorem dX12_carryAll_70 : decode cX12_carryAll 70 = .ok (.iaload, 1) := by decide +kernel
theorem dX12_carryAll_71 : decode cX12_carryAll 71 = .ok (.invokevirtual 177, 3) := by decide +kernel
theorem dX12_carryAll_74 : decode cX12_carryAll 74 = .ok (.iastore, 1) := by decide +kernel
theorem dX12_carryAll_75 : decode cX12_carryAll 75 = .ok (.aload_n 0, 1) := by decide +kernel
theorem dX12_carryAll_76 : decode cX12_carryAll 76 = .ok (.getfield 13, 3) := by decide +kernel
theorem dX12_carryAll_79 : decode cX12_carryAll 79 = .ok (.iload_n 3, 1) := by decide +kernel
theorem dX12_carryAll_80 : decode cX12_carryAll 80 = .ok (.aload_n 0, 1) := by decide +kernel
theorem dX12_carryAll_81 : decode cX12_carryAll 81 = .ok (.aload_n 0, 1) := by decide +kernel
theorem dX12_carryAll_82 : decode cX12_carryAll 82 = .ok (.getfield 13, 3) := by decide +kernel
theorem dX12_carryAll_85 : decode cX12_carryAll 85 = .ok (.iload_n 3, 1) := by decide +kernel
theorem dX12_carryAll_86 : decode cX12_carryAll 86 = .ok (.iaload, 1) := by decide +kernel
theorem dX12_carryAll_87 : decode cX12_carryAll 87 = .ok (.invokevirtual 177, 3) := by decide +kernel
theorem dX12_carryAll_90 : decode cX12_carryAll 90 = .ok (.iastore, 1) := by decide +kernel
theorem dX12_carryAll_91 : decode cX12_carryAll 91 = .ok (.aload_n 0, 1) := by decide +kernel
theorem dX12_carryAll_92 : decode cX12_carryAll 92 = .ok (.getfield 16, 3) := by decide +kernel
theorem dX12_carryAll_95 : decode cX12_carryAll 95 = .ok (.iload_n 3, 1) := by decide +kernel
theorem dX12_carryAll_96 : decode cX12_carryAll 96 = .ok (.aload_n 0, 1) := by decide +kernel
theorem dX12_carryAll_97 : decode cX12_carryAll 97 = .ok (.aload_n 0, 1) := by decide +kernel
theorem dX12_carryAll_98 : decode cX12_carryAll 98 = .ok (.getfield 16, 3) := by decide +kernel
theorem dX12_carryAll_101 : decode cX12_carryAll 101 = .ok (.iload_n 3, 1) := by decide +kernel
theorem dX12_carryAll_102 : decode cX12_carryAll 102 = .ok (.iaload, 1) := by decide +kernel
theorem dX12_carryAll_103 : decode cX12_carryAll 103 = .ok (.invokevirtual 177, 3) := by decide +kernel
theorem dX12_carryAll_106 : decode cX12_carryAll 106 = .ok (.iastore, 1) := by decide +kernel
theorem dX12_carryAll_107 : decode cX12_carryAll 107 = .ok (.iinc 3 1, 3) := by decide +kernel
theorem dX12_carryAll_110 : decode cX12_carryAll 110 = .ok (.goto (-57), 3) := by decide +kernel
theorem dX12_carryAll_113 : decode cX12_carryAll 113 = .ok (.iconst 0, 1) := by decide +kernel
theorem dX12_carryAll_114 : decode cX12_carryAll 114 = .ok (.istore_n 3, 1) := by decide +kernel
theorem dX12_carryAll_115 : decode cX12_carryAll 115 = .ok (.iload_n 3, 1) := by decide +kernel
theorem dX12_carryAll_116 : decode cX12_carryAll 116 = .ok (.bipush 49, 2) := by decide +kernel
theorem dX12_carryAll_118 : decode cX12_carryAll 118 = .ok (.if_icmp .ge 25, 3) := by decide +kernel
theorem dX12_carryAll_121 : decode cX12_carryAll 121 = .ok (.aload_n 0, 1) := by decide +kernel
theorem dX12_carryAll_122 : decode cX12_carryAll 122 = .ok (.getfield 19, 3) := by decide +kernel
theorem dX12_carryAll_125 : decode cX12_carryAll 125 = .ok (.iload_n 3, 1) := by decide +kernel
theorem dX12_carryAll_126 : decode cX12_carryAll 126 = .ok (.aload_n 0, 1) := by decide +kernel
theorem dX12_carryAll_127 : decode cX12_carryAll 127 = .ok (.aload_n 0, 1) := by decide +kernel
theorem dX12_carryAll_128 : decode cX12_carryAll 128 = .ok (.getfield 19, 3) := by decide +kernel
theorem dX12_carryAll_131 : decode cX12_carryAll 131 = .ok (.iload_n 3, 1) := by decide +kernel
theorem dX12_carryAll_132 : decode cX12_carryAll 132 = .ok (.iaload, 1) := by decide +kernel
theorem dX12_carryAll_133 : decode cX12_carryAll 133 = .ok (.invokevirtual 177, 3) := by decide +kernel
theorem dX12_carryAll_136 : decode cX12_carryAll 136 = .ok (.iastore, 1) := by decide +kernel
theorem dX12_carryAll_137 : decode cX12_carryAll 137 = .ok (.iinc 3 1, 3) := by decide +kernel
theorem dX12_carryAll_140 : decode cX12_carryAll 140 = .ok (.goto (-25), 3) := by decide +kernel
theorem dX12_carryAll_143 : decode cX12_carryAll 143 = .ok (.return_, 1) := by decide +kernel
set_option maxRecDepth 20000 in
theorem ggX12_open_X12_carryAll : GoodIn wsX12_open wsX12_carryAll := goodIn_r _ [6, 7, 8, 9, 10, 11, 12, 13, 14, 15, 16, 17, 18, 19, 5, 20, 21, 22, 23, 24, 25, 26, 27, 28, 29, 30, 31, 32, 33, 34, 35, 36, 37, 38, 39, 40, 41, 42, 43, 44, 45, 46, 47, 48, 49, 50, 51] (by decide +kernel) (by decide +kernel)
set_option maxRecDepth 20000 in
theorem gX12_open_X12_carryAll : GoodIn wsX12_open (wsV RX12 180 RX12 yX12_carryAll wsX12_carryAll) := goodIn_app (goodIn_of _ (by decide +kernel)) ggX12_open_X12_carryAll
theorem dX12_open_0 : decode cX12_open 0 = .ok (.aload_n 0, 1) := by decide +kernel
theorem dX12_open_1 : decode cX12_open 1 = .ok (.aload_n 0, 1) := by decide +kernel
theorem dX12_open_2 : decode cX12_open 2 = .ok (.getfield 50, 3) := by decide +kernel
theorem dX12_open_5 : decode cX12_open 5 = .ok (.iconst 1, 1) := by decide +kernel
theorem dX12_open_6 : decode cX12_open 6 = .ok (.invokevirtual 180, 3) := by decide +kernel
theorem dX12_open_9 : decode cX12_open 9 = .ok (.return_, 1) := by decide +kernel
set_option maxRecDepth 20000 in
theorem ggX12_close_X12_carryAll : GoodIn wsX12_close wsX12_carryAll := goodIn_r _ [6, 7, 8, 9, 10, 11, 12, 13, 14, 15, 16, 17, 18, 19, 5, 20, 21, 22, 23, 24, 25, 26, 27, 28, 29, 30, 31, 32, 33, 34, 35, 36, 37, 38, 39, 40, 41, 42, 43, 44, 45, 46, 47, 48, 49, 50, 51] (by decide +kernel) (by decide +kernel)
set_option maxRecDepth 20000 in
theorem gX12_close_X12_carryAll : GoodIn wsX12_close (wsV RX12 180 RX12 yX12_carryAll wsX12_carryAll) := goodIn_app (goodIn_of _ (by decide +kernel)) ggX12_close_X12_carryAll
theorem dX12_close_0 : decode cX12_close 0 = .ok (.aload_n 0, 1) := by decide +kernel
theorem dX12_close_1 : decode cX12_close 1 = .ok (.aload_n 0, 1) := by decide +kernel
theorem dX12_close_2 : decode cX12_close 2 = .ok (.getfield 50, 3) := by decide +kernel
theorem dX12_close_5 : decode cX12_close 5 = .ok (.iconst 0, 1) := by decide +kernel
theorem dX12_close_6 : decode cX12_close 6 = .ok (.invokevirtual 180, 3) := by decide +kernel
theorem dX12_close_9 : decode cX12_close 9 = .ok (.return_, 1) := by decide +kernel
set_option maxRecDepth 20000 in
theorem ggX12_image_X12_carryAll : GoodIn wsX12_image wsX12_carryAll := goodIn_r _ [9, 10, 11, 12, 13, 14, 4, 15, 16, 17, 18, 19, 20, 21, 8, 22, 23, 24, 25, 26, 27, 28, 29, 30, 31, 32, 33, 34, 35, 36, 37, 38, 39, 40, 41, 42, 43, 44, 45, 46, 47, 48, 49, 50, 51, 52, 53] (by decide +kernel) (by decide +kernel)
set_option maxRecDepth 20000 in
theorem gX12_image_X12_carryAll : GoodIn wsX12_image (wsV RX12 180 RX12 yX12_carryAll wsX12_carryAll) := goodIn_app (goodIn_of _ (by decide +kernel)) ggX12_image_X12_carryAll
theorem dX12_image_0 : decode cX12_image 0 = .ok (.aload_n 0, 1) := by decide +kernel
theorem dX12_image_1 : decode cX12_image 1 = .ok (.iconst 0, 1) := by decide +kernel
theorem dX12_image_2 : decode cX12_image 2 = .ok (.putfield 65, 3) := by decide +kernel
theorem dX12_image_5 : decode cX12_image 5 = .ok (.aload_n 0, 1) := by decide +kernel
theorem dX12_image_6 : decode cX12_image 6 = .ok (.iconst 1, 1) := by decide +kernel
theorem dX12_image_7 : decode cX12_image 7 = .ok (.putfield 184, 3) := by decide +kernel
theorem dX12_image_10 : decode cX12_image 10 = .ok (.aload_n 0, 1) := by decide +kernel
theorem dX12_image_11 : decode cX12_image 11 = .ok (.aload_n 0, 1) := by decide +kernel
theorem dX12_image_12 : decode cX12_image 12 = .ok (.getfield 53, 3) := by decide +kernel
theorem dX12_image_15 : decode cX12_image 15 = .ok (.iconst 1, 1) := by decide +kernel
theorem dX12_image_16 : decode cX12_image 16 = .ok (.invokevirtual 180, 3) := by decide +kernel
theorem dX12_image_19 : decode cX12_image 19 = .ok (.aload_n 0, 1) := by decide +kernel
theorem dX12_image_20 : decode cX12_image 20 = .ok (.getfield 132, 3) := by decide +kernel
theorem dX12_image_23 : decode cX12_image 23 = .ok (.ireturn, 1) := by decide +kernel
set_option maxRecDepth 20000 in
theorem ggX12_restore_X12_carryAll : GoodIn wsX12_restore wsX12_carryAll := goodIn_r _ [9, 10, 11, 12, 13, 14, 4, 15, 16, 17, 18, 19, 20, 21, 8, 22, 23, 24, 25, 26, 27, 28, 29, 30, 31, 32, 33, 34, 35, 36, 37, 38, 39, 40, 41, 42, 43, 44, 45, 46, 47, 48, 49, 50, 51, 52, 53] (by decide +kernel) (by decide +kernel)
set_option maxRecDepth 20000 in
theorem gX12_restore_X12_carryAll : GoodIn wsX12_restore (wsV RX12 180 RX12 yX12_carryAll wsX12_carryAll) := goodIn_app (goodIn_of _ (by decide +kernel)) ggX12_restore_X12_carryAll
theorem dX12_restore_0 : decode cX12_restore 0 = .ok (.aload_n 0, 1) := by decide +kernel
theorem dX12_restore_1 : decode cX12_restore 1 = .ok (.iconst 0, 1) := by decide +kernel
theorem dX12_restore_2 : decode cX12_restore 2 = .ok (.putfield 65, 3) := by decide +kernel
theorem dX12_restore_5 : decode cX12_restore 5 = .ok (.aload_n 0, 1) := by decide +kernel
theorem dX12_restore_6 : decode cX12_restore 6 = .ok (.getfield 184, 3) := by decide +kernel
theorem dX12_restore_9 : decode cX12_restore 9 = .ok (.ifCond .ne 6, 3) := by decide +kernel
theorem dX12_restore_12 : decode cX12_restore 12 = .ok (.bipush (-3), 2) := by decide +kernel
theorem dX12_restore_14 : decode cX12_restore 14 = .ok (.ireturn, 1) := by decide +kernel
theorem dX12_restore_15 : decode cX12_restore 15 = .ok (.aload_n 0, 1) := by decide +kernel
theorem dX12_restore_16 : decode cX12_restore 16 = .ok (.aload_n 0, 1) := by decide +kernel
theorem dX12_restore_17 : decode cX12_restore 17 = .ok (.getfield 53, 3) := by decide +kernel
theorem dX12_restore_20 : decode cX12_restore 20 = .ok (.iconst 0, 1) := by decide +kernel
theorem dX12_restore_21 : decode cX12_restore 21 = .ok (.invokevirtual 180, 3) := by decide +kernel
theorem dX12_restore_24 : decode cX12_restore 24 = .ok (.aload_n 0, 1) := by decide +kernel
theorem dX12_restore_25 : decode cX12_restore 25 = .ok (.getfield 132, 3) := by decide +kernel
theorem dX12_restore_28 : decode cX12_restore 28 = .ok (.ireturn, 1) := by decide +kernel
set_option maxRecDepth 20000 in
theorem ggX12_person_X12_isOne : GoodIn wsX12_person wsX12_isOne := goodIn_r _ [9, 10, 11, 12, 8, 13, 26, 27, 28, 29, 30, 31, 32, 33, 34, 35, 36, 37, 38, 39, 40, 41, 42, 43, 44, 45, 46, 47, 48, 49, 50, 51, 52, 53, 54, 55, 56] (by decide +kernel) (by decide +kernel)
set_option maxRecDepth 20000 in
theorem gX12_person_X12_isOne : GoodIn wsX12_person (wsV RX12 76 RX12 yX12_isOne wsX12_isOne) := goodIn_app (goodIn_of _ (by decide +kernel)) ggX12_person_X12_isOne
set_option maxRecDepth 20000 in
theorem ggX12_person_X12_growsOf : GoodIn wsX12_person wsX12_growsOf := goodIn_r _ [17, 3, 2, 26, 27, 28, 29, 30, 31, 32, 33, 34, 35, 36, 37, 38, 39, 40, 41, 42, 43, 44, 45, 46, 47, 48, 49, 50, 51, 52, 53, 54, 55, 56] (by decide +kernel) (by decide +kernel)
set_option maxRecDepth 20000 in
theorem gX12_person_X12_growsOf : GoodIn wsX12_person (wsV RX12 87 RX12 yX12_growsOf wsX12_growsOf) := goodIn_app (goodIn_of _ (by decide +kernel)) ggX12_person_X12_growsOf
set_option maxRecDepth 20000 in
theorem ggX12_person_X12_bearsOf : GoodIn wsX12_person wsX12_bearsOf := goodIn_r _ [21, 2, 26, 27, 28, 29, 30, 31, 32, 33, 34, 35, 36, 37, 38, 39, 40, 41, 42, 43, 44, 45, 46, 47, 48, 49, 50, 51, 52, 53, 54, 55, 56] (by decide +kernel) (by decide +kernel)
set_option maxRecDepth 20000 in
theorem gX12_person_X12_bearsOf : GoodIn wsX12_person (wsV RX12 80 RX12 yX12_bearsOf wsX12_bearsOf) := goodIn_app (goodIn_of _ (by decide +kernel)) ggX12_person_X12_bearsOf
set_option maxRecDepth 20000 in
theorem ggX12_person_X12_turnsOf : GoodIn wsX12_person wsX12_turnsOf := goodIn_r _ [25, 2, 3, 26, 27, 28, 29, 30, 31, 32, 33, 34, 35, 36, 37, 38, 39, 40, 41, 42, 43, 44, 45, 46, 47, 48, 49, 50, 51, 52, 53, 54, 55, 56] (by decide +kernel) (by decide +kernel)
set_option maxRecDepth 20000 in
theorem gX12_person_X12_turnsOf : GoodIn wsX12_person (wsV RX12 94 RX12 yX12_turnsOf wsX12_turnsOf) := goodIn_app (goodIn_of _ (by decide +kernel)) ggX12_person_X12_turnsOf
theorem dX12_person_0 : decode cX12_person 0 = .ok (.aload_n 0, 1) := by decide +kernel
theorem dX12_person_1 : decode cX12_person 1 = .ok (.iconst 0, 1) := by decide +kernel
theorem dX12_person_2 : decode cX12_person 2 = .ok (.putfield 65, 3) := by decide +kernel
theorem dX12_person_5 : decode cX12_person 5 = .ok (.aload_n 0, 1) := by decide +kernel
theorem dX12_person_6 : decode cX12_person 6 = .ok (.iload_n 1, 1) := by decide +kernel
theorem dX12_person_7 : decode cX12_person 7 = .ok (.invokevirtual 76, 3) := by decide +kernel
theorem dX12_person_10 : decode cX12_person 10 = .ok (.ifCond .ne 5, 3) := by decide +kernel
theorem dX12_person_13 : decode cX12_person 13 = .ok (.iconst (-1), 1) := by decide +kernel
theorem dX12_person_14 : decode cX12_person 14 = .ok (.ireturn, 1) := by decide +kernel
theorem dX12_person_15 : decode cX12_person 15 = .ok (.iload_n 2, 1) := by decide +kernel
theorem dX12_person_16 : decode cX12_person 16 = .ok (.tableswitch 82 0 5 #[40, 47, 54, 61, 67, 76], 40) := by decide +kernel
theorem dX12_person_56 : decode cX12_person 56 = .ok (.aload_n 0, 1) := by decide +kernel
theorem dX12_person_57 : decode cX12_person 57 = .ok (.getfield 7, 3) := by decide +kernel
theorem dX12_person_60 : decode cX12_person 60 = .ok (.iload_n 1, 1) := by decide +kernel
theorem dX12_person_61 : decode cX12_person 61 = .ok (.iaload, 1) := by decide +kernel
theorem dX12_person_62 : decode cX12_person 62 = .ok (.ireturn, 1) := by decide +kernel
theorem dX12_person_63 : decode cX12_person 63 = .ok (.aload_n 0, 1) := by decide +kernel
theorem dX12_person_64 : decode cX12_person 64 = .ok (.getfield 13, 3) := by decide +kernel
theorem dX12_person_67 : decode cX12_person 67 = .ok (.iload_n 1, 1) := by decide +kernel
theorem dX12_person_68 : decode cX12_person 68 = .ok (.iaload, 1) := by decide +kernel
theorem dX12_person_69 : decode cX12_person 69 = .ok (.ireturn, 1) := by decide +kernel
theorem dX12_person_70 : decode cX12_person 70 = .ok (.aload_n 0, 1) := by decide +kernel
theorem dX12_person_71 : decode cX12_person 71 = .ok (.getfield 16, 3) := by decide +kernel
theorem dX12_person_74 : decode cX12_person 74 = .ok (.iload_n 1, 1) := by decide +kernel
theorem dX12_person_75 : decode cX12_person 75 = .ok (.iaload, 1) := by decide +kernel
theorem dX12_person_76 : decode cX12_person 76 = .ok (.ireturn, 1) := by decide +kernel
theorem dX12_person_77 : decode cX12_person 77 = .ok (.aload_n 0, 1) := by decide +kernel
theorem dX12_person_78 : decode cX12_person 78 = .ok (.iload_n 1, 1) := by decide +kernel
theorem dX12_person_79 : decode cX12_person 79 = .ok (.invokevirtual 87, 3) := by decide +kernel
theorem dX12_person_82 : decode cX12_person 82 = .ok (.ireturn, 1) := by decide +kernel
theorem dX12_person_83 : decode cX12_person 83 = .ok (.aload_n 0, 1) := by decide +kernel
theorem dX12_person_84 : decode cX12_person 84 = .ok (.iload_n 1, 1) := by decide +kernel
theorem dX12_person_85 : decode cX12_person 85 = .ok (.invokevirtual 80, 3) := by decide +kernel
theorem dX12_person_88 : decode cX12_person 88 = .ok (.bipush 10, 2) := by decide +kernel
theorem dX12_person_90 : decode cX12_person 90 = .ok (.iadd, 1) := by decide +kernel
theorem dX12_person_91 : decode cX12_person 91 = .ok (.ireturn, 1) := by decide +kernel
theorem dX12_person_92 : decode cX12_person 92 = .ok (.aload_n 0, 1) := by decide +kernel
theorem dX12_person_93 : decode cX12_person 93 = .ok (.iload_n 1, 1) := by decide +kernel
theorem dX12_person_94 : decode cX12_person 94 = .ok (.invokevirtual 94, 3) := by decide +kernel
theorem dX12_person_97 : decode cX12_person 97 = .ok (.ireturn, 1) := by decide +kernel
theorem dX12_person_98 : decode cX12_person 98 = .ok (.iconst (-1), 1) := by decide +kernel
theorem dX12_person_99 : decode cX12_person 99 = .ok (.ireturn, 1) := by decide +kernel
set_option maxRecDepth 20000 in
theorem ggX12_fond_X12_areTwo : GoodIn wsX12_fond wsX12_areTwo := goodIn_r _ [7, 8, 9, 10, 6, 11, 12, 13, 14, 15, 16, 17, 18, 19, 20, 21, 22, 23, 24, 25, 26, 27, 28, 29, 30, 31, 32, 33, 34, 35, 36, 37, 38, 39, 40, 41, 42, 43, 44, 45, 46] (by decide +kernel) (by decide +kernel)
set_option maxRecDepth 20000 in
theorem gX12_fond_X12_areTwo : GoodIn wsX12_fond (wsV RX12 135 RX12 yX12_areTwo wsX12_areTwo) := goodIn_app (goodIn_of _ (by decide +kernel)) ggX12_fond_X12_areTwo
theorem dX12_fond_0 : decode cX12_fond 0 = .ok (.aload_n 0, 1) := by decide +kernel
theorem dX12_fond_1 : decode cX12_fond 1 = .ok (.iconst 0, 1) := by decide +kernel
theorem dX12_fond_2 : decode cX12_fond 2 = .ok (.putfield 65, 3) := by decide +kernel
theorem dX12_fond_5 : decode cX12_fond 5 = .ok (.aload_n 0, 1) := by decide +kernel
theorem dX12_fond_6 : decode cX12_fond 6 = .ok (.iload_n 1, 1) := by decide +kernel
theorem dX12_fond_7 : decode cX12_fond 7 = .ok (.iload_n 2, 1) := by decide +kernel
theorem dX12_fond_8 : decode cX12_fond 8 = .ok (.invokevirtual 135, 3) := by decide +kernel
theorem dX12_fond_11 : decode cX12_fond 11 = .ok (.ifCond .eq 17, 3) := by decide +kernel
theorem dX12_fond_14 : decode cX12_fond 14 = .ok (.aload_n 0, 1) := by decide +kernel
theorem dX12_fond_15 : decode cX12_fond 15 = .ok (.getfield 19, 3) := by decide +kernel
theorem dX12_fond_18 : decode cX12_fond 18 = .ok (.bipush 7, 2) := by decide +kernel
theorem dX12_fond_20 : decode cX12_fond 20 = .ok (.iload_n 1, 1) := by decide +kernel
theorem dX12_fond_21 : decode cX12_fond 21 = .ok (.imul, 1) := by decide +kernel
theorem dX12_fond_22 : decode cX12_fond 22 = .ok (.iload_n 2, 1) := by decide +kernel
theorem dX12_fond_23 : decode cX12_fond 23 = .ok (.iadd, 1) := by decide +kernel
theorem dX12_fond_24 : decode cX12_fond 24 = .ok (.iaload, 1) := by decide +kernel
theorem dX12_fond_25 : decode cX12_fond 25 = .ok (.goto 4, 3) := by decide +kernel
theorem dX12_fond_28 : decode cX12_fond 28 = .ok (.iconst (-1), 1) := by decide +kernel
theorem dX12_fond_29 : decode cX12_fond 29 = .ok (.ireturn, 1) := by decide +kernel
set_option maxRecDepth 20000 in
theorem ggX12_wrongKept_X12_in : GoodIn wsX12_wrongKept wsX12_in := goodIn_r _ [6] (by decide +kernel) (by decide +kernel)
set_option maxRecDepth 20000 in
theorem gX12_wrongKept_X12_in : GoodIn wsX12_wrongKept (va_wsS RX12 72 yX12_in wsX12_in) := goodIn_app (goodIn_of _ (by decide +kernel)) ggX12_wrongKept_X12_in
theorem dX12_wrongKept_0 : decode cX12_wrongKept 0 = .ok (.iload_n 1, 1) := by decide +kernel
theorem dX12_wrongKept_1 : decode cX12_wrongKept 1 = .ok (.i2l, 1) := by decide +kernel
theorem dX12_wrongKept_2 : decode cX12_wrongKept 2 = .ok (.lconst 0, 1) := by decide +kernel
theorem dX12_wrongKept_3 : decode cX12_wrongKept 3 = .ok (.ldc2_w 187, 3) := by decide +kernel
theorem dX12_wrongKept_6 : decode cX12_wrongKept 6 = .ok (.invokestatic 72, 3) := by decide +kernel
theorem dX12_wrongKept_9 : decode cX12_wrongKept 9 = .ok (.ifCond .ne 7, 3) := by decide +kernel
theorem dX12_wrongKept_12 : decode cX12_wrongKept 12 = .ok (.iconst (-1), 1) := by decide +kernel
theorem dX12_wrongKept_13 : decode cX12_wrongKept 13 = .ok (.goto 33, 3) := by decide +kernel
theorem dX12_wrongKept_16 : decode cX12_wrongKept 16 = .ok (.aload_n 0, 1) := by decide +kernel
theorem dX12_wrongKept_17 : decode cX12_wrongKept 17 = .ok (.getfield 22, 3) := by decide +kernel
theorem dX12_wrongKept_20 : decode cX12_wrongKept 20 = .ok (.iload_n 1, 1) := by decide +kernel
theorem dX12_wrongKept_21 : decode cX12_wrongKept 21 = .ok (.iaload, 1) := by decide +kernel
theorem dX12_wrongKept_22 : decode cX12_wrongKept 22 = .ok (.ifCond .ne 8, 3) := by decide +kernel
theorem dX12_wrongKept_25 : decode cX12_wrongKept 25 = .ok (.bipush (-11), 2) := by decide +kernel
theorem dX12_wrongKept_27 : decode cX12_wrongKept 27 = .ok (.goto 19, 3) := by decide +kernel
theorem dX12_wrongKept_30 : decode cX12_wrongKept 30 = .ok (.aload_n 0, 1) := by decide +kernel
theorem dX12_wrongKept_31 : decode cX12_wrongKept 31 = .ok (.getfield 22, 3) := by decide +kernel
theorem dX12_wrongKept_34 : decode cX12_wrongKept 34 = .ok (.iload_n 1, 1) := by decide +kernel
theorem dX12_wrongKept_35 : decode cX12_wrongKept 35 = .ok (.iaload, 1) := by decide +kernel
theorem dX12_wrongKept_36 : decode cX12_wrongKept 36 = .ok (.iconst 1, 1) := by decide +kernel
theorem dX12_wrongKept_37 : decode cX12_wrongKept 37 = .ok (.if_icmp .eq 8, 3) := by decide +kernel
theorem dX12_wrongKept_40 : decode cX12_wrongKept 40 = .ok (.bipush (-12), 2) := by decide +kernel
theorem dX12_wrongKept_42 : decode cX12_wrongKept 42 = .ok (.goto 4, 3) := by decide +kernel
theorem dX12_wrongKept_45 : decode cX12_wrongKept 45 = .ok (.iconst 0, 1) := by decide +kernel
theorem dX12_wrongKept_46 : decode cX12_wrongKept 46 = .ok (.ireturn, 1) := by decide +kernel
set_option maxRecDepth 20000 in
theorem ggX12_comes_X12_wrongKept : GoodIn wsX12_comes wsX12_wrongKept := goodIn_r _ [9, 10, 11, 12, 13, 8, 14, 23, 24, 25, 26, 27, 28, 29, 30, 31, 32, 33, 34, 35, 36, 37, 38, 39, 40, 41, 42, 43, 44, 45, 46, 47, 48, 49, 50, 51, 52, 53] (by decide +kernel) (by decide +kernel)
set_option maxRecDepth 20000 in
theorem gX12_comes_X12_wrongKept : GoodIn wsX12_comes (wsV RX12 189 RX12 yX12_wrongKept wsX12_wrongKept) := goodIn_app (goodIn_of _ (by decide +kernel)) ggX12_comes_X12_wrongKept
set_option maxRecDepth 20000 in
theorem ggX12_comes_X12_personComes : GoodIn wsX12_comes wsX12_personComes := goodIn_r _ [18, 4, 19, 20, 21, 22, 23, 24, 25, 26, 27, 28, 29, 30, 31, 32, 33, 34, 35, 36, 37, 38, 39, 40, 41, 42, 43, 44, 45, 46, 47, 48, 49, 50, 51, 52, 53] (by decide +kernel) (by decide +kernel)
set_option maxRecDepth 20000 in
theorem gX12_comes_X12_personComes : GoodIn wsX12_comes (wsV RX12 147 RX12 yX12_personComes wsX12_personComes) := goodIn_app (goodIn_of _ (by decide +kernel)) ggX12_comes_X12_personComes
theorem dX12_comes_0 : decode cX12_comes 0 = .ok (.aload_n 0, 1) := by decide +kernel
theorem dX12_comes_1 : decode cX12_comes 1 = .ok (.iconst 0, 1) := by decide +kernel
theorem dX12_comes_2 : decode cX12_comes 2 = .ok (.putfield 65, 3) := by decide +kernel
theorem dX12_comes_5 : decode cX12_comes 5 = .ok (.aload_n 0, 1) := by decide +kernel
theorem dX12_comes_6 : decode cX12_comes 6 = .ok (.iload_n 1, 1) := by decide +kernel
theorem dX12_comes_7 : decode cX12_comes 7 = .ok (.invokevirtual 189, 3) := by decide +kernel
theorem dX12_comes_10 : decode cX12_comes 10 = .ok (.ifCond .ge 9, 3) := by decide +kernel
theorem dX12_comes_13 : decode cX12_comes 13 = .ok (.aload_n 0, 1) := by decide +kernel
theorem dX12_comes_14 : decode cX12_comes 14 = .ok (.iload_n 1, 1) := by decide +kernel
theorem dX12_comes_15 : decode cX12_comes 15 = .ok (.invokevirtual 189, 3) := by decide +kernel
theorem dX12_comes_18 : decode cX12_comes 18 = .ok (.ireturn, 1) := by decide +kernel
theorem dX12_comes_19 : decode cX12_comes 19 = .ok (.aload_n 0, 1) := by decide +kernel
theorem dX12_comes_20 : decode cX12_comes 20 = .ok (.aload_n 0, 1) := by decide +kernel
theorem dX12_comes_21 : decode cX12_comes 21 = .ok (.getfield 25, 3) := by decide +kernel
theorem dX12_comes_24 : decode cX12_comes 24 = .ok (.iload_n 1, 1) := by decide +kernel
theorem dX12_comes_25 : decode cX12_comes 25 = .ok (.iaload, 1) := by decide +kernel
theorem dX12_comes_26 : decode cX12_comes 26 = .ok (.aload_n 0, 1) := by decide +kernel
theorem dX12_comes_27 : decode cX12_comes 27 = .ok (.getfield 28, 3) := by decide +kernel
theorem dX12_comes_30 : decode cX12_comes 30 = .ok (.iload_n 1, 1) := by decide +kernel
theorem dX12_comes_31 : decode cX12_comes 31 = .ok (.iaload, 1) := by decide +kernel
theorem dX12_comes_32 : decode cX12_comes 32 = .ok (.invokevirtual 147, 3) := by decide +kernel
theorem dX12_comes_35 : decode cX12_comes 35 = .ok (.ifCond .eq 12, 3) := by decide +kernel
theorem dX12_comes_38 : decode cX12_comes 38 = .ok (.aload_n 0, 1) := by decide +kernel
theorem dX12_comes_39 : decode cX12_comes 39 = .ok (.getfield 69, 3) := by decide +kernel
theorem dX12_comes_42 : decode cX12_comes 42 = .ok (.iconst 1, 1) := by decide +kernel
theorem dX12_comes_43 : decode cX12_comes 43 = .ok (.isub, 1) := by decide +kernel
theorem dX12_comes_44 : decode cX12_comes 44 = .ok (.goto 5, 3) := by decide +kernel
theorem dX12_comes_47 : decode cX12_comes 47 = .ok (.bipush (-2), 2) := by decide +kernel
theorem dX12_comes_49 : decode cX12_comes 49 = .ok (.ireturn, 1) := by decide +kernel
set_option maxRecDepth 20000 in
theorem ggX12_feels_X12_areTwo : GoodIn wsX12_feels wsX12_areTwo := goodIn_r _ [8, 9, 10, 11, 7, 12, 13, 14, 15, 16, 17, 18, 19, 20, 21, 22, 23, 24, 25, 26, 27, 28, 29, 30, 31, 32, 33, 34, 35, 36, 37, 38, 39, 40, 41, 42, 43, 44, 45, 46, 47] (by decide +kernel) (by decide +kernel)
set_option maxRecDepth 20000 in
theorem gX12_feels_X12_areTwo : GoodIn wsX12_feels (wsV RX12 135 RX12 yX12_areTwo wsX12_areTwo) := goodIn_app (goodIn_of _ (by decide +kernel)) ggX12_feels_X12_areTwo
set_option maxRecDepth 20000 in
theorem ggX12_feels_X12_in : GoodIn wsX12_feels wsX12_in := goodIn_r _ [16] (by decide +kernel) (by decide +kernel)
set_option maxRecDepth 20000 in
theorem gX12_feels_X12_in : GoodIn wsX12_feels (va_wsS RX12 72 yX12_in wsX12_in) := goodIn_app (goodIn_of _ (by decide +kernel)) ggX12_feels_X12_in
theorem dX12_feels_0 : decode cX12_feels 0 = .ok (.aload_n 0, 1) := by decide +kernel
theorem dX12_feels_1 : decode cX12_feels 1 = .ok (.iconst 0, 1) := by decide +kernel
theorem dX12_feels_2 : decode cX12_feels 2 = .ok (.putfield 65, 3) := by decide +kernel
theorem dX12_feels_5 : decode cX12_feels 5 = .ok (.aload_n 0, 1) := by decide +kernel
theorem dX12_feels_6 : decode cX12_feels 6 = .ok (.iload_n 1, 1) := by decide +kernel
theorem dX12_feels_7 : decode cX12_feels 7 = .ok (.iload_n 2, 1) := by decide +kernel
theorem dX12_feels_8 : decode cX12_feels 8 = .ok (.invokevirtual 135, 3) := by decide +kernel
theorem dX12_feels_11 : decode cX12_feels 11 = .ok (.ifCond .eq 15, 3) := by decide +kernel
theorem dX12_feels_14 : decode cX12_feels 14 = .ok (.iload_n 3, 1) := by decide +kernel
theorem dX12_feels_15 : decode cX12_feels 15 = .ok (.i2l, 1) := by decide +kernel
theorem dX12_feels_16 : decode cX12_feels 16 = .ok (.lconst 0, 1) := by decide +kernel
theorem dX12_feels_17 : decode cX12_feels 17 = .ok (.ldc2_w 192, 3) := by decide +kernel
theorem dX12_feels_20 : decode cX12_feels 20 = .ok (.invokestatic 72, 3) := by decide +kernel
theorem dX12_feels_23 : decode cX12_feels 23 = .ok (.ifCond .ne 5, 3) := by decide +kernel
theorem dX12_feels_26 : decode cX12_feels 26 = .ok (.iconst (-1), 1) := by decide +kernel
theorem dX12_feels_27 : decode cX12_feels 27 = .ok (.ireturn, 1) := by decide +kernel
theorem dX12_feels_28 : decode cX12_feels 28 = .ok (.aload_n 0, 1) := by decide +kernel
theorem dX12_feels_29 : decode cX12_feels 29 = .ok (.getfield 19, 3) := by decide +kernel
theorem dX12_feels_32 : decode cX12_feels 32 = .ok (.bipush 7, 2) := by decide +kernel
theorem dX12_feels_34 : decode cX12_feels 34 = .ok (.iload_n 1, 1) := by decide +kernel
theorem dX12_feels_35 : decode cX12_feels 35 = .ok (.imul, 1) := by decide +kernel
theorem dX12_feels_36 : decode cX12_feels 36 = .ok (.iload_n 2, 1) := by decide +kernel
theorem dX12_feels_37 : decode cX12_feels 37 = .ok (.iadd, 1) := by decide +kernel
theorem dX12_feels_38 : decode cX12_feels 38 = .ok (.iaload, 1) := by decide +kernel
theorem dX12_feels_39 : decode cX12_feels 39 = .ok (.istore 4, 2) := by decide +kernel
theorem dX12_feels_41 : decode cX12_feels 41 = .ok (.aload_n 0, 1) := by decide +kernel
theorem dX12_feels_42 : decode cX12_feels 42 = .ok (.getfield 19, 3) := by decide +kernel
theorem dX12_feels_45 : decode cX12_feels 45 = .ok (.bipush 7, 2) := by decide +kernel
theorem dX12_feels_47 : decode cX12_feels 47 = .ok (.iload_n 1, 1) := by decide +kernel
theorem dX12_feels_48 : decode cX12_feels 48 = .ok (.imul, 1) := by decide +kernel
theorem dX12_feels_49 : decode cX12_feels 49 = .ok (.iload_n 2, 1) := by decide +kernel
theorem dX12_feels_50 : decode cX12_feels 50 = .ok (.iadd, 1) := by decide +kernel
theorem dX12_feels_51 : decode cX12_feels 51 = .ok (.iload_n 3, 1) := by decide +kernel
theorem dX12_feels_52 : decode cX12_feels 52 = .ok (.iastore, 1) := by decide +kernel
theorem dX12_feels_53 : decode cX12_feels 53 = .ok (.iload 4, 2) := by decide +kernel
theorem dX12_feels_55 : decode cX12_feels 55 = .ok (.ireturn, 1) := by decide +kernel
set_option maxRecDepth 20000 in
theorem ggX12_limit_X12_in : GoodIn wsX12_limit wsX12_in := goodIn_r _ [7] (by decide +kernel) (by decide +kernel)
set_option maxRecDepth 20000 in
theorem gX12_limit_X12_in : GoodIn wsX12_limit (va_wsS RX12 72 yX12_in wsX12_in) := goodIn_app (goodIn_of _ (by decide +kernel)) ggX12_limit_X12_in
theorem dX12_limit_0 : decode cX12_limit 0 = .ok (.aload_n 0, 1) := by decide +kernel
theorem dX12_limit_1 : decode cX12_limit 1 = .ok (.iconst 0, 1) := by decide +kernel
theorem dX12_limit_2 : decode cX12_limit 2 = .ok (.putfield 65, 3) := by decide +kernel
theorem dX12_limit_5 : decode cX12_limit 5 = .ok (.iload_n 1, 1) := by decide +kernel
theorem dX12_limit_6 : decode cX12_limit 6 = .ok (.i2l, 1) := by decide +kernel
theorem dX12_limit_7 : decode cX12_limit 7 = .ok (.lconst 0, 1) := by decide +kernel
theorem dX12_limit_8 : decode cX12_limit 8 = .ok (.ldc2_w 192, 3) := by decide +kernel
theorem dX12_limit_11 : decode cX12_limit 11 = .ok (.invokestatic 72, 3) := by decide +kernel
theorem dX12_limit_14 : decode cX12_limit 14 = .ok (.ifCond .ne 5, 3) := by decide +kernel
theorem dX12_limit_17 : decode cX12_limit 17 = .ok (.iconst (-1), 1) := by decide +kernel
theorem dX12_limit_18 : decode cX12_limit 18 = .ok (.ireturn, 1) := by decide +kernel
theorem dX12_limit_19 : decode cX12_limit 19 = .ok (.aload_n 0, 1) := by decide +kernel
theorem dX12_limit_20 : decode cX12_limit 20 = .ok (.getfield 84, 3) := by decide +kernel
theorem dX12_limit_23 : decode cX12_limit 23 = .ok (.istore_n 2, 1) := by decide +kernel
theorem dX12_limit_24 : decode cX12_limit 24 = .ok (.aload_n 0, 1) := by decide +kernel
theorem dX12_limit_25 : decode cX12_limit 25 = .ok (.iload_n 1, 1) := by decide +kernel
theorem dX12_limit_26 : decode cX12_limit 26 = .ok (.putfield 84, 3) := by decide +kernel
theorem dX12_limit_29 : decode cX12_limit 29 = .ok (.iload_n 2, 1) := by decide +kernel
theorem dX12_limit_30 : decode cX12_limit 30 = .ok (.ireturn, 1) := by decide +kernel
set_option maxRecDepth 20000 in
theorem ggX12_sees_X12_areTwo : GoodIn wsX12_sees wsX12_areTwo := goodIn_r _ [7, 8, 9, 10, 6, 11, 12, 13, 14, 15, 34, 35, 36, 37, 38, 39, 40, 41, 42, 43, 44, 45, 46, 47, 48, 49, 50, 51, 52, 53, 54, 55, 56, 57, 58, 59, 60, 61, 62, 63, 64] (by decide +kernel) (by decide +kernel)
set_option maxRecDepth 20000 in
theorem gX12_sees_X12_areTwo : GoodIn wsX12_sees (wsV RX12 135 RX12 yX12_areTwo wsX12_areTwo) := goodIn_app (goodIn_of _ (by decide +kernel)) ggX12_sees_X12_areTwo
set_option maxRecDepth 20000 in
theorem ggX12_sees_X12_daysPass : GoodIn wsX12_sees wsX12_daysPass := goodIn_r _ [19, 20, 34, 35, 36, 37, 38, 39, 40, 41, 42, 43, 44, 45, 46, 47, 48, 49, 50, 51, 52, 53, 54, 55, 56, 57, 58, 59, 60, 61, 62, 63, 64] (by decide +kernel) (by decide +kernel)
set_option maxRecDepth 20000 in
theorem gX12_sees_X12_daysPass : GoodIn wsX12_sees (wsV RX12 141 RX12 yX12_daysPass wsX12_daysPass) := goodIn_app (goodIn_of _ (by decide +kernel)) ggX12_sees_X12_daysPass
set_option maxRecDepth 20000 in
theorem ggX12_sees_X12_grow : GoodIn wsX12_sees wsX12_grow := goodIn_r _ [24, 2, 25, 26, 27, 6, 28, 29, 30, 31, 32, 33, 34, 35, 36, 37, 38, 39, 40, 41, 42, 43, 44, 45, 46, 47, 48, 49, 50, 51, 52, 53, 54, 55, 56, 57, 58, 59, 60, 61, 62, 63, 64] (by decide +kernel) (by decide +kernel)
set_option maxRecDepth 20000 in
theorem gX12_sees_X12_grow : GoodIn wsX12_sees (wsV RX12 97 RX12 yX12_grow wsX12_grow) := goodIn_app (goodIn_of _ (by decide +kernel)) ggX12_sees_X12_grow
theorem dX12_sees_0 : decode cX12_sees 0 = .ok (.aload_n 0, 1) := by decide +kernel
theorem dX12_sees_1 : decode cX12_sees 1 = .ok (.iconst 0, 1) := by decide +kernel
theorem dX12_sees_2 : decode cX12_sees 2 = .ok (.putfield 65, 3) := by decide +kernel
theorem dX12_sees_5 : decode cX12_sees 5 = .ok (.aload_n 0, 1) := by decide +kernel
theorem dX12_sees_6 : decode cX12_sees 6 = .ok (.iload_n 1, 1) := by decide +kernel
theorem dX12_sees_7 : decode cX12_sees 7 = .ok (.iload_n 2, 1) := by decide +kernel
theorem dX12_sees_8 : decode cX12_sees 8 = .ok (.invokevirtual 135, 3) := by decide +kernel
theorem dX12_sees_11 : decode cX12_sees 11 = .ok (.ifCond .ne 5, 3) := by decide +kernel
theorem dX12_sees_14 : decode cX12_sees 14 = .ok (.iconst (-1), 1) := by decide +kernel
theorem dX12_sees_15 : decode cX12_sees 15 = .ok (.ireturn, 1) := by decide +kernel
theorem dX12_sees_16 : decode cX12_sees 16 = .ok (.aload_n 0, 1) := by decide +kernel
theorem dX12_sees_17 : decode cX12_sees 17 = .ok (.iconst 1, 1) := by decide +kernel
theorem dX12_sees_18 : decode cX12_sees 18 = .ok (.invokevirtual 141, 3) := by decide +kernel
theorem dX12_sees_21 : decode cX12_sees 21 = .ok (.ifCond .ne 6, 3) := by decide +kernel
theorem dX12_sees_24 : decode cX12_sees 24 = .ok (.bipush (-3), 2) := by decide +kernel
theorem dX12_sees_26 : decode cX12_sees 26 = .ok (.ireturn, 1) := by decide +kernel
theorem dX12_sees_27 : decode cX12_sees 27 = .ok (.aload_n 0, 1) := by decide +kernel
theorem dX12_sees_28 : decode cX12_sees 28 = .ok (.iload_n 1, 1) := by decide +kernel
theorem dX12_sees_29 : decode cX12_sees 29 = .ok (.iload_n 2, 1) := by decide +kernel
theorem dX12_sees_30 : decode cX12_sees 30 = .ok (.invokevirtual 97, 3) := by decide +kernel
theorem dX12_sees_33 : decode cX12_sees 33 = .ok (.aload_n 0, 1) := by decide +kernel
theorem dX12_sees_34 : decode cX12_sees 34 = .ok (.getfield 19, 3) := by decide +kernel
theorem dX12_sees_37 : decode cX12_sees 37 = .ok (.bipush 7, 2) := by decide +kernel
theorem dX12_sees_39 : decode cX12_sees 39 = .ok (.iload_n 1, 1) := by decide +kernel
theorem dX12_sees_40 : decode cX12_sees 40 = .ok (.imul, 1) := by decide +kernel
theorem dX12_sees_41 : decode cX12_sees 41 = .ok (.iload_n 2, 1) := by decide +kernel
theorem dX12_sees_42 : decode cX12_sees 42 = .ok (.iadd, 1) := by decide +kernel
theorem dX12_sees_43 : decode cX12_sees 43 = .ok (.iaload, 1) := by decide +kernel
theorem dX12_sees_44 : decode cX12_sees 44 = .ok (.ireturn, 1) := by decide +kernel
set_option maxRecDepth 20000 in
theorem ggX12_turnsFor_X12_areTwo : GoodIn wsX12_turnsFor wsX12_areTwo := goodIn_r _ [7, 8, 9, 10, 6, 11, 12, 13, 14, 15, 60, 61, 62, 63, 64, 65, 66, 67, 68, 69, 70, 71, 72, 73, 74, 75, 76, 77, 78, 79, 80, 81, 82, 83, 84, 85, 86, 87, 88, 89, 90] (by decide +kernel) (by decide +kernel)
set_option maxRecDepth 20000 in
theorem gX12_turnsFor_X12_areTwo : GoodIn wsX12_turnsFor (wsV RX12 135 RX12 yX12_areTwo wsX12_areTwo) := goodIn_app (goodIn_of _ (by decide +kernel)) ggX12_turnsFor_X12_areTwo
set_option maxRecDepth 20000 in
theorem ggX12_turnsFor_X12_turning : GoodIn wsX12_turnsFor wsX12_turning := goodIn_r _ [19, 3, 4, 5, 6, 7, 8, 9, 10, 11, 12, 13, 14, 15, 20, 21, 22, 23, 2, 24, 25, 26, 27, 28, 29, 30, 31, 32, 33, 34, 35, 36, 37, 38, 39, 40, 41, 42, 43, 44, 45, 46, 47, 48, 49, 50, 51, 52, 53, 54, 55, 56, 57, 58, 59, 60, 61, 62, 63, 64, 65, 66, 67, 68, 69, 70, 71, 72, 73, 74, 75, 76, 77, 78, 79, 80, 81, 82, 83, 84, 85, 86, 87, 88, 89, 90] (by decide +kernel) (by decide +kernel)
set_option maxRecDepth 20000 in
theorem gX12_turnsFor_X12_turning : GoodIn wsX12_turnsFor (wsV RX12 150 RX12 yX12_turning wsX12_turning) := goodIn_app (goodIn_of _ (by decide +kernel)) ggX12_turnsFor_X12_turning
theorem dX12_turnsFor_0 : decode cX12_turnsFor 0 = .ok (.aload_n 0, 1) := by decide +kernel
theorem dX12_turnsFor_1 : decode cX12_turnsFor 1 = .ok (.iconst 0, 1) := by decide +kernel
theorem dX12_turnsFor_2 : decode cX12_turnsFor 2 = .ok (.putfield 65, 3) := by decide +kernel
theorem dX12_turnsFor_5 : decode cX12_turnsFor 5 = .ok (.aload_n 0, 1) := by decide +kernel
theorem dX12_turnsFor_6 : decode cX12_turnsFor 6 = .ok (.iload_n 1, 1) := by decide +kernel
theorem dX12_turnsFor_7 : decode cX12_turnsFor 7 = .ok (.iload_n 2, 1) := by decide +kernel
theorem dX12_turnsFor_8 : decode cX12_turnsFor 8 = .ok (.invokevirtual 135, 3) := by decide +kernel
theorem dX12_turnsFor_11 : decode cX12_turnsFor 11 = .ok (.ifCond .ne 5, 3) := by decide +kernel
theorem dX12_turnsFor_14 : decode cX12_turnsFor 14 = .ok (.iconst (-1), 1) := by decide +kernel
theorem dX12_turnsFor_15 : decode cX12_turnsFor 15 = .ok (.ireturn, 1) := by decide +kernel
theorem dX12_turnsFor_16 : decode cX12_turnsFor 16 = .ok (.aload_n 0, 1) := by decide +kernel
theorem dX12_turnsFor_17 : decode cX12_turnsFor 17 = .ok (.iload_n 1, 1) := by decide +kernel
theorem dX12_turnsFor_18 : decode cX12_turnsFor 18 = .ok (.iload_n 2, 1) := by decide +kernel
theorem dX12_turnsFor_19 : decode cX12_turnsFor 19 = .ok (.invokevirtual 150, 3) := by decide +kernel
theorem dX12_turnsFor_22 : decode cX12_turnsFor 22 = .ok (.ifCond .eq 12, 3) := by decide +kernel
theorem dX12_turnsFor_25 : decode cX12_turnsFor 25 = .ok (.aload_n 0, 1) := by decide +kernel
theorem dX12_turnsFor_26 : decode cX12_turnsFor 26 = .ok (.getfield 16, 3) := by decide +kernel
theorem dX12_turnsFor_29 : decode cX12_turnsFor 29 = .ok (.iload_n 2, 1) := by decide +kernel
theorem dX12_turnsFor_30 : decode cX12_turnsFor 30 = .ok (.iaload, 1) := by decide +kernel
theorem dX12_turnsFor_31 : decode cX12_turnsFor 31 = .ok (.goto 5, 3) := by decide +kernel
theorem dX12_turnsFor_34 : decode cX12_turnsFor 34 = .ok (.bipush (-3), 2) := by decide +kernel
theorem dX12_turnsFor_36 : decode cX12_turnsFor 36 = .ok (.ireturn, 1) := by decide +kernel
set_option maxRecDepth 20000 in
theorem ggX12_days_X12_in : GoodIn wsX12_days wsX12_in := goodIn_r _ [7] (by decide +kernel) (by decide +kernel)
set_option maxRecDepth 20000 in
theorem gX12_days_X12_in : GoodIn wsX12_days (va_wsS RX12 72 yX12_in wsX12_in) := goodIn_app (goodIn_of _ (by decide +kernel)) ggX12_days_X12_in
set_option maxRecDepth 20000 in
theorem ggX12_days_X12_daysPass : GoodIn wsX12_days wsX12_daysPass := goodIn_r _ [11, 3, 12, 13, 14, 15, 16, 17, 18, 19, 20, 21, 22, 23, 24, 25, 26, 27, 28, 29, 30, 31, 32, 33, 34, 35, 36, 37, 38, 39, 40, 41, 42] (by decide +kernel) (by decide +kernel)
set_option maxRecDepth 20000 in
theorem gX12_days_X12_daysPass : GoodIn wsX12_days (wsV RX12 141 RX12 yX12_daysPass wsX12_daysPass) := goodIn_app (goodIn_of _ (by decide +kernel)) ggX12_days_X12_daysPass
theorem dX12_days_0 : decode cX12_days 0 = .ok (.aload_n 0, 1) := by decide +kernel
theorem dX12_days_1 : decode cX12_days 1 = .ok (.iconst 0, 1) := by decide +kernel
theorem dX12_days_2 : decode cX12_days 2 = .ok (.putfield 65, 3) := by decide +kernel
theorem dX12_days_5 : decode cX12_days 5 = .ok (.iload_n 1, 1) := by decide +kernel
theorem dX12_days_6 : decode cX12_days 6 = .ok (.i2l, 1) := by decide +kernel
theorem dX12_days_7 : decode cX12_days 7 = .ok (.lconst 1, 1) := by decide +kernel
theorem dX12_days_8 : decode cX12_days 8 = .ok (.ldc2_w 194, 3) := by decide +kernel
theorem dX12_days_11 : decode cX12_days 11 = .ok (.invokestatic 72, 3) := by decide +kernel
theorem dX12_days_14 : decode cX12_days 14 = .ok (.ifCond .ne 5, 3) := by decide +kernel
theorem dX12_days_17 : decode cX12_days 17 = .ok (.iconst (-1), 1) := by decide +kernel
theorem dX12_days_18 : decode cX12_days 18 = .ok (.ireturn, 1) := by decide +kernel
theorem dX12_days_19 : decode cX12_days 19 = .ok (.aload_n 0, 1) := by decide +kernel
theorem dX12_days_20 : decode cX12_days 20 = .ok (.iload_n 1, 1) := by decide +kernel
theorem dX12_days_21 : decode cX12_days 21 = .ok (.invokevirtual 141, 3) := by decide +kernel
theorem dX12_days_24 : decode cX12_days 24 = .ok (.ifCond .eq 10, 3) := by decide +kernel
theorem dX12_days_27 : decode cX12_days 27 = .ok (.aload_n 0, 1) := by decide +kernel
theorem dX12_days_28 : decode cX12_days 28 = .ok (.getfield 132, 3) := by decide +kernel
theorem dX12_days_31 : decode cX12_days 31 = .ok (.goto 5, 3) := by decide +kernel
