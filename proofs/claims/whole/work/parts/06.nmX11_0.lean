set_option maxRecDepth 20000 in
theorem ggX11_init_X10_init : GoodIn wsX11_init wsX10_init := goodIn_r _ [24, 25, 2, 3, 26, 27, 28, 29, 30, 31, 32, 33, 34, 35, 36, 37, 38, 39, 40, 41, 64, 65, 66, 67, 68, 69, 70, 78, 79, 80, 81, 82, 83, 84, 85] (by decide +kernel) (by decide +kernel)
set_option maxRecDepth 20000 in
theorem gX11_init_X10_init_n26 : GoodIn wsX11_init (wsX10_init) := ggX11_init_X10_init
set_option maxRecDepth 20000 in
theorem ggX11_init_X2_init : GoodIn wsX11_init wsX2_init := goodIn_r _ [43, 44, 2, 3, 28, 45, 46, 47, 48, 71, 72, 73, 74] (by decide +kernel) (by decide +kernel)
set_option maxRecDepth 20000 in
theorem gX11_init_X2_init_n39 : GoodIn wsX11_init (wsX2_init) := ggX11_init_X2_init
set_option maxRecDepth 20000 in
theorem ggX11_init_X7_init : GoodIn wsX11_init wsX7_init := goodIn_r _ [50, 51, 2, 3, 28, 52, 53, 54, 75, 76, 77] (by decide +kernel) (by decide +kernel)
set_option maxRecDepth 20000 in
theorem gX11_init_X7_init_n52 : GoodIn wsX11_init (wsX7_init) := ggX11_init_X7_init
theorem dX11_init_0 : decode cX11_init 0 = .ok (.aload_n 0, 1) := by decide +kernel
theorem dX11_init_1 : decode cX11_init 1 = .ok (.invokespecial 1, 3) := by decide +kernel
theorem dX11_init_4 : decode cX11_init 4 = .ok (.aload_n 0, 1) := by decide +kernel
theorem dX11_init_5 : decode cX11_init 5 = .ok (.bipush 8, 2) := by decide +kernel
theorem dX11_init_7 : decode cX11_init 7 = .ok (.anewarray 9, 3) := by decide +kernel
theorem dX11_init_10 : decode cX11_init 10 = .ok (.putfield 11, 3) := by decide +kernel
theorem dX11_init_13 : decode cX11_init 13 = .ok (.aload_n 0, 1) := by decide +kernel
theorem dX11_init_14 : decode cX11_init 14 = .ok (.bipush 8, 2) := by decide +kernel
theorem dX11_init_16 : decode cX11_init 16 = .ok (.anewarray 15, 3) := by decide +kernel
theorem dX11_init_19 : decode cX11_init 19 = .ok (.putfield 17, 3) := by decide +kernel
theorem dX11_init_22 : decode cX11_init 22 = .ok (.aload_n 0, 1) := by decide +kernel
theorem dX11_init_23 : decode cX11_init 23 = .ok (.bipush 8, 2) := by decide +kernel
theorem dX11_init_25 : decode cX11_init 25 = .ok (.anewarray 15, 3) := by decide +kernel
theorem dX11_init_28 : decode cX11_init 28 = .ok (.putfield 21, 3) := by decide +kernel
theorem dX11_init_31 : decode cX11_init 31 = .ok (.aload_n 0, 1) := by decide +kernel
theorem dX11_init_32 : decode cX11_init 32 = .ok (.new 24, 3) := by decide +kernel
theorem dX11_init_35 : decode cX11_init 35 = .ok (.dup, 1) := by decide +kernel
theorem dX11_init_36 : decode cX11_init 36 = .ok (.invokespecial 26, 3) := by decide +kernel
theorem dX11_init_39 : decode cX11_init 39 = .ok (.putfield 27, 3) := by decide +kernel
theorem dX11_init_42 : decode cX11_init 42 = .ok (.aload_n 0, 1) := by decide +kernel
theorem dX11_init_43 : decode cX11_init 43 = .ok (.new 24, 3) := by decide +kernel
theorem dX11_init_46 : decode cX11_init 46 = .ok (.dup, 1) := by decide +kernel
theorem dX11_init_47 : decode cX11_init 47 = .ok (.invokespecial 26, 3) := by decide +kernel
theorem dX11_init_50 : decode cX11_init 50 = .ok (.putfield 31, 3) := by decide +kernel
theorem dX11_init_53 : decode cX11_init 53 = .ok (.aload_n 0, 1) := by decide +kernel
theorem dX11_init_54 : decode cX11_init 54 = .ok (.new 24, 3) := by decide +kernel
theorem dX11_init_57 : decode cX11_init 57 = .ok (.dup, 1) := by decide +kernel
theorem dX11_init_58 : decode cX11_init 58 = .ok (.invokespecial 26, 3) := by decide +kernel
theorem dX11_init_61 : decode cX11_init 61 = .ok (.putfield 34, 3) := by decide +kernel
theorem dX11_init_64 : decode cX11_init 64 = .ok (.aload_n 0, 1) := by decide +kernel
theorem dX11_init_65 : decode cX11_init 65 = .ok (.new 37, 3) := by decide +kernel
theorem dX11_init_68 : decode cX11_init 68 = .ok (.dup, 1) := by decide +kernel
theorem dX11_init_69 : decode cX11_init 69 = .ok (.invokespecial 39, 3) := by decide +kernel
theorem dX11_init_72 : decode cX11_init 72 = .ok (.putfield 40, 3) := by decide +kernel
theorem dX11_init_75 : decode cX11_init 75 = .ok (.aload_n 0, 1) := by decide +kernel
theorem dX11_init_76 : decode cX11_init 76 = .ok (.iconst 0, 1) := by decide +kernel
theorem dX11_init_77 : decode cX11_init 77 = .ok (.putfield 44, 3) := by decide +kernel
theorem dX11_init_80 : decode cX11_init 80 = .ok (.aload_n 0, 1) := by decide +kernel
theorem dX11_init_81 : decode cX11_init 81 = .ok (.iconst 0, 1) := by decide +kernel
theorem dX11_init_82 : decode cX11_init 82 = .ok (.putfield 48, 3) := by decide +kernel
theorem dX11_init_85 : decode cX11_init 85 = .ok (.iconst 0, 1) := by decide +kernel
theorem dX11_init_86 : decode cX11_init 86 = .ok (.istore_n 1, 1) := by decide +kernel
theorem dX11_init_87 : decode cX11_init 87 = .ok (.iload_n 1, 1) := by decide +kernel
theorem dX11_init_88 : decode cX11_init 88 = .ok (.aload_n 0, 1) := by decide +kernel
theorem dX11_init_89 : decode cX11_init 89 = .ok (.getfield 21, 3) := by decide +kernel
theorem dX11_init_92 : decode cX11_init 92 = .ok (.arraylength, 1) := by decide +kernel
theorem dX11_init_93 : decode cX11_init 93 = .ok (.if_icmp .ge 22, 3) := by decide +kernel
theorem dX11_init_96 : decode cX11_init 96 = .ok (.aload_n 0, 1) := by decide +kernel
theorem dX11_init_97 : decode cX11_init 97 = .ok (.getfield 21, 3) := by decide +kernel
theorem dX11_init_100 : decode cX11_init 100 = .ok (.iload_n 1, 1) := by decide +kernel
theorem dX11_init_101 : decode cX11_init 101 = .ok (.new 15, 3) := by decide +kernel
theorem dX11_init_104 : decode cX11_init 104 = .ok (.dup, 1) := by decide +kernel
theorem dX11_init_105 : decode cX11_init 105 = .ok (.invokespecial 52, 3) := by decide +kernel
theorem dX11_init_108 : decode cX11_init 108 = .ok (.aastore, 1) := by decide +kernel
theorem dX11_init_109 : decode cX11_init 109 = .ok (.iinc 1 1, 3) := by decide +kernel
theorem dX11_init_112 : decode cX11_init 112 = .ok (.goto (-25), 3) := by decide +kernel
theorem dX11_init_115 : decode cX11_init 115 = .ok (.return_, 1) := by decide +kernel
set_option maxRecDepth 20000 in
theorem ggX11_town_X11_rowOn : GoodIn wsX11_town wsX11_rowOn := goodIn_r _ [9, 10, 297, 298, 299, 300, 301, 302, 303, 304, 305] (by decide +kernel) (by decide +kernel)
set_option maxRecDepth 20000 in
theorem gX11_town_X11_rowOn : GoodIn wsX11_town (wsV RX11 53 RX11 yX11_rowOn wsX11_rowOn) := goodIn_app (goodIn_of _ (by decide +kernel)) ggX11_town_X11_rowOn
set_option maxRecDepth 20000 in
theorem ggX11_town_X11_refusalWithoutRow : GoodIn wsX11_town wsX11_refusalWithoutRow := goodIn_r _ [14, 15, 16, 8, 17, 18, 19, 20, 21, 22, 297, 298, 299, 300, 301, 302, 303, 304, 305] (by decide +kernel) (by decide +kernel)
set_option maxRecDepth 20000 in
theorem gX11_town_X11_refusalWithoutRow : GoodIn wsX11_town (wsV RX11 57 RX11 yX11_refusalWithoutRow wsX11_refusalWithoutRow) := goodIn_app (goodIn_of _ (by decide +kernel)) ggX11_town_X11_refusalWithoutRow
set_option maxRecDepth 20000 in
theorem ggX11_town_X7_firstWrongByte : GoodIn wsX11_town wsX7_firstWrongByte := goodIn_r _ [27, 28, 29, 30, 31, 26, 32, 33, 34, 35, 36, 37, 38, 8, 39, 40, 41, 42, 43, 294, 295, 296] (by decide +kernel) (by decide +kernel)
set_option maxRecDepth 20000 in
theorem gX11_town_X7_firstWrongByte : GoodIn wsX11_town (wsV RX11 64 RX7 yX7_firstWrongByte wsX7_firstWrongByte) := goodIn_app (goodIn_of _ (by decide +kernel)) ggX11_town_X7_firstWrongByte
set_option maxRecDepth 20000 in
theorem ggX11_town_X10_become : GoodIn wsX11_town wsX10_become := goodIn_r _ [48, 49, 50, 51, 52, 53, 54, 55, 56, 57, 47, 58, 59, 38, 8, 39, 60, 61, 306, 307, 308, 309, 310, 311, 312] (by decide +kernel) (by decide +kernel)
set_option maxRecDepth 20000 in
theorem gX11_town_X10_become : GoodIn wsX11_town (wsV RX11 68 RX10 yX10_become wsX10_become) := goodIn_app (goodIn_of _ (by decide +kernel)) ggX11_town_X10_become
set_option maxRecDepth 20000 in
theorem ggX11_town_X7_at : GoodIn wsX11_town wsX7_at := goodIn_r _ [32, 33, 34, 35, 36, 26, 37, 28, 38, 8, 39, 294, 295, 296] (by decide +kernel) (by decide +kernel)
set_option maxRecDepth 20000 in
theorem gX11_town_X7_at : GoodIn wsX11_town (wsV RX11 75 RX7 yX7_at wsX7_at) := goodIn_app (goodIn_of _ (by decide +kernel)) ggX11_town_X7_at
set_option maxRecDepth 20000 in
theorem ggX11_town_X11_digitsBehind : GoodIn wsX11_town wsX11_digitsBehind := goodIn_r _ [41] (by decide +kernel) (by decide +kernel)
set_option maxRecDepth 20000 in
theorem gX11_town_X11_digitsBehind : GoodIn wsX11_town (va_wsS RX11 78 yX11_digitsBehind wsX11_digitsBehind) := goodIn_app (goodIn_of _ (by decide +kernel)) ggX11_town_X11_digitsBehind
set_option maxRecDepth 20000 in
theorem ggX11_town_X7_digitAt : GoodIn wsX11_town wsX7_digitAt := goodIn_r _ [67, 29, 30, 31, 26, 32, 33, 34, 35, 36, 37, 28, 38, 8, 39, 294, 295, 296] (by decide +kernel) (by decide +kernel)
set_option maxRecDepth 20000 in
theorem gX11_town_X7_digitAt : GoodIn wsX11_town (wsV RX11 81 RX7 yX7_digitAt wsX7_digitAt) := goodIn_app (goodIn_of _ (by decide +kernel)) ggX11_town_X7_digitAt
set_option maxRecDepth 20000 in
theorem ggX11_town_X10_perform : GoodIn wsX11_town wsX10_perform := goodIn_r _ [71, 72, 8, 73, 74, 75, 76, 77, 78, 79, 80, 81, 82, 83, 84, 85, 86, 87, 88, 89, 90, 91, 92, 93, 94, 95, 96, 97, 98, 99, 100, 101, 102, 103, 104, 105, 106, 107, 108, 109, 110, 111, 112, 113, 114, 115, 116, 117, 118, 119, 120, 121, 122, 123, 124, 125, 126, 127, 128, 129, 130, 131, 132, 133, 134, 135, 47, 136, 52, 49, 137, 138, 139, 140, 51, 141, 142, 143, 144, 145, 146, 147, 148, 60, 61, 149, 150, 151, 152, 54, 153, 154, 155, 156, 157, 158, 159, 160, 161, 162, 163, 164, 38, 39, 55, 56, 57, 58, 59, 165, 166, 167, 168, 169, 170, 171, 172, 173, 174, 175, 176, 177, 178, 179, 180, 181, 182, 183, 184, 185, 186, 187, 188, 189, 190, 191, 192, 193, 194, 195, 196, 197, 198, 199, 200, 201, 202, 203, 204, 205, 206, 207, 208, 209, 210, 211, 212, 213, 214, 53, 215, 216, 217, 218, 219, 220, 221, 222, 223, 224, 225, 226, 227, 228, 229, 230, 231, 232, 233, 234, 235, 236, 237, 238, 239, 240, 241, 242, 243, 244, 245, 246, 247, 248, 249, 250, 251, 252, 50, 253, 254, 255, 256, 257, 258, 259, 260, 261, 262, 263, 264, 265, 266, 267, 268, 269, 270, 271, 272, 273, 274, 275, 276, 277, 278, 279, 280, 281, 282, 283, 284, 285, 286, 287, 288, 289, 290, 291, 292, 293, 313, 314, 315, 316, 317, 318, 319, 320, 306, 307, 308, 309, 310, 311, 312] (by decide +kernel) (by decide +kernel)
set_option maxRecDepth 20000 in
theorem gX11_town_X10_perform : GoodIn wsX11_town (wsV RX11 84 RX10 yX10_perform wsX10_perform) := goodIn_app (goodIn_of _ (by decide +kernel)) ggX11_town_X10_perform
theorem dX11_town_0 : decode cX11_town 0 = .ok (.aload_n 0, 1) := by decide +kernel
theorem dX11_town_1 : decode cX11_town 1 = .ok (.iload_n 1, 1) := by decide +kernel
theorem dX11_town_2 : decode cX11_town 2 = .ok (.invokevirtual 53, 3) := by decide +kernel
theorem dX11_town_5 : decode cX11_town 5 = .ok (.astore_n 2, 1) := by decide +kernel
theorem dX11_town_6 : decode cX11_town 6 = .ok (.aload_n 2, 1) := by decide +kernel
theorem dX11_town_7 : decode cX11_town 7 = .ok (.ifnonnull 9, 3) := by decide +kernel
theorem dX11_town_10 : decode cX11_town 10 = .ok (.aload_n 0, 1) := by decide +kernel
theorem dX11_town_11 : decode cX11_town 11 = .ok (.iload_n 1, 1) := by decide +kernel
theorem dX11_town_12 : decode cX11_town 12 = .ok (.invokevirtual 57, 3) := by decide +kernel
theorem dX11_town_15 : decode cX11_town 15 = .ok (.ireturn, 1) := by decide +kernel
theorem dX11_town_16 : decode cX11_town 16 = .ok (.aload_n 2, 1) := by decide +kernel
theorem dX11_town_17 : decode cX11_town 17 = .ok (.getfield 61, 3) := by decide +kernel
theorem dX11_town_20 : decode cX11_town 20 = .ok (.ifCond .eq 6, 3) := by decide +kernel
theorem dX11_town_23 : decode cX11_town 23 = .ok (.bipush (-12), 2) := by decide +kernel
theorem dX11_town_25 : decode cX11_town 25 = .ok (.ireturn, 1) := by decide +kernel
theorem dX11_town_26 : decode cX11_town 26 = .ok (.aload_n 2, 1) := by decide +kernel
theorem dX11_town_27 : decode cX11_town 27 = .ok (.invokevirtual 64, 3) := by decide +kernel
theorem dX11_town_30 : decode cX11_town 30 = .ok (.istore_n 3, 1) := by decide +kernel
theorem dX11_town_31 : decode cX11_town 31 = .ok (.iload_n 3, 1) := by decide +kernel
theorem dX11_town_32 : decode cX11_town 32 = .ok (.bipush (-4), 2) := by decide +kernel
theorem dX11_town_34 : decode cX11_town 34 = .ok (.if_icmp .eq 9, 3) := by decide +kernel
theorem dX11_town_37 : decode cX11_town 37 = .ok (.sipush (-1000), 3) := by decide +kernel
theorem dX11_town_40 : decode cX11_town 40 = .ok (.iload_n 3, 1) := by decide +kernel
theorem dX11_town_41 : decode cX11_town 41 = .ok (.isub, 1) := by decide +kernel
theorem dX11_town_42 : decode cX11_town 42 = .ok (.ireturn, 1) := by decide +kernel
theorem dX11_town_43 : decode cX11_town 43 = .ok (.aload_n 0, 1) := by decide +kernel
theorem dX11_town_44 : decode cX11_town 44 = .ok (.getfield 31, 3) := by decide +kernel
theorem dX11_town_47 : decode cX11_town 47 = .ok (.aload_n 0, 1) := by decide +kernel
theorem dX11_town_48 : decode cX11_town 48 = .ok (.getfield 27, 3) := by decide +kernel
theorem dX11_town_51 : decode cX11_town 51 = .ok (.invokevirtual 68, 3) := by decide +kernel
theorem dX11_town_54 : decode cX11_town 54 = .ok (.iconst 0, 1) := by decide +kernel
theorem dX11_town_55 : decode cX11_town 55 = .ok (.istore 4, 2) := by decide +kernel
theorem dX11_town_57 : decode cX11_town 57 = .ok (.iconst 0, 1) := by decide +kernel
theorem dX11_town_58 : decode cX11_town 58 = .ok (.istore 5, 2) := by decide +kernel
theorem dX11_town_60 : decode cX11_town 60 = .ok (.iload 5, 2) := by decide +kernel
theorem dX11_town_62 : decode cX11_town 62 = .ok (.aload_n 2, 1) := by decide +kernel
theorem dX11_town_63 : decode cX11_town 63 = .ok (.getfield 72, 3) := by decide +kernel
theorem dX11_town_66 : decode cX11_town 66 = .ok (.if_icmp .ge 71, 3) := by decide +kernel
theorem dX11_town_69 : decode cX11_town 69 = .ok (.aload_n 2, 1) := by decide +kernel
theorem dX11_town_70 : decode cX11_town 70 = .ok (.iload 5, 2) := by decide +kernel
theorem dX11_town_72 : decode cX11_town 72 = .ok (.invokevirtual 75, 3) := by decide +kernel
theorem dX11_town_75 : decode cX11_town 75 = .ok (.istore 6, 2) := by decide +kernel
theorem dX11_town_77 : decode cX11_town 77 = .ok (.iload 6, 2) := by decide +kernel
theorem dX11_town_79 : decode cX11_town 79 = .ok (.invokestatic 78, 3) := by decide +kernel
theorem dX11_town_82 : decode cX11_town 82 = .ok (.ifCond .le 49, 3) := by decide +kernel
theorem dX11_town_85 : decode cX11_town 85 = .ok (.aload_n 0, 1) := by decide +kernel
theorem dX11_town_86 : decode cX11_town 86 = .ok (.getfield 31, 3) := by decide +kernel
theorem dX11_town_89 : decode cX11_town 89 = .ok (.iload 6, 2) := by decide +kernel
theorem dX11_town_91 : decode cX11_town 91 = .ok (.aload_n 2, 1) := by decide +kernel
theorem dX11_town_92 : decode cX11_town 92 = .ok (.iload 5, 2) := by decide +kernel
theorem dX11_town_94 : decode cX11_town 94 = .ok (.iconst 1, 1) := by decide +kernel
theorem dX11_town_95 : decode cX11_town 95 = .ok (.iadd, 1) := by decide +kernel
theorem dX11_town_96 : decode cX11_town 96 = .ok (.invokevirtual 81, 3) := by decide +kernel
theorem dX11_town_99 : decode cX11_town 99 = .ok (.aload_n 2, 1) := by decide +kernel
theorem dX11_town_100 : decode cX11_town 100 = .ok (.iload 5, 2) := by decide +kernel
theorem dX11_town_102 : decode cX11_town 102 = .ok (.iconst 2, 1) := by decide +kernel
theorem dX11_town_103 : decode cX11_town 103 = .ok (.iadd, 1) := by decide +kernel
theorem dX11_town_104 : decode cX11_town 104 = .ok (.invokevirtual 81, 3) := by decide +kernel
theorem dX11_town_107 : decode cX11_town 107 = .ok (.aload_n 2, 1) := by decide +kernel
theorem dX11_town_108 : decode cX11_town 108 = .ok (.iload 5, 2) := by decide +kernel
theorem dX11_town_110 : decode cX11_town 110 = .ok (.iconst 3, 1) := by decide +kernel
theorem dX11_town_111 : decode cX11_town 111 = .ok (.iadd, 1) := by decide +kernel
theorem dX11_town_112 : decode cX11_town 112 = .ok (.invokevirtual 81, 3) := by decide +kernel
theorem dX11_town_115 : decode cX11_town 115 = .ok (.invokevirtual 84, 3) := by decide +kernel
theorem dX11_town_118 : decode cX11_town 118 = .ok (.ifCond .ne 10, 3) := by decide +kernel
theorem dX11_town_121 : decode cX11_town 121 = .ok (.sipush (-2000), 3) := by decide +kernel
theorem dX11_town_124 : decode cX11_town 124 = .ok (.iload 5, 2) := by decide +kernel
theorem dX11_town_126 : decode cX11_town 126 = .ok (.isub, 1) := by decide +kernel
theorem dX11_town_127 : decode cX11_town 127 = .ok (.ireturn, 1) := by decide +kernel
theorem dX11_town_128 : decode cX11_town 128 = .ok (.iinc 4 1, 3) := by decide +kernel
theorem dX11_town_131 : decode cX11_town 131 = .ok (.iinc 5 1, 3) := by decide +kernel
theorem dX11_town_134 : decode cX11_town 134 = .ok (.goto (-74), 3) := by decide +kernel
theorem dX11_town_137 : decode cX11_town 137 = .ok (.aload_n 0, 1) := by decide +kernel
theorem dX11_town_138 : decode cX11_town 138 = .ok (.getfield 27, 3) := by decide +kernel
theorem dX11_town_141 : decode cX11_town 141 = .ok (.aload_n 0, 1) := by decide +kernel
theorem dX11_town_142 : decode cX11_town 142 = .ok (.getfield 31, 3) := by decide +kernel
theorem dX11_town_145 : decode cX11_town 145 = .ok (.invokevirtual 68, 3) := by decide +kernel
theorem dX11_town_148 : decode cX11_town 148 = .ok (.iload 4, 2) := by decide +kernel
theorem dX11_town_150 : decode cX11_town 150 = .ok (.ireturn, 1) := by decide +kernel
set_option maxRecDepth 20000 in
theorem ggX11_person_X10_has : GoodIn wsX11_person wsX10_has := goodIn_r _ [7, 8, 182, 183, 184, 185, 186, 187, 188] (by decide +kernel) (by decide +kernel)
set_option maxRecDepth 20000 in
theorem gX11_person_X10_has : GoodIn wsX11_person (wsV RX11 88 RX10 yX10_has wsX10_has) := goodIn_app (goodIn_of _ (by decide +kernel)) ggX11_person_X10_has
set_option maxRecDepth 20000 in
theorem ggX11_person_X10_at : GoodIn wsX11_person wsX10_at := goodIn_r _ [12, 13, 14, 182, 183, 184, 185, 186, 187, 188] (by decide +kernel) (by decide +kernel)
set_option maxRecDepth 20000 in
theorem gX11_person_X10_at : GoodIn wsX11_person (wsV RX11 92 RX10 yX10_at wsX10_at) := goodIn_app (goodIn_of _ (by decide +kernel)) ggX11_person_X10_at
set_option maxRecDepth 20000 in
theorem ggX11_person_X0_number : GoodIn wsX11_person wsX0_number := goodIn_r _ [21] (by decide +kernel) (by decide +kernel)
set_option maxRecDepth 20000 in
theorem gX11_person_X0_number_u95X0 : GoodIn wsX11_person (va_wsO RX11 95 RX0 "DealtByOpposite$Person" ⟨"DealtByOpposite$Person", "number", "()I"⟩ yX0_number wsX0_number) := goodIn_app (goodIn_of _ (by decide +kernel)) ggX11_person_X0_number
set_option maxRecDepth 20000 in
theorem ggX11_person_X1_number : GoodIn wsX11_person wsX1_number := goodIn_r _ [26] (by decide +kernel) (by decide +kernel)
set_option maxRecDepth 20000 in
theorem gX11_person_X1_number_u95X1 : GoodIn wsX11_person (va_wsO RX11 95 RX1 "DealtByOpposite$Person" ⟨"DealtByOpposite$Person", "number", "()I"⟩ yX1_number wsX1_number) := goodIn_app (goodIn_of _ (by decide +kernel)) ggX11_person_X1_number
set_option maxRecDepth 20000 in
theorem ggX11_person_X3_number : GoodIn wsX11_person wsX3_number := goodIn_r _ [30] (by decide +kernel) (by decide +kernel)
set_option maxRecDepth 20000 in
theorem gX11_person_X3_number_u95X3 : GoodIn wsX11_person (va_wsO RX11 95 RX3 "DealtByOpposite$Person" ⟨"DealtByOpposite$Person", "number", "()I"⟩ yX3_number wsX3_number) := goodIn_app (goodIn_of _ (by decide +kernel)) ggX11_person_X3_number
set_option maxRecDepth 20000 in
theorem ggX11_person_X4_number : GoodIn wsX11_person wsX4_number := goodIn_r _ [34] (by decide +kernel) (by decide +kernel)
set_option maxRecDepth 20000 in
theorem gX11_person_X4_number_u95X4 : GoodIn wsX11_person (va_wsO RX11 95 RX4 "DealtByOpposite$Person" ⟨"DealtByOpposite$Person", "number", "()I"⟩ yX4_number wsX4_number) := goodIn_app (goodIn_of _ (by decide +kernel)) ggX11_person_X4_number
set_option maxRecDepth 20000 in
theorem ggX11_person_X5_number : GoodIn wsX11_person wsX5_number := goodIn_r _ [38] (by decide +kernel) (by decide +kernel)
set_option maxRecDepth 20000 in
theorem gX11_person_X5_number_u95X5 : GoodIn wsX11_person (va_wsO RX11 95 RX5 "DealtByOpposite$Person" ⟨"DealtByOpposite$Person", "number", "()I"⟩ yX5_number wsX5_number) := goodIn_app (goodIn_of _ (by decide +kernel)) ggX11_person_X5_number
set_option maxRecDepth 20000 in
theorem ggX11_person_X6_number : GoodIn wsX11_person wsX6_number := goodIn_r _ [22] (by decide +kernel) (by decide +kernel)
set_option maxRecDepth 20000 in
theorem gX11_person_X6_number : GoodIn wsX11_person (wsV RX11 95 RX6 yX6_number wsX6_number) := goodIn_app (goodIn_of _ (by decide +kernel)) ggX11_person_X6_number
set_option maxRecDepth 20000 in
theorem ggX11_person_X8_number : GoodIn wsX11_person wsX8_number := goodIn_r _ [46] (by decide +kernel) (by decide +kernel)
set_option maxRecDepth 20000 in
theorem gX11_person_X8_number_u95X8 : GoodIn wsX11_person (va_wsO RX11 95 RX8 "DealtByOpposite$Person" ⟨"DealtByOpposite$Person", "number", "()I"⟩ yX8_number wsX8_number) := goodIn_app (goodIn_of _ (by decide +kernel)) ggX11_person_X8_number
set_option maxRecDepth 20000 in
theorem ggX11_person_X9_number : GoodIn wsX11_person wsX9_number := goodIn_r _ [50] (by decide +kernel) (by decide +kernel)
set_option maxRecDepth 20000 in
theorem gX11_person_X9_number_u95X9 : GoodIn wsX11_person (va_wsO RX11 95 RX9 "DealtByOpposite$Person" ⟨"DealtByOpposite$Person", "number", "()I"⟩ yX9_number wsX9_number) := goodIn_app (goodIn_of _ (by decide +kernel)) ggX11_person_X9_number
set_option maxRecDepth 20000 in
theorem ggX11_person_X10_turnedOf : GoodIn wsX11_person wsX10_turnedOf := goodIn_r _ [54, 55, 56, 4, 5, 6, 7, 8, 57, 58, 59, 182, 183, 184, 185, 186, 187, 188] (by decide +kernel) (by decide +kernel)
set_option maxRecDepth 20000 in
theorem gX11_person_X10_turnedOf : GoodIn wsX11_person (wsV RX11 101 RX10 yX10_turnedOf wsX10_turnedOf) := goodIn_app (goodIn_of _ (by decide +kernel)) ggX11_person_X10_turnedOf
set_option maxRecDepth 20000 in
theorem ggX11_person_X0_grows : GoodIn wsX11_person wsX0_grows := goodIn_r _ [65, 66, 67, 68, 61, 69, 70, 42, 71, 174, 175, 176, 177, 178, 179, 180, 181] (by decide +kernel) (by decide +kernel)
set_option maxRecDepth 20000 in
theorem gX11_person_X0_grows_u104X0 : GoodIn wsX11_person (va_wsO RX11 104 RX0 "DealtByOpposite$Person" ⟨"DealtByOpposite$Person", "grows", "()I"⟩ yX0_grows wsX0_grows) := goodIn_app (goodIn_of _ (by decide +kernel)) ggX11_person_X0_grows
set_option maxRecDepth 20000 in
theorem ggX11_person_X1_grows : GoodIn wsX11_person wsX1_grows := goodIn_r _ [74] (by decide +kernel) (by decide +kernel)
set_option maxRecDepth 20000 in
theorem gX11_person_X1_grows_u104X1 : GoodIn wsX11_person (va_wsO RX11 104 RX1 "DealtByOpposite$Person" ⟨"DealtByOpposite$Person", "grows", "()I"⟩ yX1_grows wsX1_grows) := goodIn_app (goodIn_of _ (by decide +kernel)) ggX11_person_X1_grows
set_option maxRecDepth 20000 in
theorem ggX11_person_X3_grows : GoodIn wsX11_person wsX3_grows := goodIn_r _ [77, 78, 79, 80, 64, 20, 65, 66, 67, 68, 61, 69, 70, 42, 71, 174, 175, 176, 177, 178, 179, 180, 181] (by decide +kernel) (by decide +kernel)
set_option maxRecDepth 20000 in
theorem gX11_person_X3_grows_u104X3 : GoodIn wsX11_person (va_wsO RX11 104 RX3 "DealtByOpposite$Person" ⟨"DealtByOpposite$Person", "grows", "()I"⟩ yX3_grows wsX3_grows) := goodIn_app (goodIn_of _ (by decide +kernel)) ggX11_person_X3_grows
set_option maxRecDepth 20000 in
theorem ggX11_person_X4_grows : GoodIn wsX11_person wsX4_grows := goodIn_r _ [83, 84, 85, 174, 175, 176, 177, 178, 179, 180, 181] (by decide +kernel) (by decide +kernel)
set_option maxRecDepth 20000 in
theorem gX11_person_X4_grows_u104X4 : GoodIn wsX11_person (va_wsO RX11 104 RX4 "DealtByOpposite$Person" ⟨"DealtByOpposite$Person", "grows", "()I"⟩ yX4_grows wsX4_grows) := goodIn_app (goodIn_of _ (by decide +kernel)) ggX11_person_X4_grows
set_option maxRecDepth 20000 in
theorem ggX11_person_X5_grows : GoodIn wsX11_person wsX5_grows := goodIn_r _ [88, 89, 90, 91, 92, 93, 94, 49, 95, 96, 61, 97, 70, 42, 71, 174, 175, 176, 177, 178, 179, 180, 181] (by decide +kernel) (by decide +kernel)
set_option maxRecDepth 20000 in
theorem gX11_person_X5_grows_u104X5 : GoodIn wsX11_person (va_wsO RX11 104 RX5 "DealtByOpposite$Person" ⟨"DealtByOpposite$Person", "grows", "()I"⟩ yX5_grows wsX5_grows) := goodIn_app (goodIn_of _ (by decide +kernel)) ggX11_person_X5_grows
set_option maxRecDepth 20000 in
theorem ggX11_person_X6_grows : GoodIn wsX11_person wsX6_grows := goodIn_r _ [71] (by decide +kernel) (by decide +kernel)
set_option maxRecDepth 20000 in
theorem gX11_person_X6_grows : GoodIn wsX11_person (wsV RX11 104 RX6 yX6_grows wsX6_grows) := goodIn_app (goodIn_of _ (by decide +kernel)) ggX11_person_X6_grows
set_option maxRecDepth 20000 in
theorem ggX11_person_X8_grows : GoodIn wsX11_person wsX8_grows := goodIn_r _ [102, 103, 92, 104, 94, 49, 95, 96, 61, 97, 70, 42, 71] (by decide +kernel) (by decide +kernel)
set_option maxRecDepth 20000 in
theorem gX11_person_X8_grows_u104X8 : GoodIn wsX11_person (va_wsO RX11 104 RX8 "DealtByOpposite$Person" ⟨"DealtByOpposite$Person", "grows", "()I"⟩ yX8_grows wsX8_grows) := goodIn_app (goodIn_of _ (by decide +kernel)) ggX11_person_X8_grows
set_option maxRecDepth 20000 in
theorem ggX11_person_X9_grows : GoodIn wsX11_person wsX9_grows := goodIn_r _ [95, 96, 61, 97, 70, 42, 71] (by decide +kernel) (by decide +kernel)
set_option maxRecDepth 20000 in
theorem gX11_person_X9_grows_u104X9 : GoodIn wsX11_person (va_wsO RX11 104 RX9 "DealtByOpposite$Person" ⟨"DealtByOpposite$Person", "grows", "()I"⟩ yX9_grows wsX9_grows) := goodIn_app (goodIn_of _ (by decide +kernel)) ggX11_person_X9_grows
set_option maxRecDepth 20000 in
theorem ggX11_person_X6_bears : GoodIn wsX11_person wsX6_bears := goodIn_r _ [110] (by decide +kernel) (by decide +kernel)
set_option maxRecDepth 20000 in
theorem gX11_person_X6_bears_u107X0 : GoodIn wsX11_person (va_wsU RX11 107 RX0 "DealtByOpposite$Person" ⟨"DealtByOpposite$Person", "bears", "()I"⟩ yX6_bears wsX6_bears) := goodIn_app (goodIn_of _ (by decide +kernel)) ggX11_person_X6_bears
set_option maxRecDepth 20000 in
theorem ggX11_person_X1_bears : GoodIn wsX11_person wsX1_bears := goodIn_r _ [114, 115, 116, 117, 118, 49, 119, 120, 107, 97, 109, 42, 110] (by decide +kernel) (by decide +kernel)
set_option maxRecDepth 20000 in
theorem gX11_person_X1_bears_u107X1 : GoodIn wsX11_person (va_wsO RX11 107 RX1 "DealtByOpposite$Person" ⟨"DealtByOpposite$Person", "bears", "()I"⟩ yX1_bears wsX1_bears) := goodIn_app (goodIn_of _ (by decide +kernel)) ggX11_person_X1_bears
set_option maxRecDepth 20000 in
theorem gX11_person_X6_bears_u107X3 : GoodIn wsX11_person (va_wsU RX11 107 RX3 "DealtByOpposite$Person" ⟨"DealtByOpposite$Person", "bears", "()I"⟩ yX6_bears wsX6_bears) := goodIn_app (goodIn_of _ (by decide +kernel)) ggX11_person_X6_bears
set_option maxRecDepth 20000 in
theorem ggX11_person_X4_bears : GoodIn wsX11_person wsX4_bears := goodIn_r _ [124] (by decide +kernel) (by decide +kernel)
set_option maxRecDepth 20000 in
theorem gX11_person_X4_bears_u107X4 : GoodIn wsX11_person (va_wsO RX11 107 RX4 "DealtByOpposite$Person" ⟨"DealtByOpposite$Person", "bears", "()I"⟩ yX4_bears wsX4_bears) := goodIn_app (goodIn_of _ (by decide +kernel)) ggX11_person_X4_bears
set_option maxRecDepth 20000 in
theorem ggX11_person_X5_bears : GoodIn wsX11_person wsX5_bears := goodIn_r _ [127, 128, 116, 93, 118, 49, 119, 120, 107, 97, 109, 42, 110] (by decide +kernel) (by decide +kernel)
set_option maxRecDepth 20000 in
theorem gX11_person_X5_bears_u107X5 : GoodIn wsX11_person (va_wsO RX11 107 RX5 "DealtByOpposite$Person" ⟨"DealtByOpposite$Person", "bears", "()I"⟩ yX5_bears wsX5_bears) := goodIn_app (goodIn_of _ (by decide +kernel)) ggX11_person_X5_bears
set_option maxRecDepth 20000 in
theorem gX11_person_X6_bears : GoodIn wsX11_person (wsV RX11 107 RX6 yX6_bears wsX6_bears) := goodIn_app (goodIn_of _ (by decide +kernel)) ggX11_person_X6_bears
set_option maxRecDepth 20000 in
theorem ggX11_person_X8_bears : GoodIn wsX11_person wsX8_bears := goodIn_r _ [133, 134, 116, 104, 118, 49, 119, 120, 107, 97, 109, 42, 110] (by decide +kernel) (by decide +kernel)
set_option maxRecDepth 20000 in
theorem gX11_person_X8_bears_u107X8 : GoodIn wsX11_person (va_wsO RX11 107 RX8 "DealtByOpposite$Person" ⟨"DealtByOpposite$Person", "bears", "()I"⟩ yX8_bears wsX8_bears) := goodIn_app (goodIn_of _ (by decide +kernel)) ggX11_person_X8_bears
set_option maxRecDepth 20000 in
theorem ggX11_person_X9_bears : GoodIn wsX11_person wsX9_bears := goodIn_r _ [119, 120, 107, 97, 109, 42, 110] (by decide +kernel) (by decide +kernel)
set_option maxRecDepth 20000 in
theorem gX11_person_X9_bears_u107X9 : GoodIn wsX11_person (va_wsO RX11 107 RX9 "DealtByOpposite$Person" ⟨"DealtByOpposite$Person", "bears", "()I"⟩ yX9_bears wsX9_bears) := goodIn_app (goodIn_of _ (by decide +kernel)) ggX11_person_X9_bears
set_option maxRecDepth 20000 in
theorem ggX11_person_X0_turns : GoodIn wsX11_person wsX0_turns := goodIn_r _ [141, 142, 137, 69, 143, 42, 144] (by decide +kernel) (by decide +kernel)
set_option maxRecDepth 20000 in
theorem gX11_person_X0_turns_u110X0 : GoodIn wsX11_person (va_wsO RX11 110 RX0 "DealtByOpposite$Person" ⟨"DealtByOpposite$Person", "turns", "()I"⟩ yX0_turns wsX0_turns) := goodIn_app (goodIn_of _ (by decide +kernel)) ggX11_person_X0_turns
set_option maxRecDepth 20000 in
theorem ggX11_person_X1_turns : GoodIn wsX11_person wsX1_turns := goodIn_r _ [147] (by decide +kernel) (by decide +kernel)
set_option maxRecDepth 20000 in
theorem gX11_person_X1_turns_u110X1 : GoodIn wsX11_person (va_wsO RX11 110 RX1 "DealtByOpposite$Person" ⟨"DealtByOpposite$Person", "turns", "()I"⟩ yX1_turns wsX1_turns) := goodIn_app (goodIn_of _ (by decide +kernel)) ggX11_person_X1_turns
set_option maxRecDepth 20000 in
theorem ggX11_person_X3_turns : GoodIn wsX11_person wsX3_turns := goodIn_r _ [150, 151, 152, 153, 154, 80, 140, 20, 141, 142, 137, 69, 143, 42, 144, 174, 175, 176, 177, 178, 179, 180, 181] (by decide +kernel) (by decide +kernel)
set_option maxRecDepth 20000 in
theorem gX11_person_X3_turns_u110X3 : GoodIn wsX11_person (va_wsO RX11 110 RX3 "DealtByOpposite$Person" ⟨"DealtByOpposite$Person", "turns", "()I"⟩ yX3_turns wsX3_turns) := goodIn_app (goodIn_of _ (by decide +kernel)) ggX11_person_X3_turns
set_option maxRecDepth 20000 in
theorem ggX11_person_X6_turns : GoodIn wsX11_person wsX6_turns := goodIn_r _ [144] (by decide +kernel) (by decide +kernel)
set_option maxRecDepth 20000 in
theorem gX11_person_X6_turns_u110X4 : GoodIn wsX11_person (va_wsU RX11 110 RX4 "DealtByOpposite$Person" ⟨"DealtByOpposite$Person", "turns", "()I"⟩ yX6_turns wsX6_turns) := goodIn_app (goodIn_of _ (by decide +kernel)) ggX11_person_X6_turns
set_option maxRecDepth 20000 in
theorem ggX11_person_X5_turns : GoodIn wsX11_person wsX5_turns := goodIn_r _ [158] (by decide +kernel) (by decide +kernel)
set_option maxRecDepth 20000 in
theorem gX11_person_X5_turns_u110X5 : GoodIn wsX11_person (va_wsO RX11 110 RX5 "DealtByOpposite$Person" ⟨"DealtByOpposite$Person", "turns", "()I"⟩ yX5_turns wsX5_turns) := goodIn_app (goodIn_of _ (by decide +kernel)) ggX11_person_X5_turns
set_option maxRecDepth 20000 in
theorem gX11_person_X6_turns : GoodIn wsX11_person (wsV RX11 110 RX6 yX6_turns wsX6_turns) := goodIn_app (goodIn_of _ (by decide +kernel)) ggX11_person_X6_turns
set_option maxRecDepth 20000 in
theorem ggX11_person_X8_turns : GoodIn wsX11_person wsX8_turns := goodIn_r _ [163] (by decide +kernel) (by decide +kernel)
set_option maxRecDepth 20000 in
theorem gX11_person_X8_turns_u110X8 : GoodIn wsX11_person (va_wsO RX11 110 RX8 "DealtByOpposite$Person" ⟨"DealtByOpposite$Person", "turns", "()I"⟩ yX8_turns wsX8_turns) := goodIn_app (goodIn_of _ (by decide +kernel)) ggX11_person_X8_turns
set_option maxRecDepth 20000 in
theorem gX11_person_X6_turns_u110X9 : GoodIn wsX11_person (va_wsU RX11 110 RX9 "DealtByOpposite$Person" ⟨"DealtByOpposite$Person", "turns", "()I"⟩ yX6_turns wsX6_turns) := goodIn_app (goodIn_of _ (by decide +kernel)) ggX11_person_X6_turns
theorem dX11_person_0 : decode cX11_person 0 = .ok (.aload_n 0, 1) := by decide +kernel
theorem dX11_person_1 : decode cX11_person 1 = .ok (.getfield 27, 3) := by decide +kernel
theorem dX11_person_4 : decode cX11_person 4 = .ok (.iload_n 1, 1) := by decide +kernel
theorem dX11_person_5 : decode cX11_person 5 = .ok (.invokevirtual 88, 3) := by decide +kernel
theorem dX11_person_8 : decode cX11_person 8 = .ok (.ifCond .ne 5, 3) := by decide +kernel
theorem dX11_person_11 : decode cX11_person 11 = .ok (.iconst (-1), 1) := by decide +kernel
theorem dX11_person_12 : decode cX11_person 12 = .ok (.ireturn, 1) := by decide +kernel
theorem dX11_person_13 : decode cX11_person 13 = .ok (.aload_n 0, 1) := by decide +kernel
theorem dX11_person_14 : decode cX11_person 14 = .ok (.getfield 27, 3) := by decide +kernel
theorem dX11_person_17 : decode cX11_person 17 = .ok (.iload_n 1, 1) := by decide +kernel
theorem dX11_person_18 : decode cX11_person 18 = .ok (.invokevirtual 92, 3) := by decide +kernel
theorem dX11_person_21 : decode cX11_person 21 = .ok (.astore_n 3, 1) := by decide +kernel
theorem dX11_person_22 : decode cX11_person 22 = .ok (.iload_n 2, 1) := by decide +kernel
theorem dX11_person_23 : decode cX11_person 23 = .ok (.tableswitch 74 0 5 #[37, 42, 47, 56, 61, 69], 37) := by decide +kernel
theorem dX11_person_60 : decode cX11_person 60 = .ok (.aload_n 3, 1) := by decide +kernel
theorem dX11_person_61 : decode cX11_person 61 = .ok (.invokevirtual 95, 3) := by decide +kernel
theorem dX11_person_64 : decode cX11_person 64 = .ok (.ireturn, 1) := by decide +kernel
theorem dX11_person_65 : decode cX11_person 65 = .ok (.aload_n 3, 1) := by decide +kernel
theorem dX11_person_66 : decode cX11_person 66 = .ok (.getfield 98, 3) := by decide +kernel
theorem dX11_person_69 : decode cX11_person 69 = .ok (.ireturn, 1) := by decide +kernel
theorem dX11_person_70 : decode cX11_person 70 = .ok (.aload_n 0, 1) := by decide +kernel
theorem dX11_person_71 : decode cX11_person 71 = .ok (.getfield 27, 3) := by decide +kernel
theorem dX11_person_74 : decode cX11_person 74 = .ok (.iload_n 1, 1) := by decide +kernel
theorem dX11_person_75 : decode cX11_person 75 = .ok (.invokevirtual 101, 3) := by decide +kernel
theorem dX11_person_78 : decode cX11_person 78 = .ok (.ireturn, 1) := by decide +kernel
theorem dX11_person_79 : decode cX11_person 79 = .ok (.aload_n 3, 1) := by decide +kernel
theorem dX11_person_80 : decode cX11_person 80 = .ok (.invokevirtual 104, 3) := by decide +kernel
theorem dX11_person_83 : decode cX11_person 83 = .ok (.ireturn, 1) := by decide +kernel
theorem dX11_person_84 : decode cX11_person 84 = .ok (.aload_n 3, 1) := by decide +kernel
theorem dX11_person_85 : decode cX11_person 85 = .ok (.invokevirtual 107, 3) := by decide +kernel
theorem dX11_person_88 : decode cX11_person 88 = .ok (.bipush 10, 2) := by decide +kernel
theorem dX11_person_90 : decode cX11_person 90 = .ok (.iadd, 1) := by decide +kernel
theorem dX11_person_91 : decode cX11_person 91 = .ok (.ireturn, 1) := by decide +kernel
theorem dX11_person_92 : decode cX11_person 92 = .ok (.aload_n 3, 1) := by decide +kernel
theorem dX11_person_93 : decode cX11_person 93 = .ok (.invokevirtual 110, 3) := by decide +kernel
theorem dX11_person_96 : decode cX11_person 96 = .ok (.ireturn, 1) := by decide +kernel
theorem dX11_person_97 : decode cX11_person 97 = .ok (.iconst (-1), 1) := by decide +kernel
theorem dX11_person_98 : decode cX11_person 98 = .ok (.ireturn, 1) := by decide +kernel
set_option maxRecDepth 20000 in
theorem ggX11_fond_X10_areTwo : GoodIn wsX11_fond wsX10_areTwo := goodIn_r _ [6, 7, 8, 9, 5, 10, 11, 30, 31, 32, 33, 34, 35, 36] (by decide +kernel) (by decide +kernel)
set_option maxRecDepth 20000 in
theorem gX11_fond_X10_areTwo : GoodIn wsX11_fond (wsV RX11 113 RX10 yX10_areTwo wsX10_areTwo) := goodIn_app (goodIn_of _ (by decide +kernel)) ggX11_fond_X10_areTwo
set_option maxRecDepth 20000 in
theorem ggX11_fond_X10_fondOf : GoodIn wsX11_fond wsX10_fondOf := goodIn_r _ [15, 16, 17, 3, 4, 5, 6, 7, 8, 9, 10, 11, 18, 19, 20, 30, 31, 32, 33, 34, 35, 36] (by decide +kernel) (by decide +kernel)
set_option maxRecDepth 20000 in
theorem gX11_fond_X10_fondOf : GoodIn wsX11_fond (wsV RX11 117 RX10 yX10_fondOf wsX10_fondOf) := goodIn_app (goodIn_of _ (by decide +kernel)) ggX11_fond_X10_fondOf
theorem dX11_fond_0 : decode cX11_fond 0 = .ok (.aload_n 0, 1) := by decide +kernel
theorem dX11_fond_1 : decode cX11_fond 1 = .ok (.getfield 27, 3) := by decide +kernel
theorem dX11_fond_4 : decode cX11_fond 4 = .ok (.iload_n 1, 1) := by decide +kernel
theorem dX11_fond_5 : decode cX11_fond 5 = .ok (.iload_n 2, 1) := by decide +kernel
theorem dX11_fond_6 : decode cX11_fond 6 = .ok (.invokevirtual 113, 3) := by decide +kernel
theorem dX11_fond_9 : decode cX11_fond 9 = .ok (.ifCond .eq 15, 3) := by decide +kernel
theorem dX11_fond_12 : decode cX11_fond 12 = .ok (.aload_n 0, 1) := by decide +kernel
theorem dX11_fond_13 : decode cX11_fond 13 = .ok (.getfield 27, 3) := by decide +kernel
theorem dX11_fond_16 : decode cX11_fond 16 = .ok (.iload_n 1, 1) := by decide +kernel
theorem dX11_fond_17 : decode cX11_fond 17 = .ok (.iload_n 2, 1) := by decide +kernel
theorem dX11_fond_18 : decode cX11_fond 18 = .ok (.invokevirtual 117, 3) := by decide +kernel
theorem dX11_fond_21 : decode cX11_fond 21 = .ok (.goto 4, 3) := by decide +kernel
theorem dX11_fond_24 : decode cX11_fond 24 = .ok (.iconst (-1), 1) := by decide +kernel
theorem dX11_fond_25 : decode cX11_fond 25 = .ok (.ireturn, 1) := by decide +kernel
set_option maxRecDepth 20000 in
theorem ggX11_comes_X11_oneOn : GoodIn wsX11_comes wsX11_oneOn := goodIn_r _ [7, 8, 28, 29, 30, 31, 32, 33, 34, 35, 36] (by decide +kernel) (by decide +kernel)
set_option maxRecDepth 20000 in
theorem gX11_comes_X11_oneOn : GoodIn wsX11_comes (wsV RX11 121 RX11 yX11_oneOn wsX11_oneOn) := goodIn_app (goodIn_of _ (by decide +kernel)) ggX11_comes_X11_oneOn
set_option maxRecDepth 20000 in
theorem ggX11_comes_X11_refusalWithoutOne : GoodIn wsX11_comes wsX11_refusalWithoutOne := goodIn_r _ [12, 13, 14, 6, 15, 16, 17, 18, 19, 20, 28, 29, 30, 31, 32, 33, 34, 35, 36] (by decide +kernel) (by decide +kernel)
set_option maxRecDepth 20000 in
theorem gX11_comes_X11_refusalWithoutOne : GoodIn wsX11_comes (wsV RX11 124 RX11 yX11_refusalWithoutOne wsX11_refusalWithoutOne) := goodIn_app (goodIn_of _ (by decide +kernel)) ggX11_comes_X11_refusalWithoutOne
set_option maxRecDepth 20000 in
theorem ggX11_comes_X10_admit : GoodIn wsX11_comes wsX10_admit := goodIn_r _ [25, 26, 27, 37, 38, 39, 40, 41, 42, 43] (by decide +kernel) (by decide +kernel)
set_option maxRecDepth 20000 in
theorem gX11_comes_X10_admit : GoodIn wsX11_comes (wsV RX11 127 RX10 yX10_admit wsX10_admit) := goodIn_app (goodIn_of _ (by decide +kernel)) ggX11_comes_X10_admit
theorem dX11_comes_0 : decode cX11_comes 0 = .ok (.aload_n 0, 1) := by decide +kernel
theorem dX11_comes_1 : decode cX11_comes 1 = .ok (.iload_n 1, 1) := by decide +kernel
theorem dX11_comes_2 : decode cX11_comes 2 = .ok (.invokevirtual 121, 3) := by decide +kernel
theorem dX11_comes_5 : decode cX11_comes 5 = .ok (.astore_n 2, 1) := by decide +kernel
theorem dX11_comes_6 : decode cX11_comes 6 = .ok (.aload_n 2, 1) := by decide +kernel
theorem dX11_comes_7 : decode cX11_comes 7 = .ok (.ifnonnull 9, 3) := by decide +kernel
theorem dX11_comes_10 : decode cX11_comes 10 = .ok (.aload_n 0, 1) := by decide +kernel
theorem dX11_comes_11 : decode cX11_comes 11 = .ok (.iload_n 1, 1) := by decide +kernel
theorem dX11_comes_12 : decode cX11_comes 12 = .ok (.invokevirtual 124, 3) := by decide +kernel
theorem dX11_comes_15 : decode cX11_comes 15 = .ok (.ireturn, 1) := by decide +kernel
theorem dX11_comes_16 : decode cX11_comes 16 = .ok (.aload_n 0, 1) := by decide +kernel
theorem dX11_comes_17 : decode cX11_comes 17 = .ok (.getfield 27, 3) := by decide +kernel
theorem dX11_comes_20 : decode cX11_comes 20 = .ok (.aload_n 2, 1) := by decide +kernel
theorem dX11_comes_21 : decode cX11_comes 21 = .ok (.invokevirtual 127, 3) := by decide +kernel
theorem dX11_comes_24 : decode cX11_comes 24 = .ok (.ifCond .eq 15, 3) := by decide +kernel
theorem dX11_comes_27 : decode cX11_comes 27 = .ok (.aload_n 0, 1) := by decide +kernel
theorem dX11_comes_28 : decode cX11_comes 28 = .ok (.getfield 27, 3) := by decide +kernel
theorem dX11_comes_31 : decode cX11_comes 31 = .ok (.getfield 131, 3) := by decide +kernel
theorem dX11_comes_34 : decode cX11_comes 34 = .ok (.iconst 1, 1) := by decide +kernel
theorem dX11_comes_35 : decode cX11_comes 35 = .ok (.isub, 1) := by decide +kernel
theorem dX11_comes_36 : decode cX11_comes 36 = .ok (.goto 5, 3) := by decide +kernel
theorem dX11_comes_39 : decode cX11_comes 39 = .ok (.bipush (-2), 2) := by decide +kernel
theorem dX11_comes_41 : decode cX11_comes 41 = .ok (.ireturn, 1) := by decide +kernel
set_option maxRecDepth 20000 in
theorem ggX11_feels_X10_fondOf : GoodIn wsX11_feels wsX10_fondOf := goodIn_r _ [6, 7, 8, 9, 10, 5, 11, 12, 13, 14, 15, 16, 17, 18, 19, 35, 36, 37, 38, 39, 40, 41] (by decide +kernel) (by decide +kernel)
set_option maxRecDepth 20000 in
theorem gX11_feels_X10_fondOf : GoodIn wsX11_feels (wsV RX11 117 RX10 yX10_fondOf wsX10_fondOf) := goodIn_app (goodIn_of _ (by decide +kernel)) ggX11_feels_X10_fondOf
set_option maxRecDepth 20000 in
theorem ggX11_feels_X10_setFond : GoodIn wsX11_feels wsX10_setFond := goodIn_r _ [23, 7, 8, 9, 10, 5, 11, 12, 13, 14, 15, 16, 24, 18, 25, 35, 36, 37, 38, 39, 40, 41] (by decide +kernel) (by decide +kernel)
set_option maxRecDepth 20000 in
theorem gX11_feels_X10_setFond : GoodIn wsX11_feels (wsV RX11 134 RX10 yX10_setFond wsX10_setFond) := goodIn_app (goodIn_of _ (by decide +kernel)) ggX11_feels_X10_setFond
theorem dX11_feels_0 : decode cX11_feels 0 = .ok (.aload_n 0, 1) := by decide +kernel
theorem dX11_feels_1 : decode cX11_feels 1 = .ok (.getfield 27, 3) := by decide +kernel
theorem dX11_feels_4 : decode cX11_feels 4 = .ok (.iload_n 1, 1) := by decide +kernel
theorem dX11_feels_5 : decode cX11_feels 5 = .ok (.iload_n 2, 1) := by decide +kernel
theorem dX11_feels_6 : decode cX11_feels 6 = .ok (.invokevirtual 117, 3) := by decide +kernel
theorem dX11_feels_9 : decode cX11_feels 9 = .ok (.istore 4, 2) := by decide +kernel
theorem dX11_feels_11 : decode cX11_feels 11 = .ok (.aload_n 0, 1) := by decide +kernel
theorem dX11_feels_12 : decode cX11_feels 12 = .ok (.getfield 27, 3) := by decide +kernel
theorem dX11_feels_15 : decode cX11_feels 15 = .ok (.iload_n 1, 1) := by decide +kernel
theorem dX11_feels_16 : decode cX11_feels 16 = .ok (.iload_n 2, 1) := by decide +kernel
theorem dX11_feels_17 : decode cX11_feels 17 = .ok (.iload_n 3, 1) := by decide +kernel
theorem dX11_feels_18 : decode cX11_feels 18 = .ok (.invokevirtual 134, 3) := by decide +kernel
theorem dX11_feels_21 : decode cX11_feels 21 = .ok (.ifCond .eq 8, 3) := by decide +kernel
theorem dX11_feels_24 : decode cX11_feels 24 = .ok (.iload 4, 2) := by decide +kernel
theorem dX11_feels_26 : decode cX11_feels 26 = .ok (.goto 4, 3) := by decide +kernel
theorem dX11_feels_29 : decode cX11_feels 29 = .ok (.iconst (-1), 1) := by decide +kernel
theorem dX11_feels_30 : decode cX11_feels 30 = .ok (.ireturn, 1) := by decide +kernel
set_option maxRecDepth 20000 in
theorem ggX11_limit_X10_setLimit : GoodIn wsX11_limit wsX10_setLimit := goodIn_r _ [7, 8, 18, 19, 20, 21, 22, 23, 24] (by decide +kernel) (by decide +kernel)
set_option maxRecDepth 20000 in
theorem gX11_limit_X10_setLimit : GoodIn wsX11_limit (wsV RX11 141 RX10 yX10_setLimit wsX10_setLimit) := goodIn_app (goodIn_of _ (by decide +kernel)) ggX11_limit_X10_setLimit
theorem dX11_limit_0 : decode cX11_limit 0 = .ok (.aload_n 0, 1) := by decide +kernel
theorem dX11_limit_1 : decode cX11_limit 1 = .ok (.getfield 27, 3) := by decide +kernel
theorem dX11_limit_4 : decode cX11_limit 4 = .ok (.getfield 138, 3) := by decide +kernel
theorem dX11_limit_7 : decode cX11_limit 7 = .ok (.istore_n 2, 1) := by decide +kernel
theorem dX11_limit_8 : decode cX11_limit 8 = .ok (.aload_n 0, 1) := by decide +kernel
theorem dX11_limit_9 : decode cX11_limit 9 = .ok (.getfield 27, 3) := by decide +kernel
theorem dX11_limit_12 : decode cX11_limit 12 = .ok (.iload_n 1, 1) := by decide +kernel
theorem dX11_limit_13 : decode cX11_limit 13 = .ok (.invokevirtual 141, 3) := by decide +kernel
theorem dX11_limit_16 : decode cX11_limit 16 = .ok (.ifCond .eq 7, 3) := by decide +kernel
theorem dX11_limit_19 : decode cX11_limit 19 = .ok (.iload_n 2, 1) := by decide +kernel
theorem dX11_limit_20 : decode cX11_limit 20 = .ok (.goto 4, 3) := by decide +kernel
theorem dX11_limit_23 : decode cX11_limit 23 = .ok (.iconst (-1), 1) := by decide +kernel
theorem dX11_limit_24 : decode cX11_limit 24 = .ok (.ireturn, 1) := by decide +kernel
set_option maxRecDepth 20000 in
theorem ggX11_sees_X10_areTwo : GoodIn wsX11_sees wsX10_areTwo := goodIn_r _ [6, 7, 8, 9, 5, 10, 11, 110, 111, 112, 113, 114, 115, 116] (by decide +kernel) (by decide +kernel)
set_option maxRecDepth 20000 in
theorem gX11_sees_X10_areTwo : GoodIn wsX11_sees (wsV RX11 113 RX10 yX10_areTwo wsX10_areTwo) := goodIn_app (goodIn_of _ (by decide +kernel)) ggX11_sees_X10_areTwo
set_option maxRecDepth 20000 in
theorem ggX11_sees_X10_see : GoodIn wsX11_sees wsX10_see := goodIn_r _ [15, 16, 17, 3, 4, 5, 6, 7, 8, 9, 10, 11, 18, 19, 20, 21, 22, 23, 24, 25, 26, 27, 28, 29, 30, 31, 32, 33, 34, 35, 36, 37, 38, 39, 40, 41, 42, 43, 44, 45, 46, 47, 48, 49, 50, 51, 52, 53, 54, 55, 56, 57, 58, 59, 60, 61, 62, 63, 64, 65, 66, 67, 68, 69, 70, 71, 72, 73, 74, 75, 76, 77, 78, 79, 80, 81, 82, 83, 84, 85, 86, 87, 88, 89, 90, 91, 92, 93, 94, 95, 96, 97, 98, 99, 110, 111, 112, 113, 114, 115, 116, 117, 118, 119, 120, 121, 122, 123, 124] (by decide +kernel) (by decide +kernel)
set_option maxRecDepth 20000 in
theorem gX11_sees_X10_see : GoodIn wsX11_sees (wsV RX11 144 RX10 yX10_see wsX10_see) := goodIn_app (goodIn_of _ (by decide +kernel)) ggX11_sees_X10_see
set_option maxRecDepth 20000 in
theorem ggX11_sees_X10_fondOf : GoodIn wsX11_sees wsX10_fondOf := goodIn_r _ [29, 30, 17, 3, 4, 5, 6, 7, 8, 9, 10, 11, 31, 32, 33, 110, 111, 112, 113, 114, 115, 116] (by decide +kernel) (by decide +kernel)
set_option maxRecDepth 20000 in
theorem gX11_sees_X10_fondOf : GoodIn wsX11_sees (wsV RX11 117 RX10 yX10_fondOf wsX10_fondOf) := goodIn_app (goodIn_of _ (by decide +kernel)) ggX11_sees_X10_fondOf
theorem dX11_sees_0 : decode cX11_sees 0 = .ok (.aload_n 0, 1) := by decide +kernel
theorem dX11_sees_1 : decode cX11_sees 1 = .ok (.getfield 27, 3) := by decide +kernel
theorem dX11_sees_4 : decode cX11_sees 4 = .ok (.iload_n 1, 1) := by decide +kernel
theorem dX11_sees_5 : decode cX11_sees 5 = .ok (.iload_n 2, 1) := by decide +kernel
theorem dX11_sees_6 : decode cX11_sees 6 = .ok (.invokevirtual 113, 3) := by decide +kernel
theorem dX11_sees_9 : decode cX11_sees 9 = .ok (.ifCond .ne 5, 3) := by decide +kernel
theorem dX11_sees_12 : decode cX11_sees 12 = .ok (.iconst (-1), 1) := by decide +kernel
theorem dX11_sees_13 : decode cX11_sees 13 = .ok (.ireturn, 1) := by decide +kernel
theorem dX11_sees_14 : decode cX11_sees 14 = .ok (.aload_n 0, 1) := by decide +kernel
theorem dX11_sees_15 : decode cX11_sees 15 = .ok (.getfield 27, 3) := by decide +kernel
theorem dX11_sees_18 : decode cX11_sees 18 = .ok (.iload_n 1, 1) := by decide +kernel
theorem dX11_sees_19 : decode cX11_sees 19 = .ok (.iload_n 2, 1) := by decide +kernel
theorem dX11_sees_20 : decode cX11_sees 20 = .ok (.invokevirtual 144, 3) := by decide +kernel
theorem dX11_sees_23 : decode cX11_sees 23 = .ok (.ifCond .eq 15, 3) := by decide +kernel
theorem dX11_sees_26 : decode cX11_sees 26 = .ok (.aload_n 0, 1) := by decide +kernel
theorem dX11_sees_27 : decode cX11_sees 27 = .ok (.getfield 27, 3) := by decide +kernel
theorem dX11_sees_30 : decode cX11_sees 30 = .ok (.iload_n 1, 1) := by decide +kernel
theorem dX11_sees_31 : decode cX11_sees 31 = .ok (.iload_n 2, 1) := by decide +kernel
theorem dX11_sees_32 : decode cX11_sees 32 = .ok (.invokevirtual 117, 3) := by decide +kernel
theorem dX11_sees_35 : decode cX11_sees 35 = .ok (.goto 5, 3) := by decide +kernel
theorem dX11_sees_38 : decode cX11_sees 38 = .ok (.bipush (-3), 2) := by decide +kernel
theorem dX11_sees_40 : decode cX11_sees 40 = .ok (.ireturn, 1) := by decide +kernel
set_option maxRecDepth 20000 in
theorem ggX11_turnsFor_X10_areTwo : GoodIn wsX11_turnsFor wsX10_areTwo := goodIn_r _ [6, 7, 8, 9, 5, 10, 11, 183, 184, 185, 186, 187, 188, 189] (by decide +kernel) (by decide +kernel)
set_option maxRecDepth 20000 in
theorem gX11_turnsFor_X10_areTwo : GoodIn wsX11_turnsFor (wsV RX11 113 RX10 yX10_areTwo wsX10_areTwo) := goodIn_app (goodIn_of _ (by decide +kernel)) ggX11_turnsFor_X10_areTwo
set_option maxRecDepth 20000 in
theorem ggX11_turnsFor_X10_turn : GoodIn wsX11_turnsFor wsX10_turn := goodIn_r _ [15, 16, 17, 18, 19, 20, 5, 21, 22, 3, 4, 6, 7, 8, 9, 10, 11, 23, 24, 25, 26, 27, 28, 29, 30, 31, 32, 33, 34, 35, 36, 37, 38, 39, 40, 41, 42, 43, 44, 45, 46, 47, 48, 49, 50, 51, 52, 53, 54, 55, 56, 57, 58, 59, 60, 61, 62, 63, 64, 65, 66, 67, 68, 69, 70, 71, 72, 73, 74, 75, 76, 77, 78, 79, 80, 81, 82, 83, 84, 85, 86, 87, 88, 89, 90, 91, 92, 93, 94, 95, 96, 97, 98, 99, 100, 101, 102, 103, 104, 105, 106, 107, 108, 109, 110, 111, 112, 113, 114, 115, 116, 117, 118, 119, 120, 121, 122, 123, 124, 125, 126, 127, 128, 129, 130, 131, 132, 133, 134, 135, 136, 137, 138, 139, 140, 141, 142, 143, 144, 145, 146, 147, 148, 149, 150, 151, 152, 153, 154, 155, 156, 157, 158, 159, 160, 161, 162, 163, 164, 165, 166, 167, 168, 169, 170, 171, 172, 183, 184, 185, 186, 187, 188, 189, 190, 191, 192, 193, 194, 195, 196, 197] (by decide +kernel) (by decide +kernel)
set_option maxRecDepth 20000 in
theorem gX11_turnsFor_X10_turn : GoodIn wsX11_turnsFor (wsV RX11 147 RX10 yX10_turn wsX10_turn) := goodIn_app (goodIn_of _ (by decide +kernel)) ggX11_turnsFor_X10_turn
set_option maxRecDepth 20000 in
theorem ggX11_turnsFor_X10_turnedOf : GoodIn wsX11_turnsFor wsX10_turnedOf := goodIn_r _ [79, 80, 7, 8, 9, 5, 10, 11, 28, 29, 30, 183, 184, 185, 186, 187, 188, 189] (by decide +kernel) (by decide +kernel)
set_option maxRecDepth 20000 in
theorem gX11_turnsFor_X10_turnedOf : GoodIn wsX11_turnsFor (wsV RX11 101 RX10 yX10_turnedOf wsX10_turnedOf) := goodIn_app (goodIn_of _ (by decide +kernel)) ggX11_turnsFor_X10_turnedOf
theorem dX11_turnsFor_0 : decode cX11_turnsFor 0 = .ok (.aload_n 0, 1) := by decide +kernel
theorem dX11_turnsFor_1 : decode cX11_turnsFor 1 = .ok (.getfield 27, 3) := by decide +kernel
theorem dX11_turnsFor_4 : decode cX11_turnsFor 4 = .ok (.iload_n 1, 1) := by decide +kernel
theorem dX11_turnsFor_5 : decode cX11_turnsFor 5 = .ok (.iload_n 2, 1) := by decide +kernel
theorem dX11_turnsFor_6 : decode cX11_turnsFor 6 = .ok (.invokevirtual 113, 3) := by decide +kernel
theorem dX11_turnsFor_9 : decode cX11_turnsFor 9 = .ok (.ifCond .ne 5, 3) := by decide +kernel
theorem dX11_turnsFor_12 : decode cX11_turnsFor 12 = .ok (.iconst (-1), 1) := by decide +kernel
theorem dX11_turnsFor_13 : decode cX11_turnsFor 13 = .ok (.ireturn, 1) := by decide +kernel
theorem dX11_turnsFor_14 : decode cX11_turnsFor 14 = .ok (.aload_n 0, 1) := by decide +kernel
theorem dX11_turnsFor_15 : decode cX11_turnsFor 15 = .ok (.getfield 27, 3) := by decide +kernel
theorem dX11_turnsFor_18 : decode cX11_turnsFor 18 = .ok (.iload_n 1, 1) := by decide +kernel
theorem dX11_turnsFor_19 : decode cX11_turnsFor 19 = .ok (.iload_n 2, 1) := by decide +kernel
theorem dX11_turnsFor_20 : decode cX11_turnsFor 20 = .ok (.invokevirtual 147, 3) := by decide +kernel
theorem dX11_turnsFor_23 : decode cX11_turnsFor 23 = .ok (.ifCond .eq 14, 3) := by decide +kernel
theorem dX11_turnsFor_26 : decode cX11_turnsFor 26 = .ok (.aload_n 0, 1) := by decide +kernel
theorem dX11_turnsFor_27 : decode cX11_turnsFor 27 = .ok (.getfield 27, 3) := by decide +kernel
theorem dX11_turnsFor_30 : decode cX11_turnsFor 30 = .ok (.iload_n 2, 1) := by decide +kernel
theorem dX11_turnsFor_31 : decode cX11_turnsFor 31 = .ok (.invokevirtual 101, 3) := by decide +kernel
theorem dX11_turnsFor_34 : decode cX11_turnsFor 34 = .ok (.goto 5, 3) := by decide +kernel
theorem dX11_turnsFor_37 : decode cX11_turnsFor 37 = .ok (.bipush (-3), 2) := by decide +kernel
theorem dX11_turnsFor_39 : decode cX11_turnsFor 39 = .ok (.ireturn, 1) := by decide +kernel
set_option maxRecDepth 20000 in
theorem ggX11_days_X10_pass : GoodIn wsX11_days wsX10_pass := goodIn_r _ [7, 8, 18, 19, 20, 21, 22, 23, 24] (by decide +kernel) (by decide +kernel)
set_option maxRecDepth 20000 in
theorem gX11_days_X10_pass : GoodIn wsX11_days (wsV RX11 150 RX10 yX10_pass wsX10_pass) := goodIn_app (goodIn_of _ (by decide +kernel)) ggX11_days_X10_pass
theorem dX11_days_0 : decode cX11_days 0 = .ok (.iload_n 1, 1) := by decide +kernel
theorem dX11_days_1 : decode cX11_days 1 = .ok (.iconst 1, 1) := by decide +kernel
theorem dX11_days_2 : decode cX11_days 2 = .ok (.if_icmp .lt 9, 3) := by decide +kernel
theorem dX11_days_5 : decode cX11_days 5 = .ok (.iload_n 1, 1) := by decide +kernel
theorem dX11_days_6 : decode cX11_days 6 = .ok (.bipush 99, 2) := by decide +kernel
theorem dX11_days_8 : decode cX11_days 8 = .ok (.if_icmp .le 5, 3) := by decide +kernel
theorem dX11_days_11 : decode cX11_days 11 = .ok (.iconst (-1), 1) := by decide +kernel
theorem dX11_days_12 : decode cX11_days 12 = .ok (.ireturn, 1) := by decide +kernel
theorem dX11_days_13 : decode cX11_days 13 = .ok (.aload_n 0, 1) := by decide +kernel
theorem dX11_days_14 : decode cX11_days 14 = .ok (.getfield 27, 3) := by decide +kernel
theorem dX11_days_17 : decode cX11_days 17 = .ok (.iload_n 1, 1) := by decide +kernel
theorem dX11_days_18 : decode cX11_days 18 = .ok (.invokevirtual 150, 3) := by decide +kernel
theorem dX11_days_21 : decode cX11_days 21 = .ok (.ifCond .eq 13, 3) := by decide +kernel
theorem dX11_days_24 : decode cX11_days 24 = .ok (.aload_n 0, 1) := by decide +kernel
theorem dX11_days_25 : decode cX11_days 25 = .ok (.getfield 27, 3) := by decide +kernel
theorem dX11_days_28 : decode cX11_days 28 = .ok (.getfield 153, 3) := by decide +kernel
theorem dX11_days_31 : decode cX11_days 31 = .ok (.goto 5, 3) := by decide +kernel
theorem dX11_days_34 : decode cX11_days 34 = .ok (.bipush (-3), 2) := by decide +kernel
theorem dX11_days_36 : decode cX11_days 36 = .ok (.ireturn, 1) := by decide +kernel
set_option maxRecDepth 20000 in
theorem ggX11_fit_X10_has : GoodIn wsX11_fit wsX10_has := goodIn_r _ [7, 8, 84, 85, 86, 87, 88, 89, 90] (by decide +kernel) (by decide +kernel)
set_option maxRecDepth 20000 in
theorem gX11_fit_X10_has : GoodIn wsX11_fit (wsV RX11 88 RX10 yX10_has wsX10_has) := goodIn_app (goodIn_of _ (by decide +kernel)) ggX11_fit_X10_has
set_option maxRecDepth 20000 in
theorem ggX11_fit_X10_fitFor : GoodIn wsX11_fit wsX10_fitFor := goodIn_r _ [12, 8, 13, 14, 15, 6, 16, 17, 18, 19, 20, 21, 4, 5, 7, 22, 23, 24, 25, 26, 27, 28, 29, 30, 31, 32, 33, 34, 35, 36, 37, 38, 39, 40, 41, 42, 43, 44, 45, 46, 47, 48, 49, 50, 51, 52, 53, 54, 55, 56, 57, 58, 59, 60, 61, 62, 63, 64, 65, 66, 67, 68, 69, 70, 71, 72, 73, 74, 84, 85, 86, 87, 88, 89, 90] (by decide +kernel) (by decide +kernel)
set_option maxRecDepth 20000 in
theorem gX11_fit_X10_fitFor : GoodIn wsX11_fit (wsV RX11 156 RX10 yX10_fitFor wsX10_fitFor) := goodIn_app (goodIn_of _ (by decide +kernel)) ggX11_fit_X10_fitFor
theorem dX11_fit_0 : decode cX11_fit 0 = .ok (.aload_n 0, 1) := by decide +kernel
theorem dX11_fit_1 : decode cX11_fit 1 = .ok (.getfield 27, 3) := by decide +kernel
theorem dX11_fit_4 : decode cX11_fit 4 = .ok (.iload_n 1, 1) := by decide +kernel
theorem dX11_fit_5 : decode cX11_fit 5 = .ok (.invokevirtual 88, 3) := by decide +kernel
theorem dX11_fit_8 : decode cX11_fit 8 = .ok (.ifCond .eq 21, 3) := by decide +kernel
theorem dX11_fit_11 : decode cX11_fit 11 = .ok (.aload_n 0, 1) := by decide +kernel
theorem dX11_fit_12 : decode cX11_fit 12 = .ok (.getfield 27, 3) := by decide +kernel
theorem dX11_fit_15 : decode cX11_fit 15 = .ok (.iload_n 1, 1) := by decide +kernel
theorem dX11_fit_16 : decode cX11_fit 16 = .ok (.aload_n 0, 1) := by decide +kernel
theorem dX11_fit_17 : decode cX11_fit 17 = .ok (.getfield 27, 3) := by decide +kernel
theorem dX11_fit_20 : decode cX11_fit 20 = .ok (.getfield 138, 3) := by decide +kernel
theorem dX11_fit_23 : decode cX11_fit 23 = .ok (.invokevirtual 156, 3) := by decide +kernel
theorem dX11_fit_26 : decode cX11_fit 26 = .ok (.goto 4, 3) := by decide +kernel
theorem dX11_fit_29 : decode cX11_fit 29 = .ok (.iconst (-1), 1) := by decide +kernel
theorem dX11_fit_30 : decode cX11_fit 30 = .ok (.ireturn, 1) := by decide +kernel
set_option maxRecDepth 20000 in
theorem ggX11_told_X10_has : GoodIn wsX11_told wsX10_has := goodIn_r _ [8, 9, 130, 131, 132, 133, 134, 135, 136] (by decide +kernel) (by decide +kernel)
set_option maxRecDepth 20000 in
theorem gX11_told_X10_has : GoodIn wsX11_told (wsV RX11 88 RX10 yX10_has wsX10_has) := goodIn_app (goodIn_of _ (by decide +kernel)) ggX11_told_X10_has
set_option maxRecDepth 20000 in
theorem ggX11_told_X2_gather : GoodIn wsX11_told wsX2_gather := goodIn_r _ [14, 15, 16, 17, 18, 19, 20, 21, 22, 23, 24, 7, 25, 9, 26, 27, 28, 29, 30, 31, 32, 33, 34, 5, 6, 8, 35, 36, 37, 38, 39, 40, 41, 42, 43, 44, 45, 46, 47, 48, 49, 50, 51, 52, 53, 54, 55, 56, 57, 58, 59, 60, 61, 62, 63, 64, 65, 66, 67, 68, 69, 70, 71, 72, 73, 74, 75, 76, 77, 78, 79, 80, 81, 82, 83, 84, 85, 86, 87, 88, 89, 130, 131, 132, 133, 134, 135, 136, 137, 138, 139, 140] (by decide +kernel) (by decide +kernel)
set_option maxRecDepth 20000 in
theorem gX11_told_X2_gather : GoodIn wsX11_told (wsV RX11 159 RX2 yX2_gather wsX2_gather) := goodIn_app (goodIn_of _ (by decide +kernel)) ggX11_told_X2_gather
set_option maxRecDepth 20000 in
theorem ggX11_told_X2_mostTold : GoodIn wsX11_told wsX2_mostTold := goodIn_r _ [93, 20, 94, 88, 41, 89, 95, 96, 97, 98, 99, 100, 101, 102, 103, 104, 13, 105, 21, 106, 107, 18, 108, 109, 110, 111, 112, 40, 42, 137, 138, 139, 140] (by decide +kernel) (by decide +kernel)
set_option maxRecDepth 20000 in
theorem gX11_told_X2_mostTold : GoodIn wsX11_told (wsV RX11 163 RX2 yX2_mostTold wsX2_mostTold) := goodIn_app (goodIn_of _ (by decide +kernel)) ggX11_told_X2_mostTold
set_option maxRecDepth 20000 in
theorem ggX11_told_X2_turnerOf : GoodIn wsX11_told wsX2_turnerOf := goodIn_r _ [116, 20, 117, 118, 119, 13, 120, 21, 40, 41, 42, 109, 110, 111, 112, 94, 137, 138, 139, 140] (by decide +kernel) (by decide +kernel)
set_option maxRecDepth 20000 in
theorem gX11_told_X2_turnerOf : GoodIn wsX11_told (wsV RX11 166 RX2 yX2_turnerOf wsX2_turnerOf) := goodIn_app (goodIn_of _ (by decide +kernel)) ggX11_told_X2_turnerOf
theorem dX11_told_0 : decode cX11_told 0 = .ok (.iload_n 1, 1) := by decide +kernel
theorem dX11_told_1 : decode cX11_told 1 = .ok (.iconst (-1), 1) := by decide +kernel
theorem dX11_told_2 : decode cX11_told 2 = .ok (.if_icmp .eq 16, 3) := by decide +kernel
theorem dX11_told_5 : decode cX11_told 5 = .ok (.aload_n 0, 1) := by decide +kernel
theorem dX11_told_6 : decode cX11_told 6 = .ok (.getfield 27, 3) := by decide +kernel
theorem dX11_told_9 : decode cX11_told 9 = .ok (.iload_n 1, 1) := by decide +kernel
theorem dX11_told_10 : decode cX11_told 10 = .ok (.invokevirtual 88, 3) := by decide +kernel
theorem dX11_told_13 : decode cX11_told 13 = .ok (.ifCond .ne 5, 3) := by decide +kernel
theorem dX11_told_16 : decode cX11_told 16 = .ok (.iconst (-1), 1) := by decide +kernel
theorem dX11_told_17 : decode cX11_told 17 = .ok (.ireturn, 1) := by decide +kernel
theorem dX11_told_18 : decode cX11_told 18 = .ok (.aload_n 0, 1) := by decide +kernel
theorem dX11_told_19 : decode cX11_told 19 = .ok (.getfield 40, 3) := by decide +kernel
theorem dX11_told_22 : decode cX11_told 22 = .ok (.aload_n 0, 1) := by decide +kernel
theorem dX11_told_23 : decode cX11_told 23 = .ok (.getfield 27, 3) := by decide +kernel
theorem dX11_told_26 : decode cX11_told 26 = .ok (.aload_n 0, 1) := by decide +kernel
theorem dX11_told_27 : decode cX11_told 27 = .ok (.getfield 27, 3) := by decide +kernel
theorem dX11_told_30 : decode cX11_told 30 = .ok (.getfield 138, 3) := by decide +kernel
theorem dX11_told_33 : decode cX11_told 33 = .ok (.invokevirtual 159, 3) := by decide +kernel
theorem dX11_told_36 : decode cX11_told 36 = .ok (.aload_n 0, 1) := by decide +kernel
theorem dX11_told_37 : decode cX11_told 37 = .ok (.getfield 40, 3) := by decide +kernel
theorem dX11_told_40 : decode cX11_told 40 = .ok (.invokevirtual 163, 3) := by decide +kernel
theorem dX11_told_43 : decode cX11_told 43 = .ok (.istore_n 2, 1) := by decide +kernel
theorem dX11_told_44 : decode cX11_told 44 = .ok (.iload_n 1, 1) := by decide +kernel
theorem dX11_told_45 : decode cX11_told 45 = .ok (.iconst (-1), 1) := by decide +kernel
theorem dX11_told_46 : decode cX11_told 46 = .ok (.if_icmp .ne 7, 3) := by decide +kernel
theorem dX11_told_49 : decode cX11_told 49 = .ok (.iload_n 2, 1) := by decide +kernel
theorem dX11_told_50 : decode cX11_told 50 = .ok (.goto 11, 3) := by decide +kernel
theorem dX11_told_53 : decode cX11_told 53 = .ok (.aload_n 0, 1) := by decide +kernel
theorem dX11_told_54 : decode cX11_told 54 = .ok (.getfield 40, 3) := by decide +kernel
theorem dX11_told_57 : decode cX11_told 57 = .ok (.iload_n 1, 1) := by decide +kernel
theorem dX11_told_58 : decode cX11_told 58 = .ok (.invokevirtual 166, 3) := by decide +kernel
theorem dX11_told_61 : decode cX11_told 61 = .ok (.ireturn, 1) := by decide +kernel
set_option maxRecDepth 20000 in
theorem ggX11_rings_X2_gather : GoodIn wsX11_rings wsX2_gather := goodIn_r _ [8, 9, 10, 11, 12, 13, 14, 15, 16, 17, 18, 19, 20, 21, 22, 23, 24, 25, 26, 27, 28, 29, 30, 31, 32, 33, 34, 35, 36, 37, 38, 39, 40, 41, 42, 43, 44, 45, 46, 47, 48, 49, 50, 51, 52, 53, 54, 55, 56, 57, 58, 59, 60, 61, 62, 63, 64, 65, 66, 67, 68, 69, 70, 71, 72, 73, 74, 75, 76, 77, 78, 79, 80, 81, 82, 83, 84, 85, 86, 87, 88, 110, 111, 112, 113, 114, 115, 116, 117, 118, 119, 120] (by decide +kernel) (by decide +kernel)
set_option maxRecDepth 20000 in
theorem gX11_rings_X2_gather : GoodIn wsX11_rings (wsV RX11 159 RX2 yX2_gather wsX2_gather) := goodIn_app (goodIn_of _ (by decide +kernel)) ggX11_rings_X2_gather
set_option maxRecDepth 20000 in
theorem ggX11_rings_X2_waysForAll : GoodIn wsX11_rings wsX2_waysForAll := goodIn_r _ [92, 14, 93, 15, 87, 40, 88, 94, 95, 96, 97, 98, 99, 100, 39, 41, 117, 118, 119, 120] (by decide +kernel) (by decide +kernel)
set_option maxRecDepth 20000 in
theorem gX11_rings_X2_waysForAll : GoodIn wsX11_rings (wsV RX11 169 RX2 yX2_waysForAll wsX2_waysForAll) := goodIn_app (goodIn_of _ (by decide +kernel)) ggX11_rings_X2_waysForAll
theorem dX11_rings_0 : decode cX11_rings 0 = .ok (.aload_n 0, 1) := by decide +kernel
theorem dX11_rings_1 : decode cX11_rings 1 = .ok (.getfield 40, 3) := by decide +kernel
theorem dX11_rings_4 : decode cX11_rings 4 = .ok (.aload_n 0, 1) := by decide +kernel
theorem dX11_rings_5 : decode cX11_rings 5 = .ok (.getfield 27, 3) := by decide +kernel
theorem dX11_rings_8 : decode cX11_rings 8 = .ok (.aload_n 0, 1) := by decide +kernel
theorem dX11_rings_9 : decode cX11_rings 9 = .ok (.getfield 27, 3) := by decide +kernel
theorem dX11_rings_12 : decode cX11_rings 12 = .ok (.getfield 138, 3) := by decide +kernel
theorem dX11_rings_15 : decode cX11_rings 15 = .ok (.invokevirtual 159, 3) := by decide +kernel
theorem dX11_rings_18 : decode cX11_rings 18 = .ok (.aload_n 0, 1) := by decide +kernel
theorem dX11_rings_19 : decode cX11_rings 19 = .ok (.getfield 40, 3) := by decide +kernel
theorem dX11_rings_22 : decode cX11_rings 22 = .ok (.invokevirtual 169, 3) := by decide +kernel
theorem dX11_rings_25 : decode cX11_rings 25 = .ok (.ireturn, 1) := by decide +kernel
set_option maxRecDepth 20000 in
theorem ggX11_nobody_X10_fitFor : GoodIn wsX11_nobody wsX10_fitFor := goodIn_r _ [8, 9, 10, 11, 12, 7, 13, 14, 15, 16, 17, 18, 19, 20, 21, 22, 23, 24, 25, 26, 27, 28, 29, 30, 31, 32, 33, 34, 35, 36, 37, 38, 39, 40, 41, 42, 43, 44, 45, 46, 47, 48, 49, 50, 51, 52, 53, 54, 55, 56, 57, 58, 59, 60, 61, 62, 63, 64, 65, 66, 67, 68, 69, 70, 71, 72, 73, 74, 84, 85, 86, 87, 88, 89, 90] (by decide +kernel) (by decide +kernel)
set_option maxRecDepth 20000 in
theorem gX11_nobody_X10_fitFor : GoodIn wsX11_nobody (wsV RX11 156 RX10 yX10_fitFor wsX10_fitFor) := goodIn_app (goodIn_of _ (by decide +kernel)) ggX11_nobody_X10_fitFor
theorem dX11_nobody_0 : decode cX11_nobody 0 = .ok (.iconst 0, 1) := by decide +kernel
theorem dX11_nobody_1 : decode cX11_nobody 1 = .ok (.istore_n 1, 1) := by decide +kernel
theorem dX11_nobody_2 : decode cX11_nobody 2 = .ok (.iconst 0, 1) := by decide +kernel
theorem dX11_nobody_3 : decode cX11_nobody 3 = .ok (.istore_n 2, 1) := by decide +kernel
theorem dX11_nobody_4 : decode cX11_nobody 4 = .ok (.iload_n 2, 1) := by decide +kernel
theorem dX11_nobody_5 : decode cX11_nobody 5 = .ok (.aload_n 0, 1) := by decide +kernel
theorem dX11_nobody_6 : decode cX11_nobody 6 = .ok (.getfield 27, 3) := by decide +kernel
theorem dX11_nobody_9 : decode cX11_nobody 9 = .ok (.getfield 131, 3) := by decide +kernel
theorem dX11_nobody_12 : decode cX11_nobody 12 = .ok (.if_icmp .ge 33, 3) := by decide +kernel
theorem dX11_nobody_15 : decode cX11_nobody 15 = .ok (.aload_n 0, 1) := by decide +kernel
theorem dX11_nobody_16 : decode cX11_nobody 16 = .ok (.getfield 27, 3) := by decide +kernel
theorem dX11_nobody_19 : decode cX11_nobody 19 = .ok (.iload_n 2, 1) := by decide +kernel
theorem dX11_nobody_20 : decode cX11_nobody 20 = .ok (.aload_n 0, 1) := by decide +kernel
theorem dX11_nobody_21 : decode cX11_nobody 21 = .ok (.getfield 27, 3) := by decide +kernel
theorem dX11_nobody_24 : decode cX11_nobody 24 = .ok (.getfield 138, 3) := by decide +kernel
theorem dX11_nobody_27 : decode cX11_nobody 27 = .ok (.invokevirtual 156, 3) := by decide +kernel
theorem dX11_nobody_30 : decode cX11_nobody 30 = .ok (.ifCond .ne 9, 3) := by decide +kernel
theorem dX11_nobody_33 : decode cX11_nobody 33 = .ok (.iload_n 1, 1) := by decide +kernel
theorem dX11_nobody_34 : decode cX11_nobody 34 = .ok (.iconst 1, 1) := by decide +kernel
theorem dX11_nobody_35 : decode cX11_nobody 35 = .ok (.iload_n 2, 1) := by decide +kernel
theorem dX11_nobody_36 : decode cX11_nobody 36 = .ok (.ishl, 1) := by decide +kernel
theorem dX11_nobody_37 : decode cX11_nobody 37 = .ok (.ior, 1) := by decide +kernel
theorem dX11_nobody_38 : decode cX11_nobody 38 = .ok (.istore_n 1, 1) := by decide +kernel
theorem dX11_nobody_39 : decode cX11_nobody 39 = .ok (.iinc 2 1, 3) := by decide +kernel
theorem dX11_nobody_42 : decode cX11_nobody 42 = .ok (.goto (-38), 3) := by decide +kernel
theorem dX11_nobody_45 : decode cX11_nobody 45 = .ok (.iload_n 1, 1) := by decide +kernel
theorem dX11_nobody_46 : decode cX11_nobody 46 = .ok (.ireturn, 1) := by decide +kernel
set_option maxRecDepth 20000 in
theorem ggX11_swaps_X11_isOneOfTwo : GoodIn wsX11_swaps wsX11_isOneOfTwo := goodIn_r _ [7] (by decide +kernel) (by decide +kernel)
set_option maxRecDepth 20000 in
theorem gX11_swaps_X11_isOneOfTwo : GoodIn wsX11_swaps (va_wsS RX11 172 yX11_isOneOfTwo wsX11_isOneOfTwo) := goodIn_app (goodIn_of _ (by decide +kernel)) ggX11_swaps_X11_isOneOfTwo
set_option maxRecDepth 20000 in
theorem ggX11_swaps_X10_may : GoodIn wsX11_swaps wsX10_may := goodIn_r _ [12, 13, 14, 15, 11, 16, 17, 18, 19, 20, 21, 22, 23, 24, 25, 26, 27, 6, 28, 29, 30, 31, 32, 33, 34, 35, 36, 37, 38, 39, 40, 41, 42, 43, 44, 45, 46, 47, 48, 49, 50, 51, 52, 53, 54, 55, 56, 57, 58, 59, 60, 61, 62, 63, 64, 65, 66, 67, 68, 69, 70, 71, 72, 73, 83, 84, 85, 86, 87, 88, 89] (by decide +kernel) (by decide +kernel)
set_option maxRecDepth 20000 in
theorem gX11_swaps_X10_may : GoodIn wsX11_swaps (wsV RX11 175 RX10 yX10_may wsX10_may) := goodIn_app (goodIn_of _ (by decide +kernel)) ggX11_swaps_X10_may
theorem dX11_swaps_0 : decode cX11_swaps 0 = .ok (.iload_n 1, 1) := by decide +kernel
theorem dX11_swaps_1 : decode cX11_swaps 1 = .ok (.invokestatic 172, 3) := by decide +kernel
theorem dX11_swaps_4 : decode cX11_swaps 4 = .ok (.ifCond .ne 5, 3) := by decide +kernel
theorem dX11_swaps_7 : decode cX11_swaps 7 = .ok (.iconst (-1), 1) := by decide +kernel
theorem dX11_swaps_8 : decode cX11_swaps 8 = .ok (.ireturn, 1) := by decide +kernel
theorem dX11_swaps_9 : decode cX11_swaps 9 = .ok (.iconst 0, 1) := by decide +kernel
theorem dX11_swaps_10 : decode cX11_swaps 10 = .ok (.istore_n 2, 1) := by decide +kernel
theorem dX11_swaps_11 : decode cX11_swaps 11 = .ok (.bipush (-4), 2) := by decide +kernel
theorem dX11_swaps_13 : decode cX11_swaps 13 = .ok (.istore_n 3, 1) := by decide +kernel
theorem dX11_swaps_14 : decode cX11_swaps 14 = .ok (.iconst 0, 1) := by decide +kernel
theorem dX11_swaps_15 : decode cX11_swaps 15 = .ok (.istore 4, 2) := by decide +kernel
theorem dX11_swaps_17 : decode cX11_swaps 17 = .ok (.iload 4, 2) := by decide +kernel
theorem dX11_swaps_19 : decode cX11_swaps 19 = .ok (.aload_n 0, 1) := by decide +kernel
theorem dX11_swaps_20 : decode cX11_swaps 20 = .ok (.getfield 27, 3) := by decide +kernel
theorem dX11_swaps_23 : decode cX11_swaps 23 = .ok (.getfield 131, 3) := by decide +kernel
theorem dX11_swaps_26 : decode cX11_swaps 26 = .ok (.if_icmp .ge 95, 3) := by decide +kernel
theorem dX11_swaps_29 : decode cX11_swaps 29 = .ok (.iload 4, 2) := by decide +kernel
theorem dX11_swaps_31 : decode cX11_swaps 31 = .ok (.iconst 1, 1) := by decide +kernel
theorem dX11_swaps_32 : decode cX11_swaps 32 = .ok (.iadd, 1) := by decide +kernel
theorem dX11_swaps_33 : decode cX11_swaps 33 = .ok (.istore 5, 2) := by decide +kernel
theorem dX11_swaps_35 : decode cX11_swaps 35 = .ok (.iload 5, 2) := by decide +kernel
theorem dX11_swaps_37 : decode cX11_swaps 37 = .ok (.aload_n 0, 1) := by decide +kernel
theorem dX11_swaps_38 : decode cX11_swaps 38 = .ok (.getfield 27, 3) := by decide +kernel
theorem dX11_swaps_41 : decode cX11_swaps 41 = .ok (.getfield 131, 3) := by decide +kernel
theorem dX11_swaps_44 : decode cX11_swaps 44 = .ok (.if_icmp .ge 71, 3) := by decide +kernel
theorem dX11_swaps_47 : decode cX11_swaps 47 = .ok (.aload_n 0, 1) := by decide +kernel
theorem dX11_swaps_48 : decode cX11_swaps 48 = .ok (.getfield 27, 3) := by decide +kernel
theorem dX11_swaps_51 : decode cX11_swaps 51 = .ok (.iload 4, 2) := by decide +kernel
theorem dX11_swaps_53 : decode cX11_swaps 53 = .ok (.iload 5, 2) := by decide +kernel
theorem dX11_swaps_55 : decode cX11_swaps 55 = .ok (.aload_n 0, 1) := by decide +kernel
theorem dX11_swaps_56 : decode cX11_swaps 56 = .ok (.getfield 27, 3) := by decide +kernel
theorem dX11_swaps_59 : decode cX11_swaps 59 = .ok (.getfield 138, 3) := by decide +kernel
theorem dX11_swaps_62 : decode cX11_swaps 62 = .ok (.invokevirtual 175, 3) := by decide +kernel
theorem dX11_swaps_65 : decode cX11_swaps 65 = .ok (.ifCond .eq 44, 3) := by decide +kernel
theorem dX11_swaps_68 : decode cX11_swaps 68 = .ok (.aload_n 0, 1) := by decide +kernel
theorem dX11_swaps_69 : decode cX11_swaps 69 = .ok (.getfield 27, 3) := by decide +kernel
theorem dX11_swaps_72 : decode cX11_swaps 72 = .ok (.iload 5, 2) := by decide +kernel
theorem dX11_swaps_74 : decode cX11_swaps 74 = .ok (.iload 4, 2) := by decide +kernel
theorem dX11_swaps_76 : decode cX11_swaps 76 = .ok (.aload_n 0, 1) := by decide +kernel
theorem dX11_swaps_77 : decode cX11_swaps 77 = .ok (.getfield 27, 3) := by decide +kernel
theorem dX11_swaps_80 : decode cX11_swaps 80 = .ok (.getfield 138, 3) := by decide +kernel
theorem dX11_swaps_83 : decode cX11_swaps 83 = .ok (.invokevirtual 175, 3) := by decide +kernel
theorem dX11_swaps_86 : decode cX11_swaps 86 = .ok (.ifCond .eq 23, 3) := by decide +kernel
theorem dX11_swaps_89 : decode cX11_swaps 89 = .ok (.iload_n 2, 1) := by decide +kernel
theorem dX11_swaps_90 : decode cX11_swaps 90 = .ok (.ifCond .ne 14, 3) := by decide +kernel
theorem dX11_swaps_93 : decode cX11_swaps 93 = .ok (.bipush 10, 2) := by decide +kernel
theorem dX11_swaps_95 : decode cX11_swaps 95 = .ok (.iload 4, 2) := by decide +kernel
theorem dX11_swaps_97 : decode cX11_swaps 97 = .ok (.imul, 1) := by decide +kernel
theorem dX11_swaps_98 : decode cX11_swaps 98 = .ok (.iload 5, 2) := by decide +kernel
theorem dX11_swaps_100 : decode cX11_swaps 100 = .ok (.iadd, 1) := by decide +kernel
theorem dX11_swaps_101 : decode cX11_swaps 101 = .ok (.goto 4, 3) := by decide +kernel
theorem dX11_swaps_104 : decode cX11_swaps 104 = .ok (.iload_n 3, 1) := by decide +kernel
theorem dX11_swaps_105 : decode cX11_swaps 105 = .ok (.istore_n 3, 1) := by decide +kernel
theorem dX11_swaps_106 : decode cX11_swaps 106 = .ok (.iinc 2 1, 3) := by decide +kernel
theorem dX11_swaps_109 : decode cX11_swaps 109 = .ok (.iinc 5 1, 3) := by decide +kernel
theorem dX11_swaps_112 : decode cX11_swaps 112 = .ok (.goto (-77), 3) := by decide +kernel
theorem dX11_swaps_115 : decode cX11_swaps 115 = .ok (.iinc 4 1, 3) := by decide +kernel
theorem dX11_swaps_118 : decode cX11_swaps 118 = .ok (.goto (-101), 3) := by decide +kernel
theorem dX11_swaps_121 : decode cX11_swaps 121 = .ok (.iload_n 1, 1) := by decide +kernel
theorem dX11_swaps_122 : decode cX11_swaps 122 = .ok (.ifCond .ne 7, 3) := by decide +kernel
theorem dX11_swaps_125 : decode cX11_swaps 125 = .ok (.iload_n 2, 1) := by decide +kernel
theorem dX11_swaps_126 : decode cX11_swaps 126 = .ok (.goto 4, 3) := by decide +kernel
theorem dX11_swaps_129 : decode cX11_swaps 129 = .ok (.iload_n 3, 1) := by decide +kernel
theorem dX11_swaps_130 : decode cX11_swaps 130 = .ok (.ireturn, 1) := by decide +kernel
set_option maxRecDepth 20000 in
theorem ggX11_lasts_X10_areTwo : GoodIn wsX11_lasts wsX10_areTwo := goodIn_r _ [6, 7, 8, 9, 5, 10, 11, 129, 130, 131, 132, 133, 134, 135] (by decide +kernel) (by decide +kernel)
set_option maxRecDepth 20000 in
theorem gX11_lasts_X10_areTwo : GoodIn wsX11_lasts (wsV RX11 113 RX10 yX10_areTwo wsX10_areTwo) := goodIn_app (goodIn_of _ (by decide +kernel)) ggX11_lasts_X10_areTwo
set_option maxRecDepth 20000 in
theorem ggX11_lasts_X10_turningsTillUnfit : GoodIn wsX11_lasts wsX10_turningsTillUnfit := goodIn_r _ [15, 16, 17, 18, 19, 20, 21, 22, 23, 5, 24, 25, 26, 27, 28, 29, 30, 31, 32, 33, 34, 35, 36, 37, 38, 39, 40, 41, 42, 43, 44, 45, 46, 47, 48, 49, 50, 51, 52, 53, 54, 55, 56, 57, 58, 59, 60, 61, 62, 63, 64, 65, 66, 67, 68, 69, 70, 71, 72, 73, 74, 75, 76, 77, 78, 79, 80, 81, 82, 83, 84, 85, 86, 87, 88, 89, 90, 91, 92, 93, 94, 95, 96, 97, 98, 99, 100, 101, 102, 103, 104, 105, 106, 107, 108, 109, 110, 111, 112, 113, 114, 115, 116, 3, 4, 6, 7, 8, 9, 10, 11, 117, 118, 119, 129, 130, 131, 132, 133, 134, 135, 136, 137, 138, 139, 140, 141, 142, 143] (by decide +kernel) (by decide +kernel)
set_option maxRecDepth 20000 in
theorem gX11_lasts_X10_turningsTillUnfit : GoodIn wsX11_lasts (wsV RX11 178 RX10 yX10_turningsTillUnfit wsX10_turningsTillUnfit) := goodIn_app (goodIn_of _ (by decide +kernel)) ggX11_lasts_X10_turningsTillUnfit
theorem dX11_lasts_0 : decode cX11_lasts 0 = .ok (.aload_n 0, 1) := by decide +kernel
theorem dX11_lasts_1 : decode cX11_lasts 1 = .ok (.getfield 27, 3) := by decide +kernel
theorem dX11_lasts_4 : decode cX11_lasts 4 = .ok (.iload_n 1, 1) := by decide +kernel
theorem dX11_lasts_5 : decode cX11_lasts 5 = .ok (.iload_n 2, 1) := by decide +kernel
theorem dX11_lasts_6 : decode cX11_lasts 6 = .ok (.invokevirtual 113, 3) := by decide +kernel
theorem dX11_lasts_9 : decode cX11_lasts 9 = .ok (.ifCond .eq 15, 3) := by decide +kernel
theorem dX11_lasts_12 : decode cX11_lasts 12 = .ok (.aload_n 0, 1) := by decide +kernel
theorem dX11_lasts_13 : decode cX11_lasts 13 = .ok (.getfield 27, 3) := by decide +kernel
theorem dX11_lasts_16 : decode cX11_lasts 16 = .ok (.iload_n 1, 1) := by decide +kernel
theorem dX11_lasts_17 : decode cX11_lasts 17 = .ok (.iload_n 2, 1) := by decide +kernel
theorem dX11_lasts_18 : decode cX11_lasts 18 = .ok (.invokevirtual 178, 3) := by decide +kernel
theorem dX11_lasts_21 : decode cX11_lasts 21 = .ok (.goto 4, 3) := by decide +kernel
theorem dX11_lasts_24 : decode cX11_lasts 24 = .ok (.iconst (-1), 1) := by decide +kernel
theorem dX11_lasts_25 : decode cX11_lasts 25 = .ok (.ireturn, 1) := by decide +kernel
set_option maxRecDepth 20000 in
theorem ggX11_soonest_X10_has : GoodIn wsX11_soonest wsX10_has := goodIn_r _ [6, 7, 185, 186, 187, 188, 189, 190, 191] (by decide +kernel) (by decide +kernel)
set_option maxRecDepth 20000 in
theorem gX11_soonest_X10_has : GoodIn wsX11_soonest (wsV RX11 88 RX10 yX10_has wsX10_has) := goodIn_app (goodIn_of _ (by decide +kernel)) ggX11_soonest_X10_has
set_option maxRecDepth 20000 in
theorem ggX11_soonest_X11_isOneOfTwo : GoodIn wsX11_soonest wsX11_isOneOfTwo := goodIn_r _ [11] (by decide +kernel) (by decide +kernel)
set_option maxRecDepth 20000 in
theorem gX11_soonest_X11_isOneOfTwo : GoodIn wsX11_soonest (va_wsS RX11 172 yX11_isOneOfTwo wsX11_isOneOfTwo) := goodIn_app (goodIn_of _ (by decide +kernel)) ggX11_soonest_X11_isOneOfTwo
set_option maxRecDepth 20000 in
theorem ggX11_soonest_X11_fewestTurnings : GoodIn wsX11_soonest wsX11_fewestTurnings := goodIn_r _ [15, 1, 16, 17, 18, 19, 20, 21, 22, 23, 24, 25, 26, 5, 27, 28, 29, 3, 4, 6, 7, 30, 10, 31, 32, 33, 34, 35, 36, 37, 38, 39, 40, 41, 42, 43, 44, 45, 46, 47, 48, 49, 50, 51, 52, 53, 54, 55, 56, 57, 58, 59, 60, 61, 62, 63, 64, 65, 66, 67, 68, 69, 70, 71, 72, 73, 74, 75, 76, 77, 78, 79, 80, 81, 82, 83, 84, 85, 86, 87, 88, 89, 90, 91, 92, 93, 94, 95, 96, 97, 98, 99, 100, 101, 102, 103, 104, 105, 106, 107, 108, 109, 110, 111, 112, 113, 114, 115, 116, 117, 118, 119, 120, 121, 122, 123, 124, 125, 126, 127, 128, 129, 130, 131, 132, 133, 134, 135, 136, 137, 138, 139, 140, 141, 142, 143, 144, 145, 146, 147, 148, 149, 150, 151, 152, 153, 154, 155, 156, 157, 158, 159, 160, 161, 162, 163, 164, 165, 166, 176, 177, 178, 179, 180, 181, 182, 183, 184, 185, 186, 187, 188, 189, 190, 191, 192, 193, 194, 195, 196, 197, 198, 199] (by decide +kernel) (by decide +kernel)
set_option maxRecDepth 20000 in
theorem gX11_soonest_X11_fewestTurnings : GoodIn wsX11_soonest (wsV RX11 181 RX11 yX11_fewestTurnings wsX11_fewestTurnings) := goodIn_app (goodIn_of _ (by decide +kernel)) ggX11_soonest_X11_fewestTurnings
set_option maxRecDepth 20000 in
theorem ggX11_soonest_X11_strongestFit : GoodIn wsX11_soonest wsX11_strongestFit := goodIn_r _ [170, 1, 16, 171, 172, 173, 174, 5, 175, 163, 164, 165, 166, 29, 3, 4, 6, 7, 158, 159, 160, 161, 162, 30, 10, 31, 81, 33, 34, 35, 36, 37, 82, 83, 84, 85, 48, 86, 87, 88, 89, 52, 90, 91, 92, 93, 94, 95, 96, 97, 98, 99, 100, 101, 102, 103, 104, 105, 66, 106, 107, 108, 109, 110, 111, 112, 72, 113, 114, 115, 116, 32, 38, 39, 40, 41, 42, 43, 44, 45, 46, 47, 49, 50, 51, 53, 54, 55, 56, 57, 58, 59, 60, 61, 62, 63, 64, 65, 67, 68, 69, 70, 71, 73, 74, 176, 177, 178, 179, 180, 181, 182, 183, 184, 185, 186, 187, 188, 189, 190, 191, 192, 193, 194, 195, 196, 197, 198, 199] (by decide +kernel) (by decide +kernel)
set_option maxRecDepth 20000 in
theorem gX11_soonest_X11_strongestFit : GoodIn wsX11_soonest (wsV RX11 184 RX11 yX11_strongestFit wsX11_strongestFit) := goodIn_app (goodIn_of _ (by decide +kernel)) ggX11_soonest_X11_strongestFit
theorem dX11_soonest_0 : decode cX11_soonest 0 = .ok (.aload_n 0, 1) := by decide +kernel
theorem dX11_soonest_1 : decode cX11_soonest 1 = .ok (.getfield 27, 3) := by decide +kernel
theorem dX11_soonest_4 : decode cX11_soonest 4 = .ok (.iload_n 1, 1) := by decide +kernel
theorem dX11_soonest_5 : decode cX11_soonest 5 = .ok (.invokevirtual 88, 3) := by decide +kernel
theorem dX11_soonest_8 : decode cX11_soonest 8 = .ok (.ifCond .eq 10, 3) := by decide +kernel
theorem dX11_soonest_11 : decode cX11_soonest 11 = .ok (.iload_n 2, 1) := by decide +kernel
theorem dX11_soonest_12 : decode cX11_soonest 12 = .ok (.invokestatic 172, 3) := by decide +kernel
theorem dX11_soonest_15 : decode cX11_soonest 15 = .ok (.ifCond .ne 5, 3) := by decide +kernel
theorem dX11_soonest_18 : decode cX11_soonest 18 = .ok (.iconst (-1), 1) := by decide +kernel
theorem dX11_soonest_19 : decode cX11_soonest 19 = .ok (.ireturn, 1) := by decide +kernel
theorem dX11_soonest_20 : decode cX11_soonest 20 = .ok (.aload_n 0, 1) := by decide +kernel
theorem dX11_soonest_21 : decode cX11_soonest 21 = .ok (.iload_n 1, 1) := by decide +kernel
theorem dX11_soonest_22 : decode cX11_soonest 22 = .ok (.invokevirtual 181, 3) := by decide +kernel
theorem dX11_soonest_25 : decode cX11_soonest 25 = .ok (.istore_n 3, 1) := by decide +kernel
theorem dX11_soonest_26 : decode cX11_soonest 26 = .ok (.iload_n 2, 1) := by decide +kernel
theorem dX11_soonest_27 : decode cX11_soonest 27 = .ok (.ifCond .ne 5, 3) := by decide +kernel
theorem dX11_soonest_30 : decode cX11_soonest 30 = .ok (.iload_n 3, 1) := by decide +kernel
theorem dX11_soonest_31 : decode cX11_soonest 31 = .ok (.ireturn, 1) := by decide +kernel
theorem dX11_soonest_32 : decode cX11_soonest 32 = .ok (.iload_n 3, 1) := by decide +kernel
theorem dX11_soonest_33 : decode cX11_soonest 33 = .ok (.ifCond .le 11, 3) := by decide +kernel
theorem dX11_soonest_36 : decode cX11_soonest 36 = .ok (.aload_n 0, 1) := by decide +kernel
theorem dX11_soonest_37 : decode cX11_soonest 37 = .ok (.iload_n 1, 1) := by decide +kernel
theorem dX11_soonest_38 : decode cX11_soonest 38 = .ok (.invokevirtual 184, 3) := by decide +kernel
theorem dX11_soonest_41 : decode cX11_soonest 41 = .ok (.goto 5, 3) := by decide +kernel
theorem dX11_soonest_44 : decode cX11_soonest 44 = .ok (.bipush (-4), 2) := by decide +kernel
theorem dX11_soonest_46 : decode cX11_soonest 46 = .ok (.ireturn, 1) := by decide +kernel
set_option maxRecDepth 20000 in
theorem ggX11_hide_X10_has : GoodIn wsX11_hide wsX10_has := goodIn_r _ [7, 8, 130, 131, 132, 133, 134, 135, 136] (by decide +kernel) (by decide +kernel)
set_option maxRecDepth 20000 in
theorem gX11_hide_X10_has : GoodIn wsX11_hide (wsV RX11 88 RX10 yX10_has wsX10_has) := goodIn_app (goodIn_of _ (by decide +kernel)) ggX11_hide_X10_has
set_option maxRecDepth 20000 in
theorem ggX11_hide_X10_turningsTillUnfit : GoodIn wsX11_hide wsX10_turningsTillUnfit := goodIn_r _ [12, 13, 14, 15, 16, 17, 18, 19, 20, 6, 21, 22, 23, 24, 25, 26, 27, 28, 29, 30, 31, 32, 33, 34, 35, 36, 37, 38, 39, 40, 41, 42, 43, 44, 45, 46, 47, 48, 49, 50, 51, 52, 53, 54, 55, 56, 57, 58, 59, 60, 61, 62, 63, 64, 65, 66, 67, 68, 69, 70, 71, 72, 73, 74, 75, 76, 77, 78, 79, 80, 81, 82, 83, 84, 85, 86, 87, 88, 89, 90, 91, 92, 93, 94, 95, 96, 97, 98, 99, 100, 101, 102, 103, 104, 105, 106, 107, 108, 109, 110, 111, 112, 113, 114, 115, 116, 117, 4, 5, 7, 8, 118, 119, 120, 130, 131, 132, 133, 134, 135, 136, 137, 138, 139, 140, 141, 142, 143, 144] (by decide +kernel) (by decide +kernel)
set_option maxRecDepth 20000 in
theorem gX11_hide_X10_turningsTillUnfit : GoodIn wsX11_hide (wsV RX11 178 RX10 yX10_turningsTillUnfit wsX10_turningsTillUnfit) := goodIn_app (goodIn_of _ (by decide +kernel)) ggX11_hide_X10_turningsTillUnfit
theorem dX11_hide_0 : decode cX11_hide 0 = .ok (.aload_n 0, 1) := by decide +kernel
theorem dX11_hide_1 : decode cX11_hide 1 = .ok (.getfield 27, 3) := by decide +kernel
theorem dX11_hide_4 : decode cX11_hide 4 = .ok (.iload_n 1, 1) := by decide +kernel
theorem dX11_hide_5 : decode cX11_hide 5 = .ok (.invokevirtual 88, 3) := by decide +kernel
theorem dX11_hide_8 : decode cX11_hide 8 = .ok (.ifCond .ne 5, 3) := by decide +kernel
theorem dX11_hide_11 : decode cX11_hide 11 = .ok (.iconst (-1), 1) := by decide +kernel
theorem dX11_hide_12 : decode cX11_hide 12 = .ok (.ireturn, 1) := by decide +kernel
theorem dX11_hide_13 : decode cX11_hide 13 = .ok (.iconst 0, 1) := by decide +kernel
theorem dX11_hide_14 : decode cX11_hide 14 = .ok (.istore_n 2, 1) := by decide +kernel
theorem dX11_hide_15 : decode cX11_hide 15 = .ok (.iconst 0, 1) := by decide +kernel
theorem dX11_hide_16 : decode cX11_hide 16 = .ok (.istore_n 3, 1) := by decide +kernel
theorem dX11_hide_17 : decode cX11_hide 17 = .ok (.iload_n 3, 1) := by decide +kernel
theorem dX11_hide_18 : decode cX11_hide 18 = .ok (.aload_n 0, 1) := by decide +kernel
theorem dX11_hide_19 : decode cX11_hide 19 = .ok (.getfield 27, 3) := by decide +kernel
theorem dX11_hide_22 : decode cX11_hide 22 = .ok (.getfield 131, 3) := by decide +kernel
theorem dX11_hide_25 : decode cX11_hide 25 = .ok (.if_icmp .ge 44, 3) := by decide +kernel
theorem dX11_hide_28 : decode cX11_hide 28 = .ok (.iload_n 3, 1) := by decide +kernel
theorem dX11_hide_29 : decode cX11_hide 29 = .ok (.iload_n 1, 1) := by decide +kernel
theorem dX11_hide_30 : decode cX11_hide 30 = .ok (.if_icmp .ne 7, 3) := by decide +kernel
theorem dX11_hide_33 : decode cX11_hide 33 = .ok (.iconst 0, 1) := by decide +kernel
theorem dX11_hide_34 : decode cX11_hide 34 = .ok (.goto 12, 3) := by decide +kernel
theorem dX11_hide_37 : decode cX11_hide 37 = .ok (.aload_n 0, 1) := by decide +kernel
theorem dX11_hide_38 : decode cX11_hide 38 = .ok (.getfield 27, 3) := by decide +kernel
theorem dX11_hide_41 : decode cX11_hide 41 = .ok (.iload_n 3, 1) := by decide +kernel
theorem dX11_hide_42 : decode cX11_hide 42 = .ok (.iload_n 1, 1) := by decide +kernel
theorem dX11_hide_43 : decode cX11_hide 43 = .ok (.invokevirtual 178, 3) := by decide +kernel
theorem dX11_hide_46 : decode cX11_hide 46 = .ok (.istore 4, 2) := by decide +kernel
theorem dX11_hide_48 : decode cX11_hide 48 = .ok (.iload 4, 2) := by decide +kernel
theorem dX11_hide_50 : decode cX11_hide 50 = .ok (.bipush 99, 2) := by decide +kernel
theorem dX11_hide_52 : decode cX11_hide 52 = .ok (.if_icmp .lt 6, 3) := by decide +kernel
theorem dX11_hide_55 : decode cX11_hide 55 = .ok (.bipush (-4), 2) := by decide +kernel
theorem dX11_hide_57 : decode cX11_hide 57 = .ok (.ireturn, 1) := by decide +kernel
theorem dX11_hide_58 : decode cX11_hide 58 = .ok (.iload_n 2, 1) := by decide +kernel
theorem dX11_hide_59 : decode cX11_hide 59 = .ok (.iload 4, 2) := by decide +kernel
theorem dX11_hide_61 : decode cX11_hide 61 = .ok (.iadd, 1) := by decide +kernel
theorem dX11_hide_62 : decode cX11_hide 62 = .ok (.istore_n 2, 1) := by decide +kernel
theorem dX11_hide_63 : decode cX11_hide 63 = .ok (.iinc 3 1, 3) := by decide +kernel
theorem dX11_hide_66 : decode cX11_hide 66 = .ok (.goto (-49), 3) := by decide +kernel
theorem dX11_hide_69 : decode cX11_hide 69 = .ok (.iload_n 2, 1) := by decide +kernel
theorem dX11_hide_70 : decode cX11_hide 70 = .ok (.ireturn, 1) := by decide +kernel
set_option maxRecDepth 20000 in
theorem ggX11_keeps_X10_areTwo : GoodIn wsX11_keeps wsX10_areTwo := goodIn_r _ [6, 7, 8, 9, 5, 10, 11, 129, 130, 131, 132, 133, 134, 135] (by decide +kernel) (by decide +kernel)
set_option maxRecDepth 20000 in
theorem gX11_keeps_X10_areTwo : GoodIn wsX11_keeps (wsV RX11 113 RX10 yX10_areTwo wsX10_areTwo) := goodIn_app (goodIn_of _ (by decide +kernel)) ggX11_keeps_X10_areTwo
set_option maxRecDepth 20000 in
theorem ggX11_keeps_X10_turningsTillUnfit : GoodIn wsX11_keeps wsX10_turningsTillUnfit := goodIn_r _ [15, 16, 17, 18, 19, 20, 21, 22, 23, 5, 24, 25, 26, 27, 28, 29, 30, 31, 32, 33, 34, 35, 36, 37, 38, 39, 40, 41, 42, 43, 44, 45, 46, 47, 48, 49, 50, 51, 52, 53, 54, 55, 56, 57, 58, 59, 60, 61, 62, 63, 64, 65, 66, 67, 68, 69, 70, 71, 72, 73, 74, 75, 76, 77, 78, 79, 80, 81, 82, 83, 84, 85, 86, 87, 88, 89, 90, 91, 92, 93, 94, 95, 96, 97, 98, 99, 100, 101, 102, 103, 104, 105, 106, 107, 108, 109, 110, 111, 112, 113, 114, 115, 116, 3, 4, 6, 7, 8, 9, 10, 11, 117, 118, 119, 129, 130, 131, 132, 133, 134, 135, 136, 137, 138, 139, 140, 141, 142, 143] (by decide +kernel) (by decide +kernel)
set_option maxRecDepth 20000 in
theorem gX11_keeps_X10_turningsTillUnfit : GoodIn wsX11_keeps (wsV RX11 178 RX10 yX10_turningsTillUnfit wsX10_turningsTillUnfit) := goodIn_app (goodIn_of _ (by decide +kernel)) ggX11_keeps_X10_turningsTillUnfit
theorem dX11_keeps_0 : decode cX11_keeps 0 = .ok (.aload_n 0, 1) := by decide +kernel
theorem dX11_keeps_1 : decode cX11_keeps 1 = .ok (.getfield 27, 3) := by decide +kernel
theorem dX11_keeps_4 : decode cX11_keeps 4 = .ok (.iload_n 1, 1) := by decide +kernel
theorem dX11_keeps_5 : decode cX11_keeps 5 = .ok (.iload_n 2, 1) := by decide +kernel
theorem dX11_keeps_6 : decode cX11_keeps 6 = .ok (.invokevirtual 113, 3) := by decide +kernel
theorem dX11_keeps_9 : decode cX11_keeps 9 = .ok (.ifCond .ne 5, 3) := by decide +kernel
theorem dX11_keeps_12 : decode cX11_keeps 12 = .ok (.iconst (-1), 1) := by decide +kernel
theorem dX11_keeps_13 : decode cX11_keeps 13 = .ok (.ireturn, 1) := by decide +kernel
theorem dX11_keeps_14 : decode cX11_keeps 14 = .ok (.aload_n 0, 1) := by decide +kernel
theorem dX11_keeps_15 : decode cX11_keeps 15 = .ok (.getfield 27, 3) := by decide +kernel
theorem dX11_keeps_18 : decode cX11_keeps 18 = .ok (.iload_n 1, 1) := by decide +kernel
theorem dX11_keeps_19 : decode cX11_keeps 19 = .ok (.iload_n 2, 1) := by decide +kernel
theorem dX11_keeps_20 : decode cX11_keeps 20 = .ok (.invokevirtual 178, 3) := by decide +kernel
theorem dX11_keeps_23 : decode cX11_keeps 23 = .ok (.istore_n 3, 1) := by decide +kernel
theorem dX11_keeps_24 : decode cX11_keeps 24 = .ok (.iload_n 3, 1) := by decide +kernel
theorem dX11_keeps_25 : decode cX11_keeps 25 = .ok (.ifCond .ne 6, 3) := by decide +kernel
theorem dX11_keeps_28 : decode cX11_keeps 28 = .ok (.bipush (-3), 2) := by decide +kernel
theorem dX11_keeps_30 : decode cX11_keeps 30 = .ok (.ireturn, 1) := by decide +kernel
theorem dX11_keeps_31 : decode cX11_keeps 31 = .ok (.iload_n 3, 1) := by decide +kernel
theorem dX11_keeps_32 : decode cX11_keeps 32 = .ok (.bipush 99, 2) := by decide +kernel
theorem dX11_keeps_34 : decode cX11_keeps 34 = .ok (.if_icmp .lt 8, 3) := by decide +kernel
theorem dX11_keeps_37 : decode cX11_keeps 37 = .ok (.bipush 99, 2) := by decide +kernel
theorem dX11_keeps_39 : decode cX11_keeps 39 = .ok (.goto 6, 3) := by decide +kernel
theorem dX11_keeps_42 : decode cX11_keeps 42 = .ok (.iload_n 3, 1) := by decide +kernel
theorem dX11_keeps_43 : decode cX11_keeps 43 = .ok (.iconst 1, 1) := by decide +kernel
theorem dX11_keeps_44 : decode cX11_keeps 44 = .ok (.isub, 1) := by decide +kernel
theorem dX11_keeps_45 : decode cX11_keeps 45 = .ok (.ireturn, 1) := by decide +kernel
set_option maxRecDepth 20000 in
theorem ggX11_enough_X11_isOneOfTwo : GoodIn wsX11_enough wsX11_isOneOfTwo := goodIn_r _ [4] (by decide +kernel) (by decide +kernel)
set_option maxRecDepth 20000 in
theorem gX11_enough_X11_isOneOfTwo : GoodIn wsX11_enough (va_wsS RX11 172 yX11_isOneOfTwo wsX11_isOneOfTwo) := goodIn_app (goodIn_of _ (by decide +kernel)) ggX11_enough_X11_isOneOfTwo
set_option maxRecDepth 20000 in
theorem ggX11_enough_X11_allAreTold : GoodIn wsX11_enough wsX11_allAreTold := goodIn_r _ [8, 9, 10, 11, 12, 13, 14, 15, 16, 17, 18, 19, 20, 21, 22, 23, 24, 25, 26, 27, 28, 29, 30, 31, 32, 33, 34, 35, 36, 37, 38, 39, 40, 41, 42, 43, 44, 45, 46, 3, 47, 48, 49, 50, 51, 52, 53, 54, 55, 56, 57, 58, 59, 60, 61, 62, 63, 64, 65, 66, 67, 68, 69, 70, 71, 72, 73, 74, 75, 76, 77, 78, 79, 80, 81, 82, 83, 84, 85, 86, 87, 88, 89, 90, 91, 92, 93, 94, 95, 96, 97, 98, 99, 100, 101, 102, 103, 104, 105, 106, 113, 114, 115, 116, 117, 118, 119, 120, 121, 122, 123, 124, 125, 126, 127, 128, 129, 130, 131, 132] (by decide +kernel) (by decide +kernel)
set_option maxRecDepth 20000 in
theorem gX11_enough_X11_allAreTold : GoodIn wsX11_enough (wsV RX11 187 RX11 yX11_allAreTold wsX11_allAreTold) := goodIn_app (goodIn_of _ (by decide +kernel)) ggX11_enough_X11_allAreTold
set_option maxRecDepth 20000 in
theorem ggX11_enough_X11_eachHasSomebody : GoodIn wsX11_enough wsX11_eachHasSomebody := goodIn_r _ [110, 10, 111, 112, 24, 25, 26, 27, 28, 29, 30, 31, 32, 33, 34, 35, 36, 37, 38, 39, 40, 41, 42, 43, 44, 45, 46, 3, 47, 48, 49, 50, 51, 52, 53, 54, 55, 56, 57, 58, 59, 60, 61, 62, 63, 64, 65, 66, 67, 68, 69, 70, 71, 72, 73, 74, 75, 76, 77, 78, 79, 80, 81, 82, 83, 84, 85, 86, 87, 88, 89, 90, 91, 92, 113, 114, 115, 116, 117, 118, 119, 120, 121, 122, 123, 124, 125, 126, 127, 128] (by decide +kernel) (by decide +kernel)
set_option maxRecDepth 20000 in
theorem gX11_enough_X11_eachHasSomebody : GoodIn wsX11_enough (wsV RX11 190 RX11 yX11_eachHasSomebody wsX11_eachHasSomebody) := goodIn_app (goodIn_of _ (by decide +kernel)) ggX11_enough_X11_eachHasSomebody
theorem dX11_enough_0 : decode cX11_enough 0 = .ok (.iload_n 1, 1) := by decide +kernel
theorem dX11_enough_1 : decode cX11_enough 1 = .ok (.invokestatic 172, 3) := by decide +kernel
theorem dX11_enough_4 : decode cX11_enough 4 = .ok (.ifCond .ne 5, 3) := by decide +kernel
theorem dX11_enough_7 : decode cX11_enough 7 = .ok (.iconst (-1), 1) := by decide +kernel
theorem dX11_enough_8 : decode cX11_enough 8 = .ok (.ireturn, 1) := by decide +kernel
theorem dX11_enough_9 : decode cX11_enough 9 = .ok (.iconst 0, 1) := by decide +kernel
theorem dX11_enough_10 : decode cX11_enough 10 = .ok (.istore_n 2, 1) := by decide +kernel
theorem dX11_enough_11 : decode cX11_enough 11 = .ok (.iload_n 2, 1) := by decide +kernel
theorem dX11_enough_12 : decode cX11_enough 12 = .ok (.bipush 9, 2) := by decide +kernel
theorem dX11_enough_14 : decode cX11_enough 14 = .ok (.if_icmp .gt 34, 3) := by decide +kernel
theorem dX11_enough_17 : decode cX11_enough 17 = .ok (.iload_n 1, 1) := by decide +kernel
theorem dX11_enough_18 : decode cX11_enough 18 = .ok (.ifCond .ne 14, 3) := by decide +kernel
theorem dX11_enough_21 : decode cX11_enough 21 = .ok (.aload_n 0, 1) := by decide +kernel
theorem dX11_enough_22 : decode cX11_enough 22 = .ok (.iload_n 2, 1) := by decide +kernel
theorem dX11_enough_23 : decode cX11_enough 23 = .ok (.invokevirtual 187, 3) := by decide +kernel
theorem dX11_enough_26 : decode cX11_enough 26 = .ok (.ifCond .eq 16, 3) := by decide +kernel
theorem dX11_enough_29 : decode cX11_enough 29 = .ok (.goto 11, 3) := by decide +kernel
theorem dX11_enough_32 : decode cX11_enough 32 = .ok (.aload_n 0, 1) := by decide +kernel
theorem dX11_enough_33 : decode cX11_enough 33 = .ok (.iload_n 2, 1) := by decide +kernel
theorem dX11_enough_34 : decode cX11_enough 34 = .ok (.invokevirtual 190, 3) := by decide +kernel
theorem dX11_enough_37 : decode cX11_enough 37 = .ok (.ifCond .eq 5, 3) := by decide +kernel
theorem dX11_enough_40 : decode cX11_enough 40 = .ok (.iload_n 2, 1) := by decide +kernel
theorem dX11_enough_41 : decode cX11_enough 41 = .ok (.ireturn, 1) := by decide +kernel
theorem dX11_enough_42 : decode cX11_enough 42 = .ok (.iinc 2 1, 3) := by decide +kernel
theorem dX11_enough_45 : decode cX11_enough 45 = .ok (.goto (-34), 3) := by decide +kernel
theorem dX11_enough_48 : decode cX11_enough 48 = .ok (.bipush (-4), 2) := by decide +kernel
theorem dX11_enough_50 : decode cX11_enough 50 = .ok (.ireturn, 1) := by decide +kernel
set_option maxRecDepth 20000 in
theorem ggX11_loved_X11_isOneOfTwo : GoodIn wsX11_loved wsX11_isOneOfTwo := goodIn_r _ [6] (by decide +kernel) (by decide +kernel)
set_option maxRecDepth 20000 in
theorem gX11_loved_X11_isOneOfTwo : GoodIn wsX11_loved (va_wsS RX11 172 yX11_isOneOfTwo wsX11_isOneOfTwo) := goodIn_app (goodIn_of _ (by decide +kernel)) ggX11_loved_X11_isOneOfTwo
set_option maxRecDepth 20000 in
theorem ggX11_loved_X10_fondOf : GoodIn wsX11_loved wsX10_fondOf := goodIn_r _ [11, 12, 13, 14, 15, 10, 16, 17, 18, 19, 20, 21, 22, 5, 23, 33, 34, 35, 36, 37, 38, 39] (by decide +kernel) (by decide +kernel)
set_option maxRecDepth 20000 in
theorem gX11_loved_X10_fondOf : GoodIn wsX11_loved (wsV RX11 117 RX10 yX10_fondOf wsX10_fondOf) := goodIn_app (goodIn_of _ (by decide +kernel)) ggX11_loved_X10_fondOf
theorem dX11_loved_0 : decode cX11_loved 0 = .ok (.iload_n 1, 1) := by decide +kernel
theorem dX11_loved_1 : decode cX11_loved 1 = .ok (.invokestatic 172, 3) := by decide +kernel
theorem dX11_loved_4 : decode cX11_loved 4 = .ok (.ifCond .ne 5, 3) := by decide +kernel
theorem dX11_loved_7 : decode cX11_loved 7 = .ok (.iconst (-1), 1) := by decide +kernel
theorem dX11_loved_8 : decode cX11_loved 8 = .ok (.ireturn, 1) := by decide +kernel
theorem dX11_loved_9 : decode cX11_loved 9 = .ok (.bipush (-4), 2) := by decide +kernel
theorem dX11_loved_11 : decode cX11_loved 11 = .ok (.istore_n 2, 1) := by decide +kernel
theorem dX11_loved_12 : decode cX11_loved 12 = .ok (.bipush (-4), 2) := by decide +kernel
theorem dX11_loved_14 : decode cX11_loved 14 = .ok (.istore_n 3, 1) := by decide +kernel
theorem dX11_loved_15 : decode cX11_loved 15 = .ok (.iconst 0, 1) := by decide +kernel
theorem dX11_loved_16 : decode cX11_loved 16 = .ok (.istore 4, 2) := by decide +kernel
theorem dX11_loved_18 : decode cX11_loved 18 = .ok (.iload 4, 2) := by decide +kernel
theorem dX11_loved_20 : decode cX11_loved 20 = .ok (.aload_n 0, 1) := by decide +kernel
theorem dX11_loved_21 : decode cX11_loved 21 = .ok (.getfield 27, 3) := by decide +kernel
theorem dX11_loved_24 : decode cX11_loved 24 = .ok (.getfield 131, 3) := by decide +kernel
theorem dX11_loved_27 : decode cX11_loved 27 = .ok (.if_icmp .ge 61, 3) := by decide +kernel
theorem dX11_loved_30 : decode cX11_loved 30 = .ok (.iconst 0, 1) := by decide +kernel
theorem dX11_loved_31 : decode cX11_loved 31 = .ok (.istore 5, 2) := by decide +kernel
theorem dX11_loved_33 : decode cX11_loved 33 = .ok (.iconst 0, 1) := by decide +kernel
theorem dX11_loved_34 : decode cX11_loved 34 = .ok (.istore 6, 2) := by decide +kernel
theorem dX11_loved_36 : decode cX11_loved 36 = .ok (.iload 6, 2) := by decide +kernel
theorem dX11_loved_38 : decode cX11_loved 38 = .ok (.aload_n 0, 1) := by decide +kernel
theorem dX11_loved_39 : decode cX11_loved 39 = .ok (.getfield 27, 3) := by decide +kernel
theorem dX11_loved_42 : decode cX11_loved 42 = .ok (.getfield 131, 3) := by decide +kernel
theorem dX11_loved_45 : decode cX11_loved 45 = .ok (.if_icmp .ge 25, 3) := by decide +kernel
theorem dX11_loved_48 : decode cX11_loved 48 = .ok (.iload 5, 2) := by decide +kernel
theorem dX11_loved_50 : decode cX11_loved 50 = .ok (.aload_n 0, 1) := by decide +kernel
theorem dX11_loved_51 : decode cX11_loved 51 = .ok (.getfield 27, 3) := by decide +kernel
theorem dX11_loved_54 : decode cX11_loved 54 = .ok (.iload 6, 2) := by decide +kernel
theorem dX11_loved_56 : decode cX11_loved 56 = .ok (.iload 4, 2) := by decide +kernel
theorem dX11_loved_58 : decode cX11_loved 58 = .ok (.invokevirtual 117, 3) := by decide +kernel
theorem dX11_loved_61 : decode cX11_loved 61 = .ok (.iadd, 1) := by decide +kernel
theorem dX11_loved_62 : decode cX11_loved 62 = .ok (.istore 5, 2) := by decide +kernel
theorem dX11_loved_64 : decode cX11_loved 64 = .ok (.iinc 6 1, 3) := by decide +kernel
theorem dX11_loved_67 : decode cX11_loved 67 = .ok (.goto (-31), 3) := by decide +kernel
theorem dX11_loved_70 : decode cX11_loved 70 = .ok (.iload 5, 2) := by decide +kernel
theorem dX11_loved_72 : decode cX11_loved 72 = .ok (.iload_n 3, 1) := by decide +kernel
theorem dX11_loved_73 : decode cX11_loved 73 = .ok (.if_icmp .le 9, 3) := by decide +kernel
theorem dX11_loved_76 : decode cX11_loved 76 = .ok (.iload 4, 2) := by decide +kernel
theorem dX11_loved_78 : decode cX11_loved 78 = .ok (.istore_n 2, 1) := by decide +kernel
theorem dX11_loved_79 : decode cX11_loved 79 = .ok (.iload 5, 2) := by decide +kernel
theorem dX11_loved_81 : decode cX11_loved 81 = .ok (.istore_n 3, 1) := by decide +kernel
theorem dX11_loved_82 : decode cX11_loved 82 = .ok (.iinc 4 1, 3) := by decide +kernel
theorem dX11_loved_85 : decode cX11_loved 85 = .ok (.goto (-67), 3) := by decide +kernel
theorem dX11_loved_88 : decode cX11_loved 88 = .ok (.iload_n 1, 1) := by decide +kernel
theorem dX11_loved_89 : decode cX11_loved 89 = .ok (.ifCond .ne 7, 3) := by decide +kernel
theorem dX11_loved_92 : decode cX11_loved 92 = .ok (.iload_n 2, 1) := by decide +kernel
theorem dX11_loved_93 : decode cX11_loved 93 = .ok (.goto 4, 3) := by decide +kernel
theorem dX11_loved_96 : decode cX11_loved 96 = .ok (.iload_n 3, 1) := by decide +kernel
theorem dX11_loved_97 : decode cX11_loved 97 = .ok (.ireturn, 1) := by decide +kernel
set_option maxRecDepth 20000 in
theorem ggX11_warmest_X10_fondOf : GoodIn wsX11_warmest wsX10_fondOf := goodIn_r _ [7, 8, 9, 10, 11, 6, 12, 13, 14, 15, 16, 17, 18, 19, 20, 30, 31, 32, 33, 34, 35, 36] (by decide +kernel) (by decide +kernel)
set_option maxRecDepth 20000 in
theorem gX11_warmest_X10_fondOf : GoodIn wsX11_warmest (wsV RX11 117 RX10 yX10_fondOf wsX10_fondOf) := goodIn_app (goodIn_of _ (by decide +kernel)) ggX11_warmest_X10_fondOf
theorem dX11_warmest_0 : decode cX11_warmest 0 = .ok (.bipush (-4), 2) := by decide +kernel
theorem dX11_warmest_2 : decode cX11_warmest 2 = .ok (.istore_n 1, 1) := by decide +kernel
theorem dX11_warmest_3 : decode cX11_warmest 3 = .ok (.iconst (-1), 1) := by decide +kernel
theorem dX11_warmest_4 : decode cX11_warmest 4 = .ok (.istore_n 2, 1) := by decide +kernel
theorem dX11_warmest_5 : decode cX11_warmest 5 = .ok (.iconst 0, 1) := by decide +kernel
theorem dX11_warmest_6 : decode cX11_warmest 6 = .ok (.istore_n 3, 1) := by decide +kernel
theorem dX11_warmest_7 : decode cX11_warmest 7 = .ok (.iload_n 3, 1) := by decide +kernel
theorem dX11_warmest_8 : decode cX11_warmest 8 = .ok (.aload_n 0, 1) := by decide +kernel
theorem dX11_warmest_9 : decode cX11_warmest 9 = .ok (.getfield 27, 3) := by decide +kernel
theorem dX11_warmest_12 : decode cX11_warmest 12 = .ok (.getfield 131, 3) := by decide +kernel
theorem dX11_warmest_15 : decode cX11_warmest 15 = .ok (.if_icmp .ge 69, 3) := by decide +kernel
theorem dX11_warmest_18 : decode cX11_warmest 18 = .ok (.iconst 0, 1) := by decide +kernel
theorem dX11_warmest_19 : decode cX11_warmest 19 = .ok (.istore 4, 2) := by decide +kernel
theorem dX11_warmest_21 : decode cX11_warmest 21 = .ok (.iload 4, 2) := by decide +kernel
theorem dX11_warmest_23 : decode cX11_warmest 23 = .ok (.aload_n 0, 1) := by decide +kernel
theorem dX11_warmest_24 : decode cX11_warmest 24 = .ok (.getfield 27, 3) := by decide +kernel
theorem dX11_warmest_27 : decode cX11_warmest 27 = .ok (.getfield 131, 3) := by decide +kernel
theorem dX11_warmest_30 : decode cX11_warmest 30 = .ok (.if_icmp .ge 48, 3) := by decide +kernel
theorem dX11_warmest_33 : decode cX11_warmest 33 = .ok (.iload_n 3, 1) := by decide +kernel
theorem dX11_warmest_34 : decode cX11_warmest 34 = .ok (.iload 4, 2) := by decide +kernel
theorem dX11_warmest_36 : decode cX11_warmest 36 = .ok (.if_icmp .eq 36, 3) := by decide +kernel
theorem dX11_warmest_39 : decode cX11_warmest 39 = .ok (.aload_n 0, 1) := by decide +kernel
theorem dX11_warmest_40 : decode cX11_warmest 40 = .ok (.getfield 27, 3) := by decide +kernel
theorem dX11_warmest_43 : decode cX11_warmest 43 = .ok (.iload_n 3, 1) := by decide +kernel
theorem dX11_warmest_44 : decode cX11_warmest 44 = .ok (.iload 4, 2) := by decide +kernel
theorem dX11_warmest_46 : decode cX11_warmest 46 = .ok (.invokevirtual 117, 3) := by decide +kernel
theorem dX11_warmest_49 : decode cX11_warmest 49 = .ok (.iload_n 2, 1) := by decide +kernel
theorem dX11_warmest_50 : decode cX11_warmest 50 = .ok (.if_icmp .le 22, 3) := by decide +kernel
theorem dX11_warmest_53 : decode cX11_warmest 53 = .ok (.bipush 10, 2) := by decide +kernel
theorem dX11_warmest_55 : decode cX11_warmest 55 = .ok (.iload_n 3, 1) := by decide +kernel
theorem dX11_warmest_56 : decode cX11_warmest 56 = .ok (.imul, 1) := by decide +kernel
theorem dX11_warmest_57 : decode cX11_warmest 57 = .ok (.iload 4, 2) := by decide +kernel
theorem dX11_warmest_59 : decode cX11_warmest 59 = .ok (.iadd, 1) := by decide +kernel
theorem dX11_warmest_60 : decode cX11_warmest 60 = .ok (.istore_n 1, 1) := by decide +kernel
theorem dX11_warmest_61 : decode cX11_warmest 61 = .ok (.aload_n 0, 1) := by decide +kernel
theorem dX11_warmest_62 : decode cX11_warmest 62 = .ok (.getfield 27, 3) := by decide +kernel
theorem dX11_warmest_65 : decode cX11_warmest 65 = .ok (.iload_n 3, 1) := by decide +kernel
theorem dX11_warmest_66 : decode cX11_warmest 66 = .ok (.iload 4, 2) := by decide +kernel
theorem dX11_warmest_68 : decode cX11_warmest 68 = .ok (.invokevirtual 117, 3) := by decide +kernel
theorem dX11_warmest_71 : decode cX11_warmest 71 = .ok (.istore_n 2, 1) := by decide +kernel
theorem dX11_warmest_72 : decode cX11_warmest 72 = .ok (.iinc 4 1, 3) := by decide +kernel
theorem dX11_warmest_75 : decode cX11_warmest 75 = .ok (.goto (-54), 3) := by decide +kernel
theorem dX11_warmest_78 : decode cX11_warmest 78 = .ok (.iinc 3 1, 3) := by decide +kernel
theorem dX11_warmest_81 : decode cX11_warmest 81 = .ok (.goto (-74), 3) := by decide +kernel
theorem dX11_warmest_84 : decode cX11_warmest 84 = .ok (.iload_n 1, 1) := by decide +kernel
theorem dX11_warmest_85 : decode cX11_warmest 85 = .ok (.ireturn, 1) := by decide +kernel
set_option maxRecDepth 20000 in
theorem ggX11_orders_X10_has : GoodIn wsX11_orders wsX10_has := goodIn_r _ [7, 8, 27, 28, 29, 30, 31, 32, 33] (by decide +kernel) (by decide +kernel)
set_option maxRecDepth 20000 in
theorem gX11_orders_X10_has : GoodIn wsX11_orders (wsV RX11 88 RX10 yX10_has wsX10_has) := goodIn_app (goodIn_of _ (by decide +kernel)) ggX11_orders_X10_has
set_option maxRecDepth 20000 in
theorem ggX11_orders_X10_turnedOf : GoodIn wsX11_orders wsX10_turnedOf := goodIn_r _ [12, 13, 14, 4, 5, 6, 7, 8, 15, 16, 17, 27, 28, 29, 30, 31, 32, 33] (by decide +kernel) (by decide +kernel)
set_option maxRecDepth 20000 in
theorem gX11_orders_X10_turnedOf : GoodIn wsX11_orders (wsV RX11 101 RX10 yX10_turnedOf wsX10_turnedOf) := goodIn_app (goodIn_of _ (by decide +kernel)) ggX11_orders_X10_turnedOf
theorem dX11_orders_0 : decode cX11_orders 0 = .ok (.aload_n 0, 1) := by decide +kernel
theorem dX11_orders_1 : decode cX11_orders 1 = .ok (.getfield 27, 3) := by decide +kernel
theorem dX11_orders_4 : decode cX11_orders 4 = .ok (.iload_n 1, 1) := by decide +kernel
theorem dX11_orders_5 : decode cX11_orders 5 = .ok (.invokevirtual 88, 3) := by decide +kernel
theorem dX11_orders_8 : decode cX11_orders 8 = .ok (.ifCond .ne 7, 3) := by decide +kernel
theorem dX11_orders_11 : decode cX11_orders 11 = .ok (.ldc2_w 193, 3) := by decide +kernel
theorem dX11_orders_14 : decode cX11_orders 14 = .ok (.lreturn, 1) := by decide +kernel
theorem dX11_orders_15 : decode cX11_orders 15 = .ok (.bipush 9, 2) := by decide +kernel
theorem dX11_orders_17 : decode cX11_orders 17 = .ok (.aload_n 0, 1) := by decide +kernel
theorem dX11_orders_18 : decode cX11_orders 18 = .ok (.getfield 27, 3) := by decide +kernel
theorem dX11_orders_21 : decode cX11_orders 21 = .ok (.iload_n 1, 1) := by decide +kernel
theorem dX11_orders_22 : decode cX11_orders 22 = .ok (.invokevirtual 101, 3) := by decide +kernel
theorem dX11_orders_25 : decode cX11_orders 25 = .ok (.isub, 1) := by decide +kernel
theorem dX11_orders_26 : decode cX11_orders 26 = .ok (.istore_n 2, 1) := by decide +kernel
theorem dX11_orders_27 : decode cX11_orders 27 = .ok (.lconst 1, 1) := by decide +kernel
theorem dX11_orders_28 : decode cX11_orders 28 = .ok (.lstore_n 3, 1) := by decide +kernel
theorem dX11_orders_29 : decode cX11_orders 29 = .ok (.iconst 2, 1) := by decide +kernel
theorem dX11_orders_30 : decode cX11_orders 30 = .ok (.istore 5, 2) := by decide +kernel
theorem dX11_orders_32 : decode cX11_orders 32 = .ok (.iload 5, 2) := by decide +kernel
theorem dX11_orders_34 : decode cX11_orders 34 = .ok (.iload_n 2, 1) := by decide +kernel
theorem dX11_orders_35 : decode cX11_orders 35 = .ok (.if_icmp .gt 15, 3) := by decide +kernel
theorem dX11_orders_38 : decode cX11_orders 38 = .ok (.lload_n 3, 1) := by decide +kernel
theorem dX11_orders_39 : decode cX11_orders 39 = .ok (.iload 5, 2) := by decide +kernel
theorem dX11_orders_41 : decode cX11_orders 41 = .ok (.i2l, 1) := by decide +kernel
theorem dX11_orders_42 : decode cX11_orders 42 = .ok (.lmul, 1) := by decide +kernel
theorem dX11_orders_43 : decode cX11_orders 43 = .ok (.lstore_n 3, 1) := by decide +kernel
theorem dX11_orders_44 : decode cX11_orders 44 = .ok (.iinc 5 1, 3) := by decide +kernel
theorem dX11_orders_47 : decode cX11_orders 47 = .ok (.goto (-15), 3) := by decide +kernel
theorem dX11_orders_50 : decode cX11_orders 50 = .ok (.lload_n 3, 1) := by decide +kernel
theorem dX11_orders_51 : decode cX11_orders 51 = .ok (.lreturn, 1) := by decide +kernel
set_option maxRecDepth 20000 in
theorem ggX11_drawn_X10_areTwo : GoodIn wsX11_drawn wsX10_areTwo := goodIn_r _ [11, 12, 13, 14, 10, 15, 16, 86, 87, 88, 89, 90, 91, 92] (by decide +kernel) (by decide +kernel)
set_option maxRecDepth 20000 in
theorem gX11_drawn_X10_areTwo : GoodIn wsX11_drawn (wsV RX11 113 RX10 yX10_areTwo wsX10_areTwo) := goodIn_app (goodIn_of _ (by decide +kernel)) ggX11_drawn_X10_areTwo
set_option maxRecDepth 20000 in
theorem ggX11_drawn_X11_isOneOfTwo : GoodIn wsX11_drawn wsX11_isOneOfTwo := goodIn_r _ [20] (by decide +kernel) (by decide +kernel)
set_option maxRecDepth 20000 in
theorem gX11_drawn_X11_isOneOfTwo : GoodIn wsX11_drawn (va_wsS RX11 172 yX11_isOneOfTwo wsX11_isOneOfTwo) := goodIn_app (goodIn_of _ (by decide +kernel)) ggX11_drawn_X11_isOneOfTwo
set_option maxRecDepth 20000 in
theorem ggX11_drawn_X10_turnedOf : GoodIn wsX11_drawn wsX10_turnedOf := goodIn_r _ [24, 25, 12, 13, 14, 10, 15, 16, 26, 19, 27, 86, 87, 88, 89, 90, 91, 92] (by decide +kernel) (by decide +kernel)
set_option maxRecDepth 20000 in
theorem gX11_drawn_X10_turnedOf : GoodIn wsX11_drawn (wsV RX11 101 RX10 yX10_turnedOf wsX10_turnedOf) := goodIn_app (goodIn_of _ (by decide +kernel)) ggX11_drawn_X10_turnedOf
set_option maxRecDepth 20000 in
theorem ggX11_drawn_X10_at : GoodIn wsX11_drawn wsX10_at := goodIn_r _ [31, 32, 33, 86, 87, 88, 89, 90, 91, 92] (by decide +kernel) (by decide +kernel)
set_option maxRecDepth 20000 in
theorem gX11_drawn_X10_at : GoodIn wsX11_drawn (wsV RX11 92 RX10 yX10_at wsX10_at) := goodIn_app (goodIn_of _ (by decide +kernel)) ggX11_drawn_X10_at
set_option maxRecDepth 20000 in
theorem ggX11_drawn_X0_turns : GoodIn wsX11_drawn wsX0_turns := goodIn_r _ [40, 41, 35, 42, 43, 44, 45] (by decide +kernel) (by decide +kernel)
set_option maxRecDepth 20000 in
theorem gX11_drawn_X0_turns_u110X0 : GoodIn wsX11_drawn (va_wsO RX11 110 RX0 "DealtByOpposite$Person" ⟨"DealtByOpposite$Person", "turns", "()I"⟩ yX0_turns wsX0_turns) := goodIn_app (goodIn_of _ (by decide +kernel)) ggX11_drawn_X0_turns
set_option maxRecDepth 20000 in
theorem ggX11_drawn_X1_turns : GoodIn wsX11_drawn wsX1_turns := goodIn_r _ [49] (by decide +kernel) (by decide +kernel)
set_option maxRecDepth 20000 in
theorem gX11_drawn_X1_turns_u110X1 : GoodIn wsX11_drawn (va_wsO RX11 110 RX1 "DealtByOpposite$Person" ⟨"DealtByOpposite$Person", "turns", "()I"⟩ yX1_turns wsX1_turns) := goodIn_app (goodIn_of _ (by decide +kernel)) ggX11_drawn_X1_turns
set_option maxRecDepth 20000 in
theorem ggX11_drawn_X3_turns : GoodIn wsX11_drawn wsX3_turns := goodIn_r _ [53, 54, 55, 56, 57, 58, 38, 39, 40, 41, 35, 42, 43, 44, 45, 93, 94, 95, 96, 97, 98, 99, 100] (by decide +kernel) (by decide +kernel)
set_option maxRecDepth 20000 in
theorem gX11_drawn_X3_turns_u110X3 : GoodIn wsX11_drawn (va_wsO RX11 110 RX3 "DealtByOpposite$Person" ⟨"DealtByOpposite$Person", "turns", "()I"⟩ yX3_turns wsX3_turns) := goodIn_app (goodIn_of _ (by decide +kernel)) ggX11_drawn_X3_turns
set_option maxRecDepth 20000 in
theorem ggX11_drawn_X6_turns : GoodIn wsX11_drawn wsX6_turns := goodIn_r _ [45] (by decide +kernel) (by decide +kernel)
set_option maxRecDepth 20000 in
theorem gX11_drawn_X6_turns_u110X4 : GoodIn wsX11_drawn (va_wsU RX11 110 RX4 "DealtByOpposite$Person" ⟨"DealtByOpposite$Person", "turns", "()I"⟩ yX6_turns wsX6_turns) := goodIn_app (goodIn_of _ (by decide +kernel)) ggX11_drawn_X6_turns
set_option maxRecDepth 20000 in
theorem ggX11_drawn_X5_turns : GoodIn wsX11_drawn wsX5_turns := goodIn_r _ [63] (by decide +kernel) (by decide +kernel)
set_option maxRecDepth 20000 in
theorem gX11_drawn_X5_turns_u110X5 : GoodIn wsX11_drawn (va_wsO RX11 110 RX5 "DealtByOpposite$Person" ⟨"DealtByOpposite$Person", "turns", "()I"⟩ yX5_turns wsX5_turns) := goodIn_app (goodIn_of _ (by decide +kernel)) ggX11_drawn_X5_turns
set_option maxRecDepth 20000 in
theorem gX11_drawn_X6_turns : GoodIn wsX11_drawn (wsV RX11 110 RX6 yX6_turns wsX6_turns) := goodIn_app (goodIn_of _ (by decide +kernel)) ggX11_drawn_X6_turns
set_option maxRecDepth 20000 in
theorem ggX11_drawn_X8_turns : GoodIn wsX11_drawn wsX8_turns := goodIn_r _ [69] (by decide +kernel) (by decide +kernel)
set_option maxRecDepth 20000 in
theorem gX11_drawn_X8_turns_u110X8 : GoodIn wsX11_drawn (va_wsO RX11 110 RX8 "DealtByOpposite$Person" ⟨"DealtByOpposite$Person", "turns", "()I"⟩ yX8_turns wsX8_turns) := goodIn_app (goodIn_of _ (by decide +kernel)) ggX11_drawn_X8_turns
set_option maxRecDepth 20000 in
theorem gX11_drawn_X6_turns_u110X9 : GoodIn wsX11_drawn (va_wsU RX11 110 RX9 "DealtByOpposite$Person" ⟨"DealtByOpposite$Person", "turns", "()I"⟩ yX6_turns wsX6_turns) := goodIn_app (goodIn_of _ (by decide +kernel)) ggX11_drawn_X6_turns
set_option maxRecDepth 20000 in
theorem ggX11_drawn_X11_partInLeastTerms : GoodIn wsX11_drawn wsX11_partInLeastTerms := goodIn_r _ [73, 74, 75, 19, 76] (by decide +kernel) (by decide +kernel)
set_option maxRecDepth 20000 in
theorem gX11_drawn_X11_partInLeastTerms : GoodIn wsX11_drawn (va_wsS RX11 200 yX11_partInLeastTerms wsX11_partInLeastTerms) := goodIn_app (goodIn_of _ (by decide +kernel)) ggX11_drawn_X11_partInLeastTerms
theorem dX11_drawn_0 : decode cX11_drawn 0 = .ok (.aload_n 0, 1) := by decide +kernel
theorem dX11_drawn_1 : decode cX11_drawn 1 = .ok (.getfield 27, 3) := by decide +kernel
theorem dX11_drawn_4 : decode cX11_drawn 4 = .ok (.iload_n 1, 1) := by decide +kernel
theorem dX11_drawn_5 : decode cX11_drawn 5 = .ok (.iload_n 2, 1) := by decide +kernel
theorem dX11_drawn_6 : decode cX11_drawn 6 = .ok (.invokevirtual 113, 3) := by decide +kernel
theorem dX11_drawn_9 : decode cX11_drawn 9 = .ok (.ifCond .eq 10, 3) := by decide +kernel
theorem dX11_drawn_12 : decode cX11_drawn 12 = .ok (.iload_n 3, 1) := by decide +kernel
theorem dX11_drawn_13 : decode cX11_drawn 13 = .ok (.invokestatic 172, 3) := by decide +kernel
theorem dX11_drawn_16 : decode cX11_drawn 16 = .ok (.ifCond .ne 7, 3) := by decide +kernel
theorem dX11_drawn_19 : decode cX11_drawn 19 = .ok (.ldc2_w 193, 3) := by decide +kernel
theorem dX11_drawn_22 : decode cX11_drawn 22 = .ok (.lreturn, 1) := by decide +kernel
theorem dX11_drawn_23 : decode cX11_drawn 23 = .ok (.bipush 9, 2) := by decide +kernel
theorem dX11_drawn_25 : decode cX11_drawn 25 = .ok (.aload_n 0, 1) := by decide +kernel
theorem dX11_drawn_26 : decode cX11_drawn 26 = .ok (.getfield 27, 3) := by decide +kernel
theorem dX11_drawn_29 : decode cX11_drawn 29 = .ok (.iload_n 2, 1) := by decide +kernel
theorem dX11_drawn_30 : decode cX11_drawn 30 = .ok (.invokevirtual 101, 3) := by decide +kernel
theorem dX11_drawn_33 : decode cX11_drawn 33 = .ok (.isub, 1) := by decide +kernel
theorem dX11_drawn_34 : decode cX11_drawn 34 = .ok (.istore 4, 2) := by decide +kernel
theorem dX11_drawn_36 : decode cX11_drawn 36 = .ok (.iload 4, 2) := by decide +kernel
theorem dX11_drawn_38 : decode cX11_drawn 38 = .ok (.ifCond .ne 6, 3) := by decide +kernel
theorem dX11_drawn_41 : decode cX11_drawn 41 = .ok (.iload_n 3, 1) := by decide +kernel
theorem dX11_drawn_42 : decode cX11_drawn 42 = .ok (.i2l, 1) := by decide +kernel
theorem dX11_drawn_43 : decode cX11_drawn 43 = .ok (.lreturn, 1) := by decide +kernel
theorem dX11_drawn_44 : decode cX11_drawn 44 = .ok (.aload_n 0, 1) := by decide +kernel
theorem dX11_drawn_45 : decode cX11_drawn 45 = .ok (.getfield 27, 3) := by decide +kernel
theorem dX11_drawn_48 : decode cX11_drawn 48 = .ok (.iload_n 1, 1) := by decide +kernel
theorem dX11_drawn_49 : decode cX11_drawn 49 = .ok (.invokevirtual 92, 3) := by decide +kernel
theorem dX11_drawn_52 : decode cX11_drawn 52 = .ok (.invokevirtual 110, 3) := by decide +kernel
theorem dX11_drawn_55 : decode cX11_drawn 55 = .ok (.iload 4, 2) := by decide +kernel
theorem dX11_drawn_57 : decode cX11_drawn 57 = .ok (.invokestatic 195, 3) := by decide +kernel
theorem dX11_drawn_60 : decode cX11_drawn 60 = .ok (.i2l, 1) := by decide +kernel
theorem dX11_drawn_61 : decode cX11_drawn 61 = .ok (.iload 4, 2) := by decide +kernel
theorem dX11_drawn_63 : decode cX11_drawn 63 = .ok (.i2l, 1) := by decide +kernel
theorem dX11_drawn_64 : decode cX11_drawn 64 = .ok (.iload_n 3, 1) := by decide +kernel
theorem dX11_drawn_65 : decode cX11_drawn 65 = .ok (.invokestatic 200, 3) := by decide +kernel
theorem dX11_drawn_68 : decode cX11_drawn 68 = .ok (.lreturn, 1) := by decide +kernel
set_option maxRecDepth 20000 in
theorem ggX11_await_X11_isOneOfTwo : GoodIn wsX11_await wsX11_isOneOfTwo := goodIn_r _ [5] (by decide +kernel) (by decide +kernel)
set_option maxRecDepth 20000 in
theorem gX11_await_X11_isOneOfTwo : GoodIn wsX11_await (va_wsS RX11 172 yX11_isOneOfTwo wsX11_isOneOfTwo) := goodIn_app (goodIn_of _ (by decide +kernel)) ggX11_await_X11_isOneOfTwo
set_option maxRecDepth 20000 in
theorem ggX11_await_X11_power : GoodIn wsX11_await wsX11_power := goodIn_r _ [8] (by decide +kernel) (by decide +kernel)
set_option maxRecDepth 20000 in
theorem gX11_await_X11_power : GoodIn wsX11_await (va_wsS RX11 204 yX11_power wsX11_power) := goodIn_app (goodIn_of _ (by decide +kernel)) ggX11_await_X11_power
set_option maxRecDepth 20000 in
theorem ggX11_await_X11_partInLeastTerms : GoodIn wsX11_await wsX11_partInLeastTerms := goodIn_r _ [11, 12, 13, 4, 14] (by decide +kernel) (by decide +kernel)
set_option maxRecDepth 20000 in
theorem gX11_await_X11_partInLeastTerms : GoodIn wsX11_await (va_wsS RX11 200 yX11_partInLeastTerms wsX11_partInLeastTerms) := goodIn_app (goodIn_of _ (by decide +kernel)) ggX11_await_X11_partInLeastTerms
theorem dX11_await_0 : decode cX11_await 0 = .ok (.iload_n 1, 1) := by decide +kernel
theorem dX11_await_1 : decode cX11_await 1 = .ok (.ifCond .lt 26, 3) := by decide +kernel
theorem dX11_await_4 : decode cX11_await 4 = .ok (.iload_n 1, 1) := by decide +kernel
theorem dX11_await_5 : decode cX11_await 5 = .ok (.bipush 10, 2) := by decide +kernel
theorem dX11_await_7 : decode cX11_await 7 = .ok (.if_icmp .gt 20, 3) := by decide +kernel
theorem dX11_await_10 : decode cX11_await 10 = .ok (.iload_n 2, 1) := by decide +kernel
theorem dX11_await_11 : decode cX11_await 11 = .ok (.ifCond .lt 16, 3) := by decide +kernel
theorem dX11_await_14 : decode cX11_await 14 = .ok (.iload_n 2, 1) := by decide +kernel
theorem dX11_await_15 : decode cX11_await 15 = .ok (.bipush 12, 2) := by decide +kernel
theorem dX11_await_17 : decode cX11_await 17 = .ok (.if_icmp .gt 10, 3) := by decide +kernel
theorem dX11_await_20 : decode cX11_await 20 = .ok (.iload_n 3, 1) := by decide +kernel
theorem dX11_await_21 : decode cX11_await 21 = .ok (.invokestatic 172, 3) := by decide +kernel
theorem dX11_await_24 : decode cX11_await 24 = .ok (.ifCond .ne 7, 3) := by decide +kernel
theorem dX11_await_27 : decode cX11_await 27 = .ok (.ldc2_w 193, 3) := by decide +kernel
theorem dX11_await_30 : decode cX11_await 30 = .ok (.lreturn, 1) := by decide +kernel
theorem dX11_await_31 : decode cX11_await 31 = .ok (.bipush 10, 2) := by decide +kernel
theorem dX11_await_33 : decode cX11_await 33 = .ok (.iload_n 2, 1) := by decide +kernel
theorem dX11_await_34 : decode cX11_await 34 = .ok (.invokestatic 204, 3) := by decide +kernel
theorem dX11_await_37 : decode cX11_await 37 = .ok (.lstore 4, 2) := by decide +kernel
theorem dX11_await_39 : decode cX11_await 39 = .ok (.lload 4, 2) := by decide +kernel
theorem dX11_await_41 : decode cX11_await 41 = .ok (.bipush 10, 2) := by decide +kernel
theorem dX11_await_43 : decode cX11_await 43 = .ok (.iload_n 1, 1) := by decide +kernel
theorem dX11_await_44 : decode cX11_await 44 = .ok (.isub, 1) := by decide +kernel
theorem dX11_await_45 : decode cX11_await 45 = .ok (.iload_n 2, 1) := by decide +kernel
theorem dX11_await_46 : decode cX11_await 46 = .ok (.invokestatic 204, 3) := by decide +kernel
theorem dX11_await_49 : decode cX11_await 49 = .ok (.lsub, 1) := by decide +kernel
theorem dX11_await_50 : decode cX11_await 50 = .ok (.lload 4, 2) := by decide +kernel
theorem dX11_await_52 : decode cX11_await 52 = .ok (.iload_n 3, 1) := by decide +kernel
theorem dX11_await_53 : decode cX11_await 53 = .ok (.invokestatic 200, 3) := by decide +kernel
theorem dX11_await_56 : decode cX11_await 56 = .ok (.lreturn, 1) := by decide +kernel
set_option maxRecDepth 20000 in
theorem ggX11_daysFor_X11_power : GoodIn wsX11_daysFor wsX11_power := goodIn_r _ [5] (by decide +kernel) (by decide +kernel)
set_option maxRecDepth 20000 in
theorem gX11_daysFor_X11_power : GoodIn wsX11_daysFor (va_wsS RX11 204 yX11_power wsX11_power) := goodIn_app (goodIn_of _ (by decide +kernel)) ggX11_daysFor_X11_power
theorem dX11_daysFor_0 : decode cX11_daysFor 0 = .ok (.iload_n 1, 1) := by decide +kernel
theorem dX11_daysFor_1 : decode cX11_daysFor 1 = .ok (.ifCond .lt 9, 3) := by decide +kernel
theorem dX11_daysFor_4 : decode cX11_daysFor 4 = .ok (.iload_n 1, 1) := by decide +kernel
theorem dX11_daysFor_5 : decode cX11_daysFor 5 = .ok (.bipush 10, 2) := by decide +kernel
theorem dX11_daysFor_7 : decode cX11_daysFor 7 = .ok (.if_icmp .le 5, 3) := by decide +kernel
theorem dX11_daysFor_10 : decode cX11_daysFor 10 = .ok (.iconst (-1), 1) := by decide +kernel
theorem dX11_daysFor_11 : decode cX11_daysFor 11 = .ok (.ireturn, 1) := by decide +kernel
theorem dX11_daysFor_12 : decode cX11_daysFor 12 = .ok (.iconst 0, 1) := by decide +kernel
theorem dX11_daysFor_13 : decode cX11_daysFor 13 = .ok (.istore_n 2, 1) := by decide +kernel
theorem dX11_daysFor_14 : decode cX11_daysFor 14 = .ok (.iload_n 2, 1) := by decide +kernel
theorem dX11_daysFor_15 : decode cX11_daysFor 15 = .ok (.bipush 12, 2) := by decide +kernel
theorem dX11_daysFor_17 : decode cX11_daysFor 17 = .ok (.if_icmp .gt 33, 3) := by decide +kernel
theorem dX11_daysFor_20 : decode cX11_daysFor 20 = .ok (.ldc2_w 208, 3) := by decide +kernel
theorem dX11_daysFor_23 : decode cX11_daysFor 23 = .ok (.bipush 10, 2) := by decide +kernel
theorem dX11_daysFor_25 : decode cX11_daysFor 25 = .ok (.iload_n 1, 1) := by decide +kernel
theorem dX11_daysFor_26 : decode cX11_daysFor 26 = .ok (.isub, 1) := by decide +kernel
theorem dX11_daysFor_27 : decode cX11_daysFor 27 = .ok (.iload_n 2, 1) := by decide +kernel
theorem dX11_daysFor_28 : decode cX11_daysFor 28 = .ok (.invokestatic 204, 3) := by decide +kernel
theorem dX11_daysFor_31 : decode cX11_daysFor 31 = .ok (.lmul, 1) := by decide +kernel
theorem dX11_daysFor_32 : decode cX11_daysFor 32 = .ok (.bipush 10, 2) := by decide +kernel
theorem dX11_daysFor_34 : decode cX11_daysFor 34 = .ok (.iload_n 2, 1) := by decide +kernel
theorem dX11_daysFor_35 : decode cX11_daysFor 35 = .ok (.invokestatic 204, 3) := by decide +kernel
theorem dX11_daysFor_38 : decode cX11_daysFor 38 = .ok (.lcmp, 1) := by decide +kernel
theorem dX11_daysFor_39 : decode cX11_daysFor 39 = .ok (.ifCond .gt 5, 3) := by decide +kernel
theorem dX11_daysFor_42 : decode cX11_daysFor 42 = .ok (.iload_n 2, 1) := by decide +kernel
theorem dX11_daysFor_43 : decode cX11_daysFor 43 = .ok (.ireturn, 1) := by decide +kernel
theorem dX11_daysFor_44 : decode cX11_daysFor 44 = .ok (.iinc 2 1, 3) := by decide +kernel
theorem dX11_daysFor_47 : decode cX11_daysFor 47 = .ok (.goto (-33), 3) := by decide +kernel
theorem dX11_daysFor_50 : decode cX11_daysFor 50 = .ok (.bipush (-4), 2) := by decide +kernel
theorem dX11_daysFor_52 : decode cX11_daysFor 52 = .ok (.ireturn, 1) := by decide +kernel
set_option maxRecDepth 20000 in
theorem ggX11_ask_X10_has : GoodIn wsX11_ask wsX10_has := goodIn_r _ [9, 10, 202, 203, 204, 205, 206, 207, 208] (by decide +kernel) (by decide +kernel)
set_option maxRecDepth 20000 in
theorem gX11_ask_X10_has : GoodIn wsX11_ask (wsV RX11 88 RX10 yX10_has wsX10_has) := goodIn_app (goodIn_of _ (by decide +kernel)) ggX11_ask_X10_has
set_option maxRecDepth 20000 in
theorem ggX11_ask_X10_turnedOf : GoodIn wsX11_ask wsX10_turnedOf := goodIn_r _ [14, 15, 16, 6, 7, 8, 9, 10, 17, 18, 19, 202, 203, 204, 205, 206, 207, 208] (by decide +kernel) (by decide +kernel)
set_option maxRecDepth 20000 in
theorem gX11_ask_X10_turnedOf : GoodIn wsX11_ask (wsV RX11 101 RX10 yX10_turnedOf wsX10_turnedOf) := goodIn_app (goodIn_of _ (by decide +kernel)) ggX11_ask_X10_turnedOf
set_option maxRecDepth 20000 in
theorem ggX11_ask_X10_may : GoodIn wsX11_ask wsX10_may := goodIn_r _ [23, 24, 25, 26, 8, 27, 16, 6, 7, 9, 10, 28, 29, 30, 31, 32, 17, 18, 19, 33, 34, 35, 36, 37, 38, 39, 40, 41, 42, 43, 44, 45, 46, 47, 48, 49, 50, 51, 52, 53, 54, 55, 56, 57, 58, 59, 60, 61, 62, 63, 64, 65, 66, 67, 68, 69, 70, 71, 72, 73, 74, 75, 76, 77, 202, 203, 204, 205, 206, 207, 208] (by decide +kernel) (by decide +kernel)
set_option maxRecDepth 20000 in
theorem gX11_ask_X10_may : GoodIn wsX11_ask (wsV RX11 175 RX10 yX10_may wsX10_may) := goodIn_app (goodIn_of _ (by decide +kernel)) ggX11_ask_X10_may
set_option maxRecDepth 20000 in
theorem ggX11_ask_X10_become : GoodIn wsX11_ask wsX10_become := goodIn_r _ [81, 37, 15, 32, 10, 82, 83, 33, 34, 35, 8, 36, 38, 17, 18, 19, 84, 85, 202, 203, 204, 205, 206, 207, 208] (by decide +kernel) (by decide +kernel)
set_option maxRecDepth 20000 in
theorem gX11_ask_X10_become : GoodIn wsX11_ask (wsV RX11 68 RX10 yX10_become wsX10_become) := goodIn_app (goodIn_of _ (by decide +kernel)) ggX11_ask_X10_become
set_option maxRecDepth 20000 in
theorem ggX11_ask_X10_turnCards : GoodIn wsX11_ask wsX10_turnCards := goodIn_r _ [89, 15, 90, 91, 92, 93, 94, 12, 13, 8, 14, 16, 6, 7, 9, 10, 17, 18, 19, 33, 34, 35, 36, 37, 38, 95, 96, 97, 98, 99, 100, 101, 102, 103, 104, 43, 105, 106, 107, 48, 108, 109, 110, 111, 112, 113, 114, 115, 116, 117, 118, 119, 120, 65, 121, 122, 123, 124, 125, 73, 126, 127, 84, 85, 128, 129, 130, 131, 28, 29, 30, 31, 32, 24, 25, 26, 27, 132, 133, 134, 135, 136, 137, 138, 139, 140, 141, 142, 143, 144, 145, 146, 147, 148, 149, 150, 151, 152, 61, 153, 154, 155, 156, 157, 158, 159, 160, 161, 162, 68, 163, 54, 164, 165, 57, 166, 167, 168, 169, 170, 171, 76, 172, 173, 174, 175, 176, 202, 203, 204, 205, 206, 207, 208, 209, 210, 211, 212, 213, 214, 215, 216] (by decide +kernel) (by decide +kernel)
set_option maxRecDepth 20000 in
theorem gX11_ask_X10_turnCards : GoodIn wsX11_ask (wsV RX11 210 RX10 yX10_turnCards wsX10_turnCards) := goodIn_app (goodIn_of _ (by decide +kernel)) ggX11_ask_X10_turnCards
set_option maxRecDepth 20000 in
theorem ggX11_ask_X10_fitForAll : GoodIn wsX11_ask wsX10_fitForAll := goodIn_r _ [180, 10, 82, 181, 182, 183, 8, 184, 185, 21, 22, 23, 24, 25, 26, 27, 16, 6, 7, 9, 28, 29, 30, 31, 32, 17, 18, 19, 33, 34, 35, 36, 37, 38, 39, 40, 41, 42, 43, 44, 45, 46, 47, 48, 49, 50, 51, 52, 53, 54, 55, 56, 57, 58, 59, 60, 61, 62, 63, 64, 65, 66, 67, 68, 69, 70, 71, 72, 73, 74, 75, 76, 77, 186, 187, 188, 189, 190, 191, 192, 202, 203, 204, 205, 206, 207, 208] (by decide +kernel) (by decide +kernel)
set_option maxRecDepth 20000 in
theorem gX11_ask_X10_fitForAll : GoodIn wsX11_ask (wsV RX11 214 RX10 yX10_fitForAll wsX10_fitForAll) := goodIn_app (goodIn_of _ (by decide +kernel)) ggX11_ask_X10_fitForAll
theorem dX11_ask_0 : decode cX11_ask 0 = .ok (.aload_n 0, 1) := by decide +kernel
theorem dX11_ask_1 : decode cX11_ask 1 = .ok (.getfield 27, 3) := by decide +kernel
theorem dX11_ask_4 : decode cX11_ask 4 = .ok (.iload_n 1, 1) := by decide +kernel
theorem dX11_ask_5 : decode cX11_ask 5 = .ok (.invokevirtual 88, 3) := by decide +kernel
theorem dX11_ask_8 : decode cX11_ask 8 = .ok (.ifCond .ne 5, 3) := by decide +kernel
theorem dX11_ask_11 : decode cX11_ask 11 = .ok (.iconst (-1), 1) := by decide +kernel
theorem dX11_ask_12 : decode cX11_ask 12 = .ok (.ireturn, 1) := by decide +kernel
theorem dX11_ask_13 : decode cX11_ask 13 = .ok (.aload_n 0, 1) := by decide +kernel
theorem dX11_ask_14 : decode cX11_ask 14 = .ok (.getfield 27, 3) := by decide +kernel
theorem dX11_ask_17 : decode cX11_ask 17 = .ok (.iload_n 1, 1) := by decide +kernel
theorem dX11_ask_18 : decode cX11_ask 18 = .ok (.invokevirtual 101, 3) := by decide +kernel
theorem dX11_ask_21 : decode cX11_ask 21 = .ok (.bipush 9, 2) := by decide +kernel
theorem dX11_ask_23 : decode cX11_ask 23 = .ok (.if_icmp .lt 6, 3) := by decide +kernel
theorem dX11_ask_26 : decode cX11_ask 26 = .ok (.bipush (-3), 2) := by decide +kernel
theorem dX11_ask_28 : decode cX11_ask 28 = .ok (.ireturn, 1) := by decide +kernel
theorem dX11_ask_29 : decode cX11_ask 29 = .ok (.bipush (-4), 2) := by decide +kernel
theorem dX11_ask_31 : decode cX11_ask 31 = .ok (.istore_n 2, 1) := by decide +kernel
theorem dX11_ask_32 : decode cX11_ask 32 = .ok (.iconst (-1), 1) := by decide +kernel
theorem dX11_ask_33 : decode cX11_ask 33 = .ok (.istore_n 3, 1) := by decide +kernel
theorem dX11_ask_34 : decode cX11_ask 34 = .ok (.iconst 0, 1) := by decide +kernel
theorem dX11_ask_35 : decode cX11_ask 35 = .ok (.istore 4, 2) := by decide +kernel
theorem dX11_ask_37 : decode cX11_ask 37 = .ok (.iload 4, 2) := by decide +kernel
theorem dX11_ask_39 : decode cX11_ask 39 = .ok (.aload_n 0, 1) := by decide +kernel
theorem dX11_ask_40 : decode cX11_ask 40 = .ok (.getfield 27, 3) := by decide +kernel
theorem dX11_ask_43 : decode cX11_ask 43 = .ok (.getfield 131, 3) := by decide +kernel
theorem dX11_ask_46 : decode cX11_ask 46 = .ok (.if_icmp .ge 71, 3) := by decide +kernel
theorem dX11_ask_49 : decode cX11_ask 49 = .ok (.aload_n 0, 1) := by decide +kernel
theorem dX11_ask_50 : decode cX11_ask 50 = .ok (.getfield 27, 3) := by decide +kernel
theorem dX11_ask_53 : decode cX11_ask 53 = .ok (.iload 4, 2) := by decide +kernel
theorem dX11_ask_55 : decode cX11_ask 55 = .ok (.iload_n 1, 1) := by decide +kernel
theorem dX11_ask_56 : decode cX11_ask 56 = .ok (.aload_n 0, 1) := by decide +kernel
theorem dX11_ask_57 : decode cX11_ask 57 = .ok (.getfield 27, 3) := by decide +kernel
theorem dX11_ask_60 : decode cX11_ask 60 = .ok (.getfield 138, 3) := by decide +kernel
theorem dX11_ask_63 : decode cX11_ask 63 = .ok (.invokevirtual 175, 3) := by decide +kernel
theorem dX11_ask_66 : decode cX11_ask 66 = .ok (.ifCond .eq 45, 3) := by decide +kernel
theorem dX11_ask_69 : decode cX11_ask 69 = .ok (.aload_n 0, 1) := by decide +kernel
theorem dX11_ask_70 : decode cX11_ask 70 = .ok (.getfield 31, 3) := by decide +kernel
theorem dX11_ask_73 : decode cX11_ask 73 = .ok (.aload_n 0, 1) := by decide +kernel
theorem dX11_ask_74 : decode cX11_ask 74 = .ok (.getfield 27, 3) := by decide +kernel
theorem dX11_ask_77 : decode cX11_ask 77 = .ok (.invokevirtual 68, 3) := by decide +kernel
theorem dX11_ask_80 : decode cX11_ask 80 = .ok (.aload_n 0, 1) := by decide +kernel
theorem dX11_ask_81 : decode cX11_ask 81 = .ok (.getfield 31, 3) := by decide +kernel
theorem dX11_ask_84 : decode cX11_ask 84 = .ok (.iload 4, 2) := by decide +kernel
theorem dX11_ask_86 : decode cX11_ask 86 = .ok (.iload_n 1, 1) := by decide +kernel
theorem dX11_ask_87 : decode cX11_ask 87 = .ok (.invokevirtual 210, 3) := by decide +kernel
theorem dX11_ask_90 : decode cX11_ask 90 = .ok (.aload_n 0, 1) := by decide +kernel
theorem dX11_ask_91 : decode cX11_ask 91 = .ok (.getfield 31, 3) := by decide +kernel
theorem dX11_ask_94 : decode cX11_ask 94 = .ok (.invokevirtual 214, 3) := by decide +kernel
theorem dX11_ask_97 : decode cX11_ask 97 = .ok (.istore 5, 2) := by decide +kernel
theorem dX11_ask_99 : decode cX11_ask 99 = .ok (.iload 5, 2) := by decide +kernel
theorem dX11_ask_101 : decode cX11_ask 101 = .ok (.iload_n 3, 1) := by decide +kernel
theorem dX11_ask_102 : decode cX11_ask 102 = .ok (.if_icmp .le 9, 3) := by decide +kernel
theorem dX11_ask_105 : decode cX11_ask 105 = .ok (.iload 4, 2) := by decide +kernel
theorem dX11_ask_107 : decode cX11_ask 107 = .ok (.istore_n 2, 1) := by decide +kernel
theorem dX11_ask_108 : decode cX11_ask 108 = .ok (.iload 5, 2) := by decide +kernel
theorem dX11_ask_110 : decode cX11_ask 110 = .ok (.istore_n 3, 1) := by decide +kernel
theorem dX11_ask_111 : decode cX11_ask 111 = .ok (.iinc 4 1, 3) := by decide +kernel
theorem dX11_ask_114 : decode cX11_ask 114 = .ok (.goto (-77), 3) := by decide +kernel
theorem dX11_ask_117 : decode cX11_ask 117 = .ok (.iload_n 2, 1) := by decide +kernel
theorem dX11_ask_118 : decode cX11_ask 118 = .ok (.ireturn, 1) := by decide +kernel
set_option maxRecDepth 20000 in
theorem ggX11_game_X10_areTwo : GoodIn wsX11_game wsX10_areTwo := goodIn_r _ [7, 8, 9, 10, 6, 11, 12, 132, 133, 134, 135, 136, 137, 138] (by decide +kernel) (by decide +kernel)
set_option maxRecDepth 20000 in
theorem gX11_game_X10_areTwo : GoodIn wsX11_game (wsV RX11 113 RX10 yX10_areTwo wsX10_areTwo) := goodIn_app (goodIn_of _ (by decide +kernel)) ggX11_game_X10_areTwo
set_option maxRecDepth 20000 in
theorem ggX11_game_X10_may : GoodIn wsX11_game wsX10_may := goodIn_r _ [16, 17, 4, 5, 6, 7, 8, 9, 10, 11, 12, 18, 19, 20, 21, 22, 23, 24, 25, 26, 27, 28, 29, 30, 31, 32, 33, 34, 35, 36, 37, 38, 39, 40, 41, 42, 43, 44, 45, 46, 47, 48, 49, 50, 51, 52, 53, 54, 55, 56, 57, 58, 59, 60, 61, 62, 63, 64, 65, 66, 67, 68, 69, 70, 132, 133, 134, 135, 136, 137, 138] (by decide +kernel) (by decide +kernel)
set_option maxRecDepth 20000 in
theorem gX11_game_X10_may : GoodIn wsX11_game (wsV RX11 175 RX10 yX10_may wsX10_may) := goodIn_app (goodIn_of _ (by decide +kernel)) ggX11_game_X10_may
set_option maxRecDepth 20000 in
theorem ggX11_game_X10_at : GoodIn wsX11_game wsX10_at := goodIn_r _ [29, 30, 31, 132, 133, 134, 135, 136, 137, 138] (by decide +kernel) (by decide +kernel)
set_option maxRecDepth 20000 in
theorem gX11_game_X10_at : GoodIn wsX11_game (wsV RX11 92 RX10 yX10_at wsX10_at) := goodIn_app (goodIn_of _ (by decide +kernel)) ggX11_game_X10_at
set_option maxRecDepth 20000 in
theorem ggX11_game_X0_grows : GoodIn wsX11_game wsX0_grows := goodIn_r _ [78, 79, 80, 81, 73, 82, 83, 36, 84, 139, 140, 141, 142, 143, 144, 145, 146] (by decide +kernel) (by decide +kernel)
set_option maxRecDepth 20000 in
theorem gX11_game_X0_grows_u104X0 : GoodIn wsX11_game (va_wsO RX11 104 RX0 "DealtByOpposite$Person" ⟨"DealtByOpposite$Person", "grows", "()I"⟩ yX0_grows wsX0_grows) := goodIn_app (goodIn_of _ (by decide +kernel)) ggX11_game_X0_grows
set_option maxRecDepth 20000 in
theorem ggX11_game_X1_grows : GoodIn wsX11_game wsX1_grows := goodIn_r _ [87] (by decide +kernel) (by decide +kernel)
set_option maxRecDepth 20000 in
theorem gX11_game_X1_grows_u104X1 : GoodIn wsX11_game (va_wsO RX11 104 RX1 "DealtByOpposite$Person" ⟨"DealtByOpposite$Person", "grows", "()I"⟩ yX1_grows wsX1_grows) := goodIn_app (goodIn_of _ (by decide +kernel)) ggX11_game_X1_grows
set_option maxRecDepth 20000 in
theorem ggX11_game_X3_grows : GoodIn wsX11_game wsX3_grows := goodIn_r _ [91, 92, 93, 94, 76, 77, 78, 79, 80, 81, 73, 82, 83, 36, 84, 139, 140, 141, 142, 143, 144, 145, 146] (by decide +kernel) (by decide +kernel)
set_option maxRecDepth 20000 in
theorem gX11_game_X3_grows_u104X3 : GoodIn wsX11_game (va_wsO RX11 104 RX3 "DealtByOpposite$Person" ⟨"DealtByOpposite$Person", "grows", "()I"⟩ yX3_grows wsX3_grows) := goodIn_app (goodIn_of _ (by decide +kernel)) ggX11_game_X3_grows
set_option maxRecDepth 20000 in
theorem ggX11_game_X4_grows : GoodIn wsX11_game wsX4_grows := goodIn_r _ [97, 98, 99, 139, 140, 141, 142, 143, 144, 145, 146] (by decide +kernel) (by decide +kernel)
set_option maxRecDepth 20000 in
theorem gX11_game_X4_grows_u104X4 : GoodIn wsX11_game (va_wsO RX11 104 RX4 "DealtByOpposite$Person" ⟨"DealtByOpposite$Person", "grows", "()I"⟩ yX4_grows wsX4_grows) := goodIn_app (goodIn_of _ (by decide +kernel)) ggX11_game_X4_grows
set_option maxRecDepth 20000 in
theorem ggX11_game_X5_grows : GoodIn wsX11_game wsX5_grows := goodIn_r _ [102, 103, 104, 105, 106, 61, 107, 47, 108, 109, 73, 50, 83, 36, 84, 139, 140, 141, 142, 143, 144, 145, 146] (by decide +kernel) (by decide +kernel)
set_option maxRecDepth 20000 in
theorem gX11_game_X5_grows_u104X5 : GoodIn wsX11_game (va_wsO RX11 104 RX5 "DealtByOpposite$Person" ⟨"DealtByOpposite$Person", "grows", "()I"⟩ yX5_grows wsX5_grows) := goodIn_app (goodIn_of _ (by decide +kernel)) ggX11_game_X5_grows
set_option maxRecDepth 20000 in
theorem ggX11_game_X6_grows : GoodIn wsX11_game wsX6_grows := goodIn_r _ [84] (by decide +kernel) (by decide +kernel)
set_option maxRecDepth 20000 in
theorem gX11_game_X6_grows : GoodIn wsX11_game (wsV RX11 104 RX6 yX6_grows wsX6_grows) := goodIn_app (goodIn_of _ (by decide +kernel)) ggX11_game_X6_grows
set_option maxRecDepth 20000 in
theorem ggX11_game_X8_grows : GoodIn wsX11_game wsX8_grows := goodIn_r _ [114, 115, 106, 69, 107, 47, 108, 109, 73, 50, 83, 36, 84] (by decide +kernel) (by decide +kernel)
set_option maxRecDepth 20000 in
theorem gX11_game_X8_grows_u104X8 : GoodIn wsX11_game (va_wsO RX11 104 RX8 "DealtByOpposite$Person" ⟨"DealtByOpposite$Person", "grows", "()I"⟩ yX8_grows wsX8_grows) := goodIn_app (goodIn_of _ (by decide +kernel)) ggX11_game_X8_grows
set_option maxRecDepth 20000 in
theorem ggX11_game_X9_grows : GoodIn wsX11_game wsX9_grows := goodIn_r _ [108, 109, 73, 50, 83, 36, 84] (by decide +kernel) (by decide +kernel)
set_option maxRecDepth 20000 in
theorem gX11_game_X9_grows_u104X9 : GoodIn wsX11_game (va_wsO RX11 104 RX9 "DealtByOpposite$Person" ⟨"DealtByOpposite$Person", "grows", "()I"⟩ yX9_grows wsX9_grows) := goodIn_app (goodIn_of _ (by decide +kernel)) ggX11_game_X9_grows
set_option maxRecDepth 20000 in
theorem ggX11_game_X11_isBestChoice : GoodIn wsX11_game wsX11_isBestChoice := goodIn_r _ [119, 120, 121, 24, 122] (by decide +kernel) (by decide +kernel)
set_option maxRecDepth 20000 in
theorem gX11_game_X11_isBestChoice : GoodIn wsX11_game (va_wsS RX11 217 yX11_isBestChoice wsX11_isBestChoice) := goodIn_app (goodIn_of _ (by decide +kernel)) ggX11_game_X11_isBestChoice
theorem dX11_game_0 : decode cX11_game 0 = .ok (.aload_n 0, 1) := by decide +kernel
theorem dX11_game_1 : decode cX11_game 1 = .ok (.getfield 27, 3) := by decide +kernel
theorem dX11_game_4 : decode cX11_game 4 = .ok (.iload_n 1, 1) := by decide +kernel
theorem dX11_game_5 : decode cX11_game 5 = .ok (.iload_n 2, 1) := by decide +kernel
theorem dX11_game_6 : decode cX11_game 6 = .ok (.invokevirtual 113, 3) := by decide +kernel
theorem dX11_game_9 : decode cX11_game 9 = .ok (.ifCond .ne 5, 3) := by decide +kernel
theorem dX11_game_12 : decode cX11_game 12 = .ok (.iconst (-1), 1) := by decide +kernel
theorem dX11_game_13 : decode cX11_game 13 = .ok (.ireturn, 1) := by decide +kernel
theorem dX11_game_14 : decode cX11_game 14 = .ok (.aload_n 0, 1) := by decide +kernel
theorem dX11_game_15 : decode cX11_game 15 = .ok (.getfield 27, 3) := by decide +kernel
theorem dX11_game_18 : decode cX11_game 18 = .ok (.iload_n 1, 1) := by decide +kernel
theorem dX11_game_19 : decode cX11_game 19 = .ok (.iload_n 2, 1) := by decide +kernel
theorem dX11_game_20 : decode cX11_game 20 = .ok (.aload_n 0, 1) := by decide +kernel
theorem dX11_game_21 : decode cX11_game 21 = .ok (.getfield 27, 3) := by decide +kernel
theorem dX11_game_24 : decode cX11_game 24 = .ok (.getfield 138, 3) := by decide +kernel
theorem dX11_game_27 : decode cX11_game 27 = .ok (.invokevirtual 175, 3) := by decide +kernel
theorem dX11_game_30 : decode cX11_game 30 = .ok (.ifCond .eq 7, 3) := by decide +kernel
theorem dX11_game_33 : decode cX11_game 33 = .ok (.iconst 1, 1) := by decide +kernel
theorem dX11_game_34 : decode cX11_game 34 = .ok (.goto 4, 3) := by decide +kernel
theorem dX11_game_37 : decode cX11_game 37 = .ok (.iconst 0, 1) := by decide +kernel
theorem dX11_game_38 : decode cX11_game 38 = .ok (.istore_n 3, 1) := by decide +kernel
theorem dX11_game_39 : decode cX11_game 39 = .ok (.aload_n 0, 1) := by decide +kernel
theorem dX11_game_40 : decode cX11_game 40 = .ok (.getfield 27, 3) := by decide +kernel
theorem dX11_game_43 : decode cX11_game 43 = .ok (.iload_n 2, 1) := by decide +kernel
theorem dX11_game_44 : decode cX11_game 44 = .ok (.iload_n 1, 1) := by decide +kernel
theorem dX11_game_45 : decode cX11_game 45 = .ok (.aload_n 0, 1) := by decide +kernel
theorem dX11_game_46 : decode cX11_game 46 = .ok (.getfield 27, 3) := by decide +kernel
theorem dX11_game_49 : decode cX11_game 49 = .ok (.getfield 138, 3) := by decide +kernel
theorem dX11_game_52 : decode cX11_game 52 = .ok (.invokevirtual 175, 3) := by decide +kernel
theorem dX11_game_55 : decode cX11_game 55 = .ok (.ifCond .eq 7, 3) := by decide +kernel
theorem dX11_game_58 : decode cX11_game 58 = .ok (.iconst 1, 1) := by decide +kernel
theorem dX11_game_59 : decode cX11_game 59 = .ok (.goto 4, 3) := by decide +kernel
theorem dX11_game_62 : decode cX11_game 62 = .ok (.iconst 0, 1) := by decide +kernel
theorem dX11_game_63 : decode cX11_game 63 = .ok (.istore 4, 2) := by decide +kernel
theorem dX11_game_65 : decode cX11_game 65 = .ok (.aload_n 0, 1) := by decide +kernel
theorem dX11_game_66 : decode cX11_game 66 = .ok (.getfield 27, 3) := by decide +kernel
theorem dX11_game_69 : decode cX11_game 69 = .ok (.iload_n 1, 1) := by decide +kernel
theorem dX11_game_70 : decode cX11_game 70 = .ok (.invokevirtual 92, 3) := by decide +kernel
theorem dX11_game_73 : decode cX11_game 73 = .ok (.invokevirtual 104, 3) := by decide +kernel
theorem dX11_game_76 : decode cX11_game 76 = .ok (.istore 5, 2) := by decide +kernel
theorem dX11_game_78 : decode cX11_game 78 = .ok (.aload_n 0, 1) := by decide +kernel
theorem dX11_game_79 : decode cX11_game 79 = .ok (.getfield 27, 3) := by decide +kernel
theorem dX11_game_82 : decode cX11_game 82 = .ok (.iload_n 2, 1) := by decide +kernel
theorem dX11_game_83 : decode cX11_game 83 = .ok (.invokevirtual 92, 3) := by decide +kernel
theorem dX11_game_86 : decode cX11_game 86 = .ok (.invokevirtual 104, 3) := by decide +kernel
theorem dX11_game_89 : decode cX11_game 89 = .ok (.istore 6, 2) := by decide +kernel
theorem dX11_game_91 : decode cX11_game 91 = .ok (.iconst 0, 1) := by decide +kernel
theorem dX11_game_92 : decode cX11_game 92 = .ok (.istore 7, 2) := by decide +kernel
theorem dX11_game_94 : decode cX11_game 94 = .ok (.iload 7, 2) := by decide +kernel
theorem dX11_game_96 : decode cX11_game 96 = .ok (.iload_n 3, 1) := by decide +kernel
theorem dX11_game_97 : decode cX11_game 97 = .ok (.if_icmp .gt 61, 3) := by decide +kernel
theorem dX11_game_100 : decode cX11_game 100 = .ok (.iconst 0, 1) := by decide +kernel
theorem dX11_game_101 : decode cX11_game 101 = .ok (.istore 8, 2) := by decide +kernel
theorem dX11_game_103 : decode cX11_game 103 = .ok (.iload 8, 2) := by decide +kernel
theorem dX11_game_105 : decode cX11_game 105 = .ok (.iload 4, 2) := by decide +kernel
theorem dX11_game_107 : decode cX11_game 107 = .ok (.if_icmp .gt 45, 3) := by decide +kernel
theorem dX11_game_110 : decode cX11_game 110 = .ok (.iload 7, 2) := by decide +kernel
theorem dX11_game_112 : decode cX11_game 112 = .ok (.iload 8, 2) := by decide +kernel
theorem dX11_game_114 : decode cX11_game 114 = .ok (.iload_n 3, 1) := by decide +kernel
theorem dX11_game_115 : decode cX11_game 115 = .ok (.iload 5, 2) := by decide +kernel
theorem dX11_game_117 : decode cX11_game 117 = .ok (.invokestatic 217, 3) := by decide +kernel
theorem dX11_game_120 : decode cX11_game 120 = .ok (.ifCond .eq 26, 3) := by decide +kernel
theorem dX11_game_123 : decode cX11_game 123 = .ok (.iload 8, 2) := by decide +kernel
theorem dX11_game_125 : decode cX11_game 125 = .ok (.iload 7, 2) := by decide +kernel
theorem dX11_game_127 : decode cX11_game 127 = .ok (.iload 4, 2) := by decide +kernel
theorem dX11_game_129 : decode cX11_game 129 = .ok (.iload 6, 2) := by decide +kernel
theorem dX11_game_131 : decode cX11_game 131 = .ok (.invokestatic 217, 3) := by decide +kernel
theorem dX11_game_134 : decode cX11_game 134 = .ok (.ifCond .eq 12, 3) := by decide +kernel
theorem dX11_game_137 : decode cX11_game 137 = .ok (.bipush 10, 2) := by decide +kernel
theorem dX11_game_139 : decode cX11_game 139 = .ok (.iload 7, 2) := by decide +kernel
theorem dX11_game_141 : decode cX11_game 141 = .ok (.imul, 1) := by decide +kernel
theorem dX11_game_142 : decode cX11_game 142 = .ok (.iload 8, 2) := by decide +kernel
theorem dX11_game_144 : decode cX11_game 144 = .ok (.iadd, 1) := by decide +kernel
theorem dX11_game_145 : decode cX11_game 145 = .ok (.ireturn, 1) := by decide +kernel
theorem dX11_game_146 : decode cX11_game 146 = .ok (.iinc 8 1, 3) := by decide +kernel
theorem dX11_game_149 : decode cX11_game 149 = .ok (.goto (-46), 3) := by decide +kernel
theorem dX11_game_152 : decode cX11_game 152 = .ok (.iinc 7 1, 3) := by decide +kernel
theorem dX11_game_155 : decode cX11_game 155 = .ok (.goto (-61), 3) := by decide +kernel
theorem dX11_game_158 : decode cX11_game 158 = .ok (.bipush (-4), 2) := by decide +kernel
theorem dX11_game_160 : decode cX11_game 160 = .ok (.ireturn, 1) := by decide +kernel
set_option maxRecDepth 20000 in
theorem ggX11_blushes_X10_has : GoodIn wsX11_blushes wsX10_has := goodIn_r _ [8, 9, 93, 94, 95, 96, 97, 98, 99] (by decide +kernel) (by decide +kernel)
set_option maxRecDepth 20000 in
theorem gX11_blushes_X10_has : GoodIn wsX11_blushes (wsV RX11 88 RX10 yX10_has wsX10_has) := goodIn_app (goodIn_of _ (by decide +kernel)) ggX11_blushes_X10_has
set_option maxRecDepth 20000 in
theorem ggX11_blushes_X11_isOneOfTwo : GoodIn wsX11_blushes wsX11_isOneOfTwo := goodIn_r _ [13] (by decide +kernel) (by decide +kernel)
set_option maxRecDepth 20000 in
theorem gX11_blushes_X11_isOneOfTwo : GoodIn wsX11_blushes (va_wsS RX11 172 yX11_isOneOfTwo wsX11_isOneOfTwo) := goodIn_app (goodIn_of _ (by decide +kernel)) ggX11_blushes_X11_isOneOfTwo
set_option maxRecDepth 20000 in
theorem ggX11_blushes_X11_rowOn : GoodIn wsX11_blushes wsX11_rowOn := goodIn_r _ [17, 18, 81, 82, 83, 84, 85, 86, 87, 88, 89] (by decide +kernel) (by decide +kernel)
set_option maxRecDepth 20000 in
theorem gX11_blushes_X11_rowOn : GoodIn wsX11_blushes (wsV RX11 53 RX11 yX11_rowOn wsX11_rowOn) := goodIn_app (goodIn_of _ (by decide +kernel)) ggX11_blushes_X11_rowOn
set_option maxRecDepth 20000 in
theorem ggX11_blushes_X11_refusalWithoutRow : GoodIn wsX11_blushes wsX11_refusalWithoutRow := goodIn_r _ [22, 23, 24, 12, 25, 26, 27, 28, 29, 30, 81, 82, 83, 84, 85, 86, 87, 88, 89] (by decide +kernel) (by decide +kernel)
set_option maxRecDepth 20000 in
theorem gX11_blushes_X11_refusalWithoutRow : GoodIn wsX11_blushes (wsV RX11 57 RX11 yX11_refusalWithoutRow wsX11_refusalWithoutRow) := goodIn_app (goodIn_of _ (by decide +kernel)) ggX11_blushes_X11_refusalWithoutRow
set_option maxRecDepth 20000 in
theorem ggX11_blushes_X11_firstNotAtLevel : GoodIn wsX11_blushes wsX11_firstNotAtLevel := goodIn_r _ [34, 2, 1, 35, 36, 37, 38, 39, 40, 41, 42, 43, 44, 45, 46, 12, 47, 48, 49, 50, 51, 52, 53, 54, 55, 56, 7, 57, 58, 59, 60, 61, 62, 63, 64, 65, 66, 67, 68, 69, 70, 71, 72, 73, 74, 75, 76, 77, 78, 79, 80, 90, 91, 92, 81, 82, 83, 84, 85, 86, 87, 88, 89, 93, 94, 95, 96, 97, 98, 99] (by decide +kernel) (by decide +kernel)
set_option maxRecDepth 20000 in
theorem gX11_blushes_X11_firstNotAtLevel : GoodIn wsX11_blushes (wsV RX11 220 RX11 yX11_firstNotAtLevel wsX11_firstNotAtLevel) := goodIn_app (goodIn_of _ (by decide +kernel)) ggX11_blushes_X11_firstNotAtLevel
theorem dX11_blushes_0 : decode cX11_blushes 0 = .ok (.aload_n 0, 1) := by decide +kernel
theorem dX11_blushes_1 : decode cX11_blushes 1 = .ok (.getfield 27, 3) := by decide +kernel
theorem dX11_blushes_4 : decode cX11_blushes 4 = .ok (.iload_n 1, 1) := by decide +kernel
theorem dX11_blushes_5 : decode cX11_blushes 5 = .ok (.invokevirtual 88, 3) := by decide +kernel
theorem dX11_blushes_8 : decode cX11_blushes 8 = .ok (.ifCond .eq 10, 3) := by decide +kernel
theorem dX11_blushes_11 : decode cX11_blushes 11 = .ok (.iload_n 3, 1) := by decide +kernel
theorem dX11_blushes_12 : decode cX11_blushes 12 = .ok (.invokestatic 172, 3) := by decide +kernel
theorem dX11_blushes_15 : decode cX11_blushes 15 = .ok (.ifCond .ne 5, 3) := by decide +kernel
theorem dX11_blushes_18 : decode cX11_blushes 18 = .ok (.iconst (-1), 1) := by decide +kernel
theorem dX11_blushes_19 : decode cX11_blushes 19 = .ok (.ireturn, 1) := by decide +kernel
theorem dX11_blushes_20 : decode cX11_blushes 20 = .ok (.aload_n 0, 1) := by decide +kernel
theorem dX11_blushes_21 : decode cX11_blushes 21 = .ok (.iload_n 2, 1) := by decide +kernel
theorem dX11_blushes_22 : decode cX11_blushes 22 = .ok (.invokevirtual 53, 3) := by decide +kernel
theorem dX11_blushes_25 : decode cX11_blushes 25 = .ok (.astore 4, 2) := by decide +kernel
theorem dX11_blushes_27 : decode cX11_blushes 27 = .ok (.aload 4, 2) := by decide +kernel
theorem dX11_blushes_29 : decode cX11_blushes 29 = .ok (.ifnonnull 9, 3) := by decide +kernel
theorem dX11_blushes_32 : decode cX11_blushes 32 = .ok (.aload_n 0, 1) := by decide +kernel
theorem dX11_blushes_33 : decode cX11_blushes 33 = .ok (.iload_n 2, 1) := by decide +kernel
theorem dX11_blushes_34 : decode cX11_blushes 34 = .ok (.invokevirtual 57, 3) := by decide +kernel
theorem dX11_blushes_37 : decode cX11_blushes 37 = .ok (.ireturn, 1) := by decide +kernel
theorem dX11_blushes_38 : decode cX11_blushes 38 = .ok (.aload 4, 2) := by decide +kernel
theorem dX11_blushes_40 : decode cX11_blushes 40 = .ok (.getfield 72, 3) := by decide +kernel
theorem dX11_blushes_43 : decode cX11_blushes 43 = .ok (.aload_n 0, 1) := by decide +kernel
theorem dX11_blushes_44 : decode cX11_blushes 44 = .ok (.getfield 27, 3) := by decide +kernel
theorem dX11_blushes_47 : decode cX11_blushes 47 = .ok (.getfield 131, 3) := by decide +kernel
theorem dX11_blushes_50 : decode cX11_blushes 50 = .ok (.if_icmp .le 6, 3) := by decide +kernel
theorem dX11_blushes_53 : decode cX11_blushes 53 = .ok (.bipush (-13), 2) := by decide +kernel
theorem dX11_blushes_55 : decode cX11_blushes 55 = .ok (.ireturn, 1) := by decide +kernel
theorem dX11_blushes_56 : decode cX11_blushes 56 = .ok (.iconst 0, 1) := by decide +kernel
theorem dX11_blushes_57 : decode cX11_blushes 57 = .ok (.istore 5, 2) := by decide +kernel
theorem dX11_blushes_59 : decode cX11_blushes 59 = .ok (.bipush (-4), 2) := by decide +kernel
theorem dX11_blushes_61 : decode cX11_blushes 61 = .ok (.istore 6, 2) := by decide +kernel
theorem dX11_blushes_63 : decode cX11_blushes 63 = .ok (.iconst 0, 1) := by decide +kernel
theorem dX11_blushes_64 : decode cX11_blushes 64 = .ok (.istore 7, 2) := by decide +kernel
theorem dX11_blushes_66 : decode cX11_blushes 66 = .ok (.iload 7, 2) := by decide +kernel
theorem dX11_blushes_68 : decode cX11_blushes 68 = .ok (.bipush 10, 2) := by decide +kernel
theorem dX11_blushes_70 : decode cX11_blushes 70 = .ok (.if_icmp .ge 40, 3) := by decide +kernel
theorem dX11_blushes_73 : decode cX11_blushes 73 = .ok (.aload_n 0, 1) := by decide +kernel
theorem dX11_blushes_74 : decode cX11_blushes 74 = .ok (.iload_n 1, 1) := by decide +kernel
theorem dX11_blushes_75 : decode cX11_blushes 75 = .ok (.aload 4, 2) := by decide +kernel
theorem dX11_blushes_77 : decode cX11_blushes 77 = .ok (.iload 7, 2) := by decide +kernel
theorem dX11_blushes_79 : decode cX11_blushes 79 = .ok (.invokevirtual 220, 3) := by decide +kernel
theorem dX11_blushes_82 : decode cX11_blushes 82 = .ok (.bipush (-4), 2) := by decide +kernel
theorem dX11_blushes_84 : decode cX11_blushes 84 = .ok (.if_icmp .ne 20, 3) := by decide +kernel
theorem dX11_blushes_87 : decode cX11_blushes 87 = .ok (.iload 5, 2) := by decide +kernel
theorem dX11_blushes_89 : decode cX11_blushes 89 = .ok (.ifCond .ne 8, 3) := by decide +kernel
theorem dX11_blushes_92 : decode cX11_blushes 92 = .ok (.iload 7, 2) := by decide +kernel
theorem dX11_blushes_94 : decode cX11_blushes 94 = .ok (.goto 5, 3) := by decide +kernel
theorem dX11_blushes_97 : decode cX11_blushes 97 = .ok (.iload 6, 2) := by decide +kernel
theorem dX11_blushes_99 : decode cX11_blushes 99 = .ok (.istore 6, 2) := by decide +kernel
theorem dX11_blushes_101 : decode cX11_blushes 101 = .ok (.iinc 5 1, 3) := by decide +kernel
theorem dX11_blushes_104 : decode cX11_blushes 104 = .ok (.iinc 7 1, 3) := by decide +kernel
theorem dX11_blushes_107 : decode cX11_blushes 107 = .ok (.goto (-41), 3) := by decide +kernel
theorem dX11_blushes_110 : decode cX11_blushes 110 = .ok (.iload_n 3, 1) := by decide +kernel
theorem dX11_blushes_111 : decode cX11_blushes 111 = .ok (.ifCond .ne 8, 3) := by decide +kernel
theorem dX11_blushes_114 : decode cX11_blushes 114 = .ok (.iload 5, 2) := by decide +kernel
theorem dX11_blushes_116 : decode cX11_blushes 116 = .ok (.goto 5, 3) := by decide +kernel
theorem dX11_blushes_119 : decode cX11_blushes 119 = .ok (.iload 6, 2) := by decide +kernel
theorem dX11_blushes_121 : decode cX11_blushes 121 = .ok (.ireturn, 1) := by decide +kernel
set_option maxRecDepth 20000 in
theorem ggX11_forged_X10_has : GoodIn wsX11_forged wsX10_has := goodIn_r _ [12, 13, 94, 95, 96, 97, 98, 99, 100] (by decide +kernel) (by decide +kernel)
set_option maxRecDepth 20000 in
theorem gX11_forged_X10_has : GoodIn wsX11_forged (wsV RX11 88 RX10 yX10_has wsX10_has) := goodIn_app (goodIn_of _ (by decide +kernel)) ggX11_forged_X10_has
set_option maxRecDepth 20000 in
theorem ggX11_forged_X11_rowOn : GoodIn wsX11_forged wsX11_rowOn := goodIn_r _ [18, 19, 82, 83, 84, 85, 86, 87, 88, 89, 90] (by decide +kernel) (by decide +kernel)
set_option maxRecDepth 20000 in
theorem gX11_forged_X11_rowOn : GoodIn wsX11_forged (wsV RX11 53 RX11 yX11_rowOn wsX11_rowOn) := goodIn_app (goodIn_of _ (by decide +kernel)) ggX11_forged_X11_rowOn
set_option maxRecDepth 20000 in
theorem ggX11_forged_X11_refusalWithoutRow : GoodIn wsX11_forged wsX11_refusalWithoutRow := goodIn_r _ [23, 24, 25, 17, 26, 27, 28, 29, 30, 31, 82, 83, 84, 85, 86, 87, 88, 89, 90] (by decide +kernel) (by decide +kernel)
set_option maxRecDepth 20000 in
theorem gX11_forged_X11_refusalWithoutRow : GoodIn wsX11_forged (wsV RX11 57 RX11 yX11_refusalWithoutRow wsX11_refusalWithoutRow) := goodIn_app (goodIn_of _ (by decide +kernel)) ggX11_forged_X11_refusalWithoutRow
set_option maxRecDepth 20000 in
theorem ggX11_forged_X11_firstNotAtLevel : GoodIn wsX11_forged wsX11_firstNotAtLevel := goodIn_r _ [35, 2, 1, 36, 37, 38, 39, 40, 41, 42, 43, 44, 45, 46, 47, 17, 48, 49, 50, 51, 52, 53, 54, 55, 56, 57, 11, 58, 59, 60, 61, 62, 63, 64, 65, 66, 67, 68, 69, 70, 71, 72, 73, 74, 75, 76, 77, 78, 79, 80, 81, 91, 92, 93, 82, 83, 84, 85, 86, 87, 88, 89, 90, 94, 95, 96, 97, 98, 99, 100] (by decide +kernel) (by decide +kernel)
set_option maxRecDepth 20000 in
theorem gX11_forged_X11_firstNotAtLevel : GoodIn wsX11_forged (wsV RX11 220 RX11 yX11_firstNotAtLevel wsX11_firstNotAtLevel) := goodIn_app (goodIn_of _ (by decide +kernel)) ggX11_forged_X11_firstNotAtLevel
theorem dX11_forged_0 : decode cX11_forged 0 = .ok (.aload_n 0, 1) := by decide +kernel
theorem dX11_forged_1 : decode cX11_forged 1 = .ok (.getfield 27, 3) := by decide +kernel
theorem dX11_forged_4 : decode cX11_forged 4 = .ok (.iload_n 1, 1) := by decide +kernel
theorem dX11_forged_5 : decode cX11_forged 5 = .ok (.invokevirtual 88, 3) := by decide +kernel
theorem dX11_forged_8 : decode cX11_forged 8 = .ok (.ifCond .ne 5, 3) := by decide +kernel
theorem dX11_forged_11 : decode cX11_forged 11 = .ok (.iconst (-1), 1) := by decide +kernel
theorem dX11_forged_12 : decode cX11_forged 12 = .ok (.ireturn, 1) := by decide +kernel
theorem dX11_forged_13 : decode cX11_forged 13 = .ok (.aload_n 0, 1) := by decide +kernel
theorem dX11_forged_14 : decode cX11_forged 14 = .ok (.iload_n 2, 1) := by decide +kernel
theorem dX11_forged_15 : decode cX11_forged 15 = .ok (.invokevirtual 53, 3) := by decide +kernel
theorem dX11_forged_18 : decode cX11_forged 18 = .ok (.astore_n 3, 1) := by decide +kernel
theorem dX11_forged_19 : decode cX11_forged 19 = .ok (.aload_n 3, 1) := by decide +kernel
theorem dX11_forged_20 : decode cX11_forged 20 = .ok (.ifnonnull 9, 3) := by decide +kernel
theorem dX11_forged_23 : decode cX11_forged 23 = .ok (.aload_n 0, 1) := by decide +kernel
theorem dX11_forged_24 : decode cX11_forged 24 = .ok (.iload_n 2, 1) := by decide +kernel
theorem dX11_forged_25 : decode cX11_forged 25 = .ok (.invokevirtual 57, 3) := by decide +kernel
theorem dX11_forged_28 : decode cX11_forged 28 = .ok (.ireturn, 1) := by decide +kernel
theorem dX11_forged_29 : decode cX11_forged 29 = .ok (.aload_n 3, 1) := by decide +kernel
theorem dX11_forged_30 : decode cX11_forged 30 = .ok (.getfield 72, 3) := by decide +kernel
theorem dX11_forged_33 : decode cX11_forged 33 = .ok (.aload_n 0, 1) := by decide +kernel
theorem dX11_forged_34 : decode cX11_forged 34 = .ok (.getfield 27, 3) := by decide +kernel
theorem dX11_forged_37 : decode cX11_forged 37 = .ok (.getfield 131, 3) := by decide +kernel
theorem dX11_forged_40 : decode cX11_forged 40 = .ok (.if_icmp .le 6, 3) := by decide +kernel
theorem dX11_forged_43 : decode cX11_forged 43 = .ok (.bipush (-13), 2) := by decide +kernel
theorem dX11_forged_45 : decode cX11_forged 45 = .ok (.ireturn, 1) := by decide +kernel
theorem dX11_forged_46 : decode cX11_forged 46 = .ok (.iconst 0, 1) := by decide +kernel
theorem dX11_forged_47 : decode cX11_forged 47 = .ok (.istore 4, 2) := by decide +kernel
theorem dX11_forged_49 : decode cX11_forged 49 = .ok (.iconst 0, 1) := by decide +kernel
theorem dX11_forged_50 : decode cX11_forged 50 = .ok (.istore 5, 2) := by decide +kernel
theorem dX11_forged_52 : decode cX11_forged 52 = .ok (.iload 5, 2) := by decide +kernel
