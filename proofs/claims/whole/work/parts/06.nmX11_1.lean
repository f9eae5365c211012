theorem dX11_forged_54 : decode cX11_forged 54 = .ok (.bipush 10, 2) := by decide +kernel
theorem dX11_forged_56 : decode cX11_forged 56 = .ok (.if_icmp .ge 38, 3) := by decide +kernel
theorem dX11_forged_59 : decode cX11_forged 59 = .ok (.aload_n 0, 1) := by decide +kernel
theorem dX11_forged_60 : decode cX11_forged 60 = .ok (.iload_n 1, 1) := by decide +kernel
theorem dX11_forged_61 : decode cX11_forged 61 = .ok (.aload_n 3, 1) := by decide +kernel
theorem dX11_forged_62 : decode cX11_forged 62 = .ok (.iload 5, 2) := by decide +kernel
theorem dX11_forged_64 : decode cX11_forged 64 = .ok (.invokevirtual 220, 3) := by decide +kernel
theorem dX11_forged_67 : decode cX11_forged 67 = .ok (.istore 6, 2) := by decide +kernel
theorem dX11_forged_69 : decode cX11_forged 69 = .ok (.iload 6, 2) := by decide +kernel
theorem dX11_forged_71 : decode cX11_forged 71 = .ok (.bipush (-4), 2) := by decide +kernel
theorem dX11_forged_73 : decode cX11_forged 73 = .ok (.if_icmp .ne 6, 3) := by decide +kernel
theorem dX11_forged_76 : decode cX11_forged 76 = .ok (.bipush (-4), 2) := by decide +kernel
theorem dX11_forged_78 : decode cX11_forged 78 = .ok (.ireturn, 1) := by decide +kernel
theorem dX11_forged_79 : decode cX11_forged 79 = .ok (.iload 4, 2) := by decide +kernel
theorem dX11_forged_81 : decode cX11_forged 81 = .ok (.iload 6, 2) := by decide +kernel
theorem dX11_forged_83 : decode cX11_forged 83 = .ok (.invokestatic 224, 3) := by decide +kernel
theorem dX11_forged_86 : decode cX11_forged 86 = .ok (.istore 4, 2) := by decide +kernel
theorem dX11_forged_88 : decode cX11_forged 88 = .ok (.iinc 5 1, 3) := by decide +kernel
theorem dX11_forged_91 : decode cX11_forged 91 = .ok (.goto (-39), 3) := by decide +kernel
theorem dX11_forged_94 : decode cX11_forged 94 = .ok (.iload 4, 2) := by decide +kernel
theorem dX11_forged_96 : decode cX11_forged 96 = .ok (.ireturn, 1) := by decide +kernel
set_option maxRecDepth 20000 in
theorem ggX11_judge_X10_has : GoodIn wsX11_judge wsX10_has := goodIn_r _ [8, 9, 226, 227, 228, 229, 230, 231, 232] (by decide +kernel) (by decide +kernel)
set_option maxRecDepth 20000 in
theorem gX11_judge_X10_has : GoodIn wsX11_judge (wsV RX11 88 RX10 yX10_has wsX10_has) := goodIn_app (goodIn_of _ (by decide +kernel)) ggX11_judge_X10_has
set_option maxRecDepth 20000 in
theorem ggX11_judge_X11_rowOn : GoodIn wsX11_judge wsX11_rowOn := goodIn_r _ [14, 15, 214, 215, 216, 217, 218, 219, 220, 221, 222] (by decide +kernel) (by decide +kernel)
set_option maxRecDepth 20000 in
theorem gX11_judge_X11_rowOn : GoodIn wsX11_judge (wsV RX11 53 RX11 yX11_rowOn wsX11_rowOn) := goodIn_app (goodIn_of _ (by decide +kernel)) ggX11_judge_X11_rowOn
set_option maxRecDepth 20000 in
theorem ggX11_judge_X11_refusalWithoutRow : GoodIn wsX11_judge wsX11_refusalWithoutRow := goodIn_r _ [19, 20, 21, 13, 22, 23, 24, 25, 26, 27, 214, 215, 216, 217, 218, 219, 220, 221, 222] (by decide +kernel) (by decide +kernel)
set_option maxRecDepth 20000 in
theorem gX11_judge_X11_refusalWithoutRow : GoodIn wsX11_judge (wsV RX11 57 RX11 yX11_refusalWithoutRow wsX11_refusalWithoutRow) := goodIn_app (goodIn_of _ (by decide +kernel)) ggX11_judge_X11_refusalWithoutRow
set_option maxRecDepth 20000 in
theorem ggX11_judge_X10_become : GoodIn wsX11_judge wsX10_become := goodIn_r _ [31, 32, 33, 34, 9, 35, 36, 37, 38, 39, 7, 40, 41, 42, 13, 43, 44, 45, 226, 227, 228, 229, 230, 231, 232] (by decide +kernel) (by decide +kernel)
set_option maxRecDepth 20000 in
theorem gX11_judge_X10_become : GoodIn wsX11_judge (wsV RX11 68 RX10 yX10_become wsX10_become) := goodIn_app (goodIn_of _ (by decide +kernel)) ggX11_judge_X10_become
set_option maxRecDepth 20000 in
theorem ggX11_judge_X10_turnByTheLeast : GoodIn wsX11_judge wsX10_turnByTheLeast := goodIn_r _ [49, 9, 35, 50, 51, 52, 7, 53, 54, 55, 56, 57, 58, 5, 6, 8, 59, 60, 61, 62, 34, 42, 13, 43, 37, 38, 39, 40, 32, 41, 63, 64, 65, 66, 67, 68, 69, 70, 71, 72, 73, 74, 75, 76, 77, 78, 79, 80, 81, 82, 83, 84, 85, 86, 87, 88, 89, 90, 91, 92, 93, 94, 95, 96, 97, 98, 99, 100, 101, 102, 103, 104, 105, 33, 106, 107, 108, 109, 110, 111, 112, 113, 114, 115, 116, 117, 118, 119, 120, 121, 122, 123, 124, 125, 126, 127, 128, 129, 130, 131, 132, 133, 134, 135, 136, 137, 138, 139, 140, 141, 142, 143, 144, 145, 146, 44, 45, 147, 148, 149, 150, 151, 152, 153, 154, 155, 156, 157, 158, 159, 160, 161, 162, 163, 164, 165, 166, 167, 168, 169, 170, 171, 172, 173, 174, 175, 176, 177, 178, 179, 180, 181, 182, 183, 184, 185, 186, 187, 188, 189, 190, 191, 192, 193, 194, 195, 226, 227, 228, 229, 230, 231, 232, 233, 234, 235, 236, 237, 238, 239, 240] (by decide +kernel) (by decide +kernel)
set_option maxRecDepth 20000 in
theorem gX11_judge_X10_turnByTheLeast : GoodIn wsX11_judge (wsV RX11 227 RX10 yX10_turnByTheLeast wsX10_turnByTheLeast) := goodIn_app (goodIn_of _ (by decide +kernel)) ggX11_judge_X10_turnByTheLeast
set_option maxRecDepth 20000 in
theorem ggX11_judge_X7_at : GoodIn wsX11_judge wsX7_at := goodIn_r _ [200, 201, 202, 203, 204, 199, 205, 206, 42, 13, 43, 223, 224, 225] (by decide +kernel) (by decide +kernel)
set_option maxRecDepth 20000 in
theorem gX11_judge_X7_at : GoodIn wsX11_judge (wsV RX11 75 RX7 yX7_at wsX7_at) := goodIn_app (goodIn_of _ (by decide +kernel)) ggX11_judge_X7_at
set_option maxRecDepth 20000 in
theorem ggX11_judge_X7_leastNumber : GoodIn wsX11_judge wsX7_leastNumber := goodIn_r _ [210, 211, 212, 223, 224, 225] (by decide +kernel) (by decide +kernel)
set_option maxRecDepth 20000 in
theorem gX11_judge_X7_leastNumber : GoodIn wsX11_judge (wsV RX11 230 RX7 yX7_leastNumber wsX7_leastNumber) := goodIn_app (goodIn_of _ (by decide +kernel)) ggX11_judge_X7_leastNumber
set_option maxRecDepth 20000 in
theorem ggX11_judge_X10_turnedOf : GoodIn wsX11_judge wsX10_turnedOf := goodIn_r _ [105, 33, 58, 5, 6, 7, 8, 9, 42, 13, 43, 226, 227, 228, 229, 230, 231, 232] (by decide +kernel) (by decide +kernel)
set_option maxRecDepth 20000 in
theorem gX11_judge_X10_turnedOf : GoodIn wsX11_judge (wsV RX11 101 RX10 yX10_turnedOf wsX10_turnedOf) := goodIn_app (goodIn_of _ (by decide +kernel)) ggX11_judge_X10_turnedOf
theorem dX11_judge_0 : decode cX11_judge 0 = .ok (.aload_n 0, 1) := by decide +kernel
theorem dX11_judge_1 : decode cX11_judge 1 = .ok (.getfield 27, 3) := by decide +kernel
theorem dX11_judge_4 : decode cX11_judge 4 = .ok (.iload_n 1, 1) := by decide +kernel
theorem dX11_judge_5 : decode cX11_judge 5 = .ok (.invokevirtual 88, 3) := by decide +kernel
theorem dX11_judge_8 : decode cX11_judge 8 = .ok (.ifCond .ne 5, 3) := by decide +kernel
theorem dX11_judge_11 : decode cX11_judge 11 = .ok (.iconst (-1), 1) := by decide +kernel
theorem dX11_judge_12 : decode cX11_judge 12 = .ok (.ireturn, 1) := by decide +kernel
theorem dX11_judge_13 : decode cX11_judge 13 = .ok (.aload_n 0, 1) := by decide +kernel
theorem dX11_judge_14 : decode cX11_judge 14 = .ok (.iload_n 2, 1) := by decide +kernel
theorem dX11_judge_15 : decode cX11_judge 15 = .ok (.invokevirtual 53, 3) := by decide +kernel
theorem dX11_judge_18 : decode cX11_judge 18 = .ok (.astore_n 3, 1) := by decide +kernel
theorem dX11_judge_19 : decode cX11_judge 19 = .ok (.aload_n 3, 1) := by decide +kernel
theorem dX11_judge_20 : decode cX11_judge 20 = .ok (.ifnonnull 9, 3) := by decide +kernel
theorem dX11_judge_23 : decode cX11_judge 23 = .ok (.aload_n 0, 1) := by decide +kernel
theorem dX11_judge_24 : decode cX11_judge 24 = .ok (.iload_n 2, 1) := by decide +kernel
theorem dX11_judge_25 : decode cX11_judge 25 = .ok (.invokevirtual 57, 3) := by decide +kernel
theorem dX11_judge_28 : decode cX11_judge 28 = .ok (.ireturn, 1) := by decide +kernel
theorem dX11_judge_29 : decode cX11_judge 29 = .ok (.aload_n 0, 1) := by decide +kernel
theorem dX11_judge_30 : decode cX11_judge 30 = .ok (.getfield 31, 3) := by decide +kernel
theorem dX11_judge_33 : decode cX11_judge 33 = .ok (.aload_n 0, 1) := by decide +kernel
theorem dX11_judge_34 : decode cX11_judge 34 = .ok (.getfield 27, 3) := by decide +kernel
theorem dX11_judge_37 : decode cX11_judge 37 = .ok (.invokevirtual 68, 3) := by decide +kernel
theorem dX11_judge_40 : decode cX11_judge 40 = .ok (.iconst 1, 1) := by decide +kernel
theorem dX11_judge_41 : decode cX11_judge 41 = .ok (.istore 4, 2) := by decide +kernel
theorem dX11_judge_43 : decode cX11_judge 43 = .ok (.iconst 0, 1) := by decide +kernel
theorem dX11_judge_44 : decode cX11_judge 44 = .ok (.istore 5, 2) := by decide +kernel
theorem dX11_judge_46 : decode cX11_judge 46 = .ok (.iload 5, 2) := by decide +kernel
theorem dX11_judge_48 : decode cX11_judge 48 = .ok (.aload_n 3, 1) := by decide +kernel
theorem dX11_judge_49 : decode cX11_judge 49 = .ok (.getfield 72, 3) := by decide +kernel
theorem dX11_judge_52 : decode cX11_judge 52 = .ok (.if_icmp .ge 75, 3) := by decide +kernel
theorem dX11_judge_55 : decode cX11_judge 55 = .ok (.iload 5, 2) := by decide +kernel
theorem dX11_judge_57 : decode cX11_judge 57 = .ok (.ifCond .le 26, 3) := by decide +kernel
theorem dX11_judge_60 : decode cX11_judge 60 = .ok (.iload 4, 2) := by decide +kernel
theorem dX11_judge_62 : decode cX11_judge 62 = .ok (.ifCond .eq 18, 3) := by decide +kernel
theorem dX11_judge_65 : decode cX11_judge 65 = .ok (.aload_n 0, 1) := by decide +kernel
theorem dX11_judge_66 : decode cX11_judge 66 = .ok (.getfield 31, 3) := by decide +kernel
theorem dX11_judge_69 : decode cX11_judge 69 = .ok (.iload_n 1, 1) := by decide +kernel
theorem dX11_judge_70 : decode cX11_judge 70 = .ok (.invokevirtual 227, 3) := by decide +kernel
theorem dX11_judge_73 : decode cX11_judge 73 = .ok (.ifCond .eq 7, 3) := by decide +kernel
theorem dX11_judge_76 : decode cX11_judge 76 = .ok (.iconst 1, 1) := by decide +kernel
theorem dX11_judge_77 : decode cX11_judge 77 = .ok (.goto 4, 3) := by decide +kernel
theorem dX11_judge_80 : decode cX11_judge 80 = .ok (.iconst 0, 1) := by decide +kernel
theorem dX11_judge_81 : decode cX11_judge 81 = .ok (.istore 4, 2) := by decide +kernel
theorem dX11_judge_83 : decode cX11_judge 83 = .ok (.aload_n 3, 1) := by decide +kernel
theorem dX11_judge_84 : decode cX11_judge 84 = .ok (.iload 5, 2) := by decide +kernel
theorem dX11_judge_86 : decode cX11_judge 86 = .ok (.invokevirtual 75, 3) := by decide +kernel
theorem dX11_judge_89 : decode cX11_judge 89 = .ok (.istore 6, 2) := by decide +kernel
theorem dX11_judge_91 : decode cX11_judge 91 = .ok (.iload 6, 2) := by decide +kernel
theorem dX11_judge_93 : decode cX11_judge 93 = .ok (.aload_n 3, 1) := by decide +kernel
theorem dX11_judge_94 : decode cX11_judge 94 = .ok (.invokevirtual 230, 3) := by decide +kernel
theorem dX11_judge_97 : decode cX11_judge 97 = .ok (.if_icmp .eq 24, 3) := by decide +kernel
theorem dX11_judge_100 : decode cX11_judge 100 = .ok (.iload 4, 2) := by decide +kernel
theorem dX11_judge_102 : decode cX11_judge 102 = .ok (.ifCond .eq 16, 3) := by decide +kernel
theorem dX11_judge_105 : decode cX11_judge 105 = .ok (.iload 6, 2) := by decide +kernel
theorem dX11_judge_107 : decode cX11_judge 107 = .ok (.aload_n 0, 1) := by decide +kernel
theorem dX11_judge_108 : decode cX11_judge 108 = .ok (.getfield 31, 3) := by decide +kernel
theorem dX11_judge_111 : decode cX11_judge 111 = .ok (.iload_n 1, 1) := by decide +kernel
theorem dX11_judge_112 : decode cX11_judge 112 = .ok (.invokevirtual 101, 3) := by decide +kernel
theorem dX11_judge_115 : decode cX11_judge 115 = .ok (.if_icmp .eq 6, 3) := by decide +kernel
theorem dX11_judge_118 : decode cX11_judge 118 = .ok (.iload 5, 2) := by decide +kernel
theorem dX11_judge_120 : decode cX11_judge 120 = .ok (.ireturn, 1) := by decide +kernel
theorem dX11_judge_121 : decode cX11_judge 121 = .ok (.iinc 5 1, 3) := by decide +kernel
theorem dX11_judge_124 : decode cX11_judge 124 = .ok (.goto (-78), 3) := by decide +kernel
theorem dX11_judge_127 : decode cX11_judge 127 = .ok (.bipush (-4), 2) := by decide +kernel
theorem dX11_judge_129 : decode cX11_judge 129 = .ok (.ireturn, 1) := by decide +kernel
set_option maxRecDepth 20000 in
theorem ggX11_months_X11_isOneOfTwo : GoodIn wsX11_months wsX11_isOneOfTwo := goodIn_r _ [8] (by decide +kernel) (by decide +kernel)
set_option maxRecDepth 20000 in
theorem gX11_months_X11_isOneOfTwo : GoodIn wsX11_months (va_wsS RX11 172 yX11_isOneOfTwo wsX11_isOneOfTwo) := goodIn_app (goodIn_of _ (by decide +kernel)) ggX11_months_X11_isOneOfTwo
set_option maxRecDepth 20000 in
theorem ggX11_months_X10_become : GoodIn wsX11_months wsX10_become := goodIn_r _ [13, 14, 15, 16, 17, 18, 19, 20, 21, 22, 12, 23, 24, 25, 7, 26, 27, 28, 202, 203, 204, 205, 206, 207, 208] (by decide +kernel) (by decide +kernel)
set_option maxRecDepth 20000 in
theorem gX11_months_X10_become : GoodIn wsX11_months (wsV RX11 68 RX10 yX10_become wsX10_become) := goodIn_app (goodIn_of _ (by decide +kernel)) ggX11_months_X10_become
set_option maxRecDepth 20000 in
theorem ggX11_months_X11_draw : GoodIn wsX11_months wsX11_draw := goodIn_r _ [32, 3, 33, 34, 35, 193, 194, 195, 196, 197, 198, 199, 200, 201] (by decide +kernel) (by decide +kernel)
set_option maxRecDepth 20000 in
theorem gX11_months_X11_draw : GoodIn wsX11_months (wsV RX11 233 RX11 yX11_draw wsX11_draw) := goodIn_app (goodIn_of _ (by decide +kernel)) ggX11_months_X11_draw
set_option maxRecDepth 20000 in
theorem ggX11_months_X10_turnElseSee : GoodIn wsX11_months wsX10_turnElseSee := goodIn_r _ [39, 18, 40, 41, 42, 12, 43, 44, 45, 46, 47, 48, 49, 50, 51, 17, 52, 53, 54, 55, 16, 25, 7, 26, 20, 21, 22, 23, 14, 24, 56, 57, 58, 59, 60, 61, 62, 63, 64, 65, 66, 67, 68, 69, 70, 71, 72, 73, 74, 75, 76, 77, 78, 79, 80, 81, 82, 83, 84, 85, 86, 87, 88, 89, 90, 91, 92, 93, 94, 95, 96, 97, 98, 15, 99, 100, 101, 102, 103, 104, 105, 106, 107, 108, 109, 110, 111, 112, 113, 114, 115, 116, 117, 118, 119, 120, 121, 122, 123, 124, 125, 126, 127, 128, 129, 130, 131, 132, 133, 134, 135, 136, 137, 138, 139, 27, 28, 140, 141, 142, 143, 144, 145, 146, 147, 148, 149, 150, 151, 152, 153, 154, 155, 156, 157, 158, 159, 160, 161, 162, 163, 164, 165, 166, 167, 168, 169, 170, 171, 172, 173, 174, 175, 176, 177, 178, 179, 180, 181, 182, 183, 184, 185, 186, 187, 188, 202, 203, 204, 205, 206, 207, 208, 209, 210, 211, 212, 213, 214, 215, 216] (by decide +kernel) (by decide +kernel)
set_option maxRecDepth 20000 in
theorem gX11_months_X10_turnElseSee : GoodIn wsX11_months (wsV RX11 236 RX10 yX10_turnElseSee wsX10_turnElseSee) := goodIn_app (goodIn_of _ (by decide +kernel)) ggX11_months_X10_turnElseSee
set_option maxRecDepth 20000 in
theorem ggX11_months_X10_allTurned : GoodIn wsX11_months wsX10_allTurned := goodIn_r _ [192, 17, 95, 96, 97, 12, 98, 15, 48, 49, 50, 51, 25, 7, 26, 202, 203, 204, 205, 206, 207, 208] (by decide +kernel) (by decide +kernel)
set_option maxRecDepth 20000 in
theorem gX11_months_X10_allTurned : GoodIn wsX11_months (wsV RX11 239 RX10 yX10_allTurned wsX10_allTurned) := goodIn_app (goodIn_of _ (by decide +kernel)) ggX11_months_X10_allTurned
theorem dX11_months_0 : decode cX11_months 0 = .ok (.iload_n 1, 1) := by decide +kernel
theorem dX11_months_1 : decode cX11_months 1 = .ok (.iconst 1, 1) := by decide +kernel
theorem dX11_months_2 : decode cX11_months 2 = .ok (.if_icmp .lt 16, 3) := by decide +kernel
theorem dX11_months_5 : decode cX11_months 5 = .ok (.iload_n 1, 1) := by decide +kernel
theorem dX11_months_6 : decode cX11_months 6 = .ok (.bipush 20, 2) := by decide +kernel
theorem dX11_months_8 : decode cX11_months 8 = .ok (.if_icmp .gt 10, 3) := by decide +kernel
theorem dX11_months_11 : decode cX11_months 11 = .ok (.iload_n 3, 1) := by decide +kernel
theorem dX11_months_12 : decode cX11_months 12 = .ok (.invokestatic 172, 3) := by decide +kernel
theorem dX11_months_15 : decode cX11_months 15 = .ok (.ifCond .ne 5, 3) := by decide +kernel
theorem dX11_months_18 : decode cX11_months 18 = .ok (.iconst (-1), 1) := by decide +kernel
theorem dX11_months_19 : decode cX11_months 19 = .ok (.ireturn, 1) := by decide +kernel
theorem dX11_months_20 : decode cX11_months 20 = .ok (.aload_n 0, 1) := by decide +kernel
theorem dX11_months_21 : decode cX11_months 21 = .ok (.getfield 27, 3) := by decide +kernel
theorem dX11_months_24 : decode cX11_months 24 = .ok (.getfield 131, 3) := by decide +kernel
theorem dX11_months_27 : decode cX11_months 27 = .ok (.ifCond .ne 6, 3) := by decide +kernel
theorem dX11_months_30 : decode cX11_months 30 = .ok (.bipush (-3), 2) := by decide +kernel
theorem dX11_months_32 : decode cX11_months 32 = .ok (.ireturn, 1) := by decide +kernel
theorem dX11_months_33 : decode cX11_months 33 = .ok (.aload_n 0, 1) := by decide +kernel
theorem dX11_months_34 : decode cX11_months 34 = .ok (.iload_n 2, 1) := by decide +kernel
theorem dX11_months_35 : decode cX11_months 35 = .ok (.putfield 48, 3) := by decide +kernel
theorem dX11_months_38 : decode cX11_months 38 = .ok (.iconst 0, 1) := by decide +kernel
theorem dX11_months_39 : decode cX11_months 39 = .ok (.istore 4, 2) := by decide +kernel
theorem dX11_months_41 : decode cX11_months 41 = .ok (.iconst 0, 1) := by decide +kernel
theorem dX11_months_42 : decode cX11_months 42 = .ok (.istore 5, 2) := by decide +kernel
theorem dX11_months_44 : decode cX11_months 44 = .ok (.iconst 0, 1) := by decide +kernel
theorem dX11_months_45 : decode cX11_months 45 = .ok (.istore 6, 2) := by decide +kernel
theorem dX11_months_47 : decode cX11_months 47 = .ok (.iload 6, 2) := by decide +kernel
theorem dX11_months_49 : decode cX11_months 49 = .ok (.iload_n 1, 1) := by decide +kernel
theorem dX11_months_50 : decode cX11_months 50 = .ok (.if_icmp .ge 98, 3) := by decide +kernel
theorem dX11_months_53 : decode cX11_months 53 = .ok (.aload_n 0, 1) := by decide +kernel
theorem dX11_months_54 : decode cX11_months 54 = .ok (.getfield 31, 3) := by decide +kernel
theorem dX11_months_57 : decode cX11_months 57 = .ok (.aload_n 0, 1) := by decide +kernel
theorem dX11_months_58 : decode cX11_months 58 = .ok (.getfield 27, 3) := by decide +kernel
theorem dX11_months_61 : decode cX11_months 61 = .ok (.invokevirtual 68, 3) := by decide +kernel
theorem dX11_months_64 : decode cX11_months 64 = .ok (.iconst 0, 1) := by decide +kernel
theorem dX11_months_65 : decode cX11_months 65 = .ok (.istore 7, 2) := by decide +kernel
theorem dX11_months_67 : decode cX11_months 67 = .ok (.iload 7, 2) := by decide +kernel
theorem dX11_months_69 : decode cX11_months 69 = .ok (.bipush 10, 2) := by decide +kernel
theorem dX11_months_71 : decode cX11_months 71 = .ok (.if_icmp .ge 59, 3) := by decide +kernel
theorem dX11_months_74 : decode cX11_months 74 = .ok (.aload_n 0, 1) := by decide +kernel
theorem dX11_months_75 : decode cX11_months 75 = .ok (.aload_n 0, 1) := by decide +kernel
theorem dX11_months_76 : decode cX11_months 76 = .ok (.getfield 31, 3) := by decide +kernel
theorem dX11_months_79 : decode cX11_months 79 = .ok (.getfield 131, 3) := by decide +kernel
theorem dX11_months_82 : decode cX11_months 82 = .ok (.invokevirtual 233, 3) := by decide +kernel
theorem dX11_months_85 : decode cX11_months 85 = .ok (.istore 8, 2) := by decide +kernel
theorem dX11_months_87 : decode cX11_months 87 = .ok (.aload_n 0, 1) := by decide +kernel
theorem dX11_months_88 : decode cX11_months 88 = .ok (.aload_n 0, 1) := by decide +kernel
theorem dX11_months_89 : decode cX11_months 89 = .ok (.getfield 31, 3) := by decide +kernel
theorem dX11_months_92 : decode cX11_months 92 = .ok (.getfield 131, 3) := by decide +kernel
theorem dX11_months_95 : decode cX11_months 95 = .ok (.invokevirtual 233, 3) := by decide +kernel
theorem dX11_months_98 : decode cX11_months 98 = .ok (.istore 9, 2) := by decide +kernel
theorem dX11_months_100 : decode cX11_months 100 = .ok (.iload 5, 2) := by decide +kernel
theorem dX11_months_102 : decode cX11_months 102 = .ok (.aload_n 0, 1) := by decide +kernel
theorem dX11_months_103 : decode cX11_months 103 = .ok (.getfield 31, 3) := by decide +kernel
theorem dX11_months_106 : decode cX11_months 106 = .ok (.iload 8, 2) := by decide +kernel
theorem dX11_months_108 : decode cX11_months 108 = .ok (.iload 9, 2) := by decide +kernel
theorem dX11_months_110 : decode cX11_months 110 = .ok (.invokevirtual 236, 3) := by decide +kernel
theorem dX11_months_113 : decode cX11_months 113 = .ok (.ifCond .eq 7, 3) := by decide +kernel
theorem dX11_months_116 : decode cX11_months 116 = .ok (.iconst 1, 1) := by decide +kernel
theorem dX11_months_117 : decode cX11_months 117 = .ok (.goto 4, 3) := by decide +kernel
theorem dX11_months_120 : decode cX11_months 120 = .ok (.iconst 0, 1) := by decide +kernel
theorem dX11_months_121 : decode cX11_months 121 = .ok (.iadd, 1) := by decide +kernel
theorem dX11_months_122 : decode cX11_months 122 = .ok (.istore 5, 2) := by decide +kernel
theorem dX11_months_124 : decode cX11_months 124 = .ok (.iinc 7 1, 3) := by decide +kernel
theorem dX11_months_127 : decode cX11_months 127 = .ok (.goto (-60), 3) := by decide +kernel
theorem dX11_months_130 : decode cX11_months 130 = .ok (.iload 4, 2) := by decide +kernel
theorem dX11_months_132 : decode cX11_months 132 = .ok (.aload_n 0, 1) := by decide +kernel
theorem dX11_months_133 : decode cX11_months 133 = .ok (.getfield 31, 3) := by decide +kernel
theorem dX11_months_136 : decode cX11_months 136 = .ok (.invokevirtual 239, 3) := by decide +kernel
theorem dX11_months_139 : decode cX11_months 139 = .ok (.iadd, 1) := by decide +kernel
theorem dX11_months_140 : decode cX11_months 140 = .ok (.istore 4, 2) := by decide +kernel
theorem dX11_months_142 : decode cX11_months 142 = .ok (.iinc 6 1, 3) := by decide +kernel
theorem dX11_months_145 : decode cX11_months 145 = .ok (.goto (-98), 3) := by decide +kernel
theorem dX11_months_148 : decode cX11_months 148 = .ok (.iload_n 3, 1) := by decide +kernel
theorem dX11_months_149 : decode cX11_months 149 = .ok (.ifCond .ne 8, 3) := by decide +kernel
theorem dX11_months_152 : decode cX11_months 152 = .ok (.iload 4, 2) := by decide +kernel
theorem dX11_months_154 : decode cX11_months 154 = .ok (.goto 5, 3) := by decide +kernel
theorem dX11_months_157 : decode cX11_months 157 = .ok (.iload 5, 2) := by decide +kernel
theorem dX11_months_159 : decode cX11_months 159 = .ok (.ireturn, 1) := by decide +kernel
set_option maxRecDepth 20000 in
theorem ggX11_image_X10_become : GoodIn wsX11_image wsX10_become := goodIn_r _ [9, 10, 11, 12, 13, 14, 15, 16, 17, 18, 8, 19, 20, 21, 22, 23, 24, 25, 35, 36, 37, 38, 39, 40, 41] (by decide +kernel) (by decide +kernel)
set_option maxRecDepth 20000 in
theorem gX11_image_X10_become : GoodIn wsX11_image (wsV RX11 68 RX10 yX10_become wsX10_become) := goodIn_app (goodIn_of _ (by decide +kernel)) ggX11_image_X10_become
theorem dX11_image_0 : decode cX11_image 0 = .ok (.aload_n 0, 1) := by decide +kernel
theorem dX11_image_1 : decode cX11_image 1 = .ok (.getfield 34, 3) := by decide +kernel
theorem dX11_image_4 : decode cX11_image 4 = .ok (.aload_n 0, 1) := by decide +kernel
theorem dX11_image_5 : decode cX11_image 5 = .ok (.getfield 27, 3) := by decide +kernel
theorem dX11_image_8 : decode cX11_image 8 = .ok (.invokevirtual 68, 3) := by decide +kernel
theorem dX11_image_11 : decode cX11_image 11 = .ok (.aload_n 0, 1) := by decide +kernel
theorem dX11_image_12 : decode cX11_image 12 = .ok (.iconst 1, 1) := by decide +kernel
theorem dX11_image_13 : decode cX11_image 13 = .ok (.putfield 44, 3) := by decide +kernel
theorem dX11_image_16 : decode cX11_image 16 = .ok (.aload_n 0, 1) := by decide +kernel
theorem dX11_image_17 : decode cX11_image 17 = .ok (.getfield 27, 3) := by decide +kernel
theorem dX11_image_20 : decode cX11_image 20 = .ok (.getfield 153, 3) := by decide +kernel
theorem dX11_image_23 : decode cX11_image 23 = .ok (.ireturn, 1) := by decide +kernel
set_option maxRecDepth 20000 in
theorem ggX11_restore_X10_become : GoodIn wsX11_restore wsX10_become := goodIn_r _ [9, 10, 11, 12, 13, 14, 15, 16, 17, 18, 8, 19, 20, 21, 22, 23, 24, 25, 35, 36, 37, 38, 39, 40, 41] (by decide +kernel) (by decide +kernel)
set_option maxRecDepth 20000 in
theorem gX11_restore_X10_become : GoodIn wsX11_restore (wsV RX11 68 RX10 yX10_become wsX10_become) := goodIn_app (goodIn_of _ (by decide +kernel)) ggX11_restore_X10_become
theorem dX11_restore_0 : decode cX11_restore 0 = .ok (.aload_n 0, 1) := by decide +kernel
theorem dX11_restore_1 : decode cX11_restore 1 = .ok (.getfield 44, 3) := by decide +kernel
theorem dX11_restore_4 : decode cX11_restore 4 = .ok (.ifCond .ne 6, 3) := by decide +kernel
theorem dX11_restore_7 : decode cX11_restore 7 = .ok (.bipush (-3), 2) := by decide +kernel
theorem dX11_restore_9 : decode cX11_restore 9 = .ok (.ireturn, 1) := by decide +kernel
theorem dX11_restore_10 : decode cX11_restore 10 = .ok (.aload_n 0, 1) := by decide +kernel
theorem dX11_restore_11 : decode cX11_restore 11 = .ok (.getfield 27, 3) := by decide +kernel
theorem dX11_restore_14 : decode cX11_restore 14 = .ok (.aload_n 0, 1) := by decide +kernel
theorem dX11_restore_15 : decode cX11_restore 15 = .ok (.getfield 34, 3) := by decide +kernel
theorem dX11_restore_18 : decode cX11_restore 18 = .ok (.invokevirtual 68, 3) := by decide +kernel
theorem dX11_restore_21 : decode cX11_restore 21 = .ok (.aload_n 0, 1) := by decide +kernel
theorem dX11_restore_22 : decode cX11_restore 22 = .ok (.getfield 27, 3) := by decide +kernel
theorem dX11_restore_25 : decode cX11_restore 25 = .ok (.getfield 153, 3) := by decide +kernel
theorem dX11_restore_28 : decode cX11_restore 28 = .ok (.ireturn, 1) := by decide +kernel
set_option maxRecDepth 20000 in
theorem ggX11_count_X10_allTurned : GoodIn wsX11_count wsX10_allTurned := goodIn_r _ [9, 10, 11, 12, 13, 8, 14, 15, 16, 17, 18, 19, 20, 21, 22, 49, 50, 51, 52, 53, 54, 55] (by decide +kernel) (by decide +kernel)
set_option maxRecDepth 20000 in
theorem gX11_count_X10_allTurned : GoodIn wsX11_count (wsV RX11 239 RX10 yX10_allTurned wsX10_allTurned) := goodIn_app (goodIn_of _ (by decide +kernel)) ggX11_count_X10_allTurned
set_option maxRecDepth 20000 in
theorem ggX11_count_X10_allFond : GoodIn wsX11_count wsX10_allFond := goodIn_r _ [26, 10, 27, 28, 29, 8, 30, 31, 32, 33, 34, 35, 16, 17, 18, 19, 20, 21, 22, 49, 50, 51, 52, 53, 54, 55] (by decide +kernel) (by decide +kernel)
set_option maxRecDepth 20000 in
theorem gX11_count_X10_allFond : GoodIn wsX11_count (wsV RX11 242 RX10 yX10_allFond wsX10_allFond) := goodIn_app (goodIn_of _ (by decide +kernel)) ggX11_count_X10_allFond
set_option maxRecDepth 20000 in
theorem ggX11_count_X10_toldWhole : GoodIn wsX11_count wsX10_toldWhole := goodIn_r _ [39, 10, 11, 12, 13, 8, 14, 15, 16, 17, 18, 19, 20, 21, 22, 49, 50, 51, 52, 53, 54, 55] (by decide +kernel) (by decide +kernel)
set_option maxRecDepth 20000 in
theorem gX11_count_X10_toldWhole : GoodIn wsX11_count (wsV RX11 245 RX10 yX10_toldWhole wsX10_toldWhole) := goodIn_app (goodIn_of _ (by decide +kernel)) ggX11_count_X10_toldWhole
theorem dX11_count_0 : decode cX11_count 0 = .ok (.iload_n 1, 1) := by decide +kernel
theorem dX11_count_1 : decode cX11_count 1 = .ok (.tableswitch 87 0 5 #[39, 47, 55, 63, 71, 79], 39) := by decide +kernel
theorem dX11_count_40 : decode cX11_count 40 = .ok (.aload_n 0, 1) := by decide +kernel
theorem dX11_count_41 : decode cX11_count 41 = .ok (.getfield 27, 3) := by decide +kernel
theorem dX11_count_44 : decode cX11_count 44 = .ok (.getfield 131, 3) := by decide +kernel
theorem dX11_count_47 : decode cX11_count 47 = .ok (.ireturn, 1) := by decide +kernel
theorem dX11_count_48 : decode cX11_count 48 = .ok (.aload_n 0, 1) := by decide +kernel
theorem dX11_count_49 : decode cX11_count 49 = .ok (.getfield 27, 3) := by decide +kernel
theorem dX11_count_52 : decode cX11_count 52 = .ok (.getfield 153, 3) := by decide +kernel
theorem dX11_count_55 : decode cX11_count 55 = .ok (.ireturn, 1) := by decide +kernel
theorem dX11_count_56 : decode cX11_count 56 = .ok (.aload_n 0, 1) := by decide +kernel
theorem dX11_count_57 : decode cX11_count 57 = .ok (.getfield 27, 3) := by decide +kernel
theorem dX11_count_60 : decode cX11_count 60 = .ok (.getfield 138, 3) := by decide +kernel
theorem dX11_count_63 : decode cX11_count 63 = .ok (.ireturn, 1) := by decide +kernel
theorem dX11_count_64 : decode cX11_count 64 = .ok (.aload_n 0, 1) := by decide +kernel
theorem dX11_count_65 : decode cX11_count 65 = .ok (.getfield 27, 3) := by decide +kernel
theorem dX11_count_68 : decode cX11_count 68 = .ok (.invokevirtual 239, 3) := by decide +kernel
theorem dX11_count_71 : decode cX11_count 71 = .ok (.ireturn, 1) := by decide +kernel
theorem dX11_count_72 : decode cX11_count 72 = .ok (.aload_n 0, 1) := by decide +kernel
theorem dX11_count_73 : decode cX11_count 73 = .ok (.getfield 27, 3) := by decide +kernel
theorem dX11_count_76 : decode cX11_count 76 = .ok (.invokevirtual 242, 3) := by decide +kernel
theorem dX11_count_79 : decode cX11_count 79 = .ok (.ireturn, 1) := by decide +kernel
theorem dX11_count_80 : decode cX11_count 80 = .ok (.aload_n 0, 1) := by decide +kernel
theorem dX11_count_81 : decode cX11_count 81 = .ok (.getfield 27, 3) := by decide +kernel
theorem dX11_count_84 : decode cX11_count 84 = .ok (.invokevirtual 245, 3) := by decide +kernel
theorem dX11_count_87 : decode cX11_count 87 = .ok (.ireturn, 1) := by decide +kernel
theorem dX11_count_88 : decode cX11_count 88 = .ok (.iconst (-1), 1) := by decide +kernel
theorem dX11_count_89 : decode cX11_count 89 = .ok (.ireturn, 1) := by decide +kernel
set_option maxRecDepth 20000 in
theorem ggX11_keep_X11_isShelf : GoodIn wsX11_keep wsX11_isShelf := goodIn_r _ [4] (by decide +kernel) (by decide +kernel)
set_option maxRecDepth 20000 in
theorem gX11_keep_X11_isShelf : GoodIn wsX11_keep (va_wsS RX11 248 yX11_isShelf wsX11_isShelf) := goodIn_app (goodIn_of _ (by decide +kernel)) ggX11_keep_X11_isShelf
set_option maxRecDepth 20000 in
theorem ggX11_keep_X11_isOneOfTwo : GoodIn wsX11_keep wsX11_isOneOfTwo := goodIn_r _ [7] (by decide +kernel) (by decide +kernel)
set_option maxRecDepth 20000 in
theorem gX11_keep_X11_isOneOfTwo : GoodIn wsX11_keep (va_wsS RX11 172 yX11_isOneOfTwo wsX11_isOneOfTwo) := goodIn_app (goodIn_of _ (by decide +kernel)) ggX11_keep_X11_isOneOfTwo
set_option maxRecDepth 20000 in
theorem ggX11_keep_X11_personOf : GoodIn wsX11_keep wsX11_personOf := goodIn_r _ [10, 11, 12, 13, 14, 15, 16, 17, 18, 19, 20, 21, 22, 23, 24, 25, 26, 27, 28, 29, 30, 31, 32, 33, 34, 35, 36, 37, 38, 39, 40, 41, 42, 43, 44, 45, 46, 47, 48, 49, 50, 51, 52, 53, 54, 55, 56, 57, 58, 59, 60, 61, 62, 63, 64, 65, 66, 67, 68, 69, 76, 77, 78, 79, 80, 81, 82, 83] (by decide +kernel) (by decide +kernel)
set_option maxRecDepth 20000 in
theorem gX11_keep_X11_personOf : GoodIn wsX11_keep (va_wsS RX11 251 yX11_personOf wsX11_personOf) := goodIn_app (goodIn_of _ (by decide +kernel)) ggX11_keep_X11_personOf
set_option maxRecDepth 20000 in
theorem ggX11_keep_X11_lay : GoodIn wsX11_keep wsX11_lay := goodIn_r _ [73, 74, 75, 84, 85, 86, 87, 88, 89, 90, 91, 92] (by decide +kernel) (by decide +kernel)
set_option maxRecDepth 20000 in
theorem gX11_keep_X11_lay : GoodIn wsX11_keep (wsV RX11 255 RX11 yX11_lay wsX11_lay) := goodIn_app (goodIn_of _ (by decide +kernel)) ggX11_keep_X11_lay
theorem dX11_keep_0 : decode cX11_keep 0 = .ok (.iload_n 1, 1) := by decide +kernel
theorem dX11_keep_1 : decode cX11_keep 1 = .ok (.invokestatic 248, 3) := by decide +kernel
theorem dX11_keep_4 : decode cX11_keep 4 = .ok (.ifCond .eq 10, 3) := by decide +kernel
theorem dX11_keep_7 : decode cX11_keep 7 = .ok (.iload_n 2, 1) := by decide +kernel
theorem dX11_keep_8 : decode cX11_keep 8 = .ok (.invokestatic 172, 3) := by decide +kernel
theorem dX11_keep_11 : decode cX11_keep 11 = .ok (.ifCond .ne 5, 3) := by decide +kernel
theorem dX11_keep_14 : decode cX11_keep 14 = .ok (.iconst (-1), 1) := by decide +kernel
theorem dX11_keep_15 : decode cX11_keep 15 = .ok (.ireturn, 1) := by decide +kernel
theorem dX11_keep_16 : decode cX11_keep 16 = .ok (.iload_n 2, 1) := by decide +kernel
theorem dX11_keep_17 : decode cX11_keep 17 = .ok (.iconst 1, 1) := by decide +kernel
theorem dX11_keep_18 : decode cX11_keep 18 = .ok (.if_icmp .ne 27, 3) := by decide +kernel
theorem dX11_keep_21 : decode cX11_keep 21 = .ok (.iload_n 3, 1) := by decide +kernel
theorem dX11_keep_22 : decode cX11_keep 22 = .ok (.ifCond .lt 21, 3) := by decide +kernel
theorem dX11_keep_25 : decode cX11_keep 25 = .ok (.iload_n 3, 1) := by decide +kernel
theorem dX11_keep_26 : decode cX11_keep 26 = .ok (.bipush 8, 2) := by decide +kernel
theorem dX11_keep_28 : decode cX11_keep 28 = .ok (.if_icmp .ge 15, 3) := by decide +kernel
theorem dX11_keep_31 : decode cX11_keep 31 = .ok (.iload 4, 2) := by decide +kernel
theorem dX11_keep_33 : decode cX11_keep 33 = .ok (.ifCond .lt 10, 3) := by decide +kernel
theorem dX11_keep_36 : decode cX11_keep 36 = .ok (.iload 4, 2) := by decide +kernel
theorem dX11_keep_38 : decode cX11_keep 38 = .ok (.bipush 9, 2) := by decide +kernel
theorem dX11_keep_40 : decode cX11_keep 40 = .ok (.if_icmp .le 5, 3) := by decide +kernel
theorem dX11_keep_43 : decode cX11_keep 43 = .ok (.iconst (-1), 1) := by decide +kernel
theorem dX11_keep_44 : decode cX11_keep 44 = .ok (.ireturn, 1) := by decide +kernel
theorem dX11_keep_45 : decode cX11_keep 45 = .ok (.aload_n 0, 1) := by decide +kernel
theorem dX11_keep_46 : decode cX11_keep 46 = .ok (.iload_n 1, 1) := by decide +kernel
theorem dX11_keep_47 : decode cX11_keep 47 = .ok (.iload_n 2, 1) := by decide +kernel
theorem dX11_keep_48 : decode cX11_keep 48 = .ok (.iconst 1, 1) := by decide +kernel
theorem dX11_keep_49 : decode cX11_keep 49 = .ok (.if_icmp .ne 12, 3) := by decide +kernel
theorem dX11_keep_52 : decode cX11_keep 52 = .ok (.iload_n 3, 1) := by decide +kernel
theorem dX11_keep_53 : decode cX11_keep 53 = .ok (.iload 4, 2) := by decide +kernel
theorem dX11_keep_55 : decode cX11_keep 55 = .ok (.invokestatic 251, 3) := by decide +kernel
theorem dX11_keep_58 : decode cX11_keep 58 = .ok (.goto 4, 3) := by decide +kernel
theorem dX11_keep_61 : decode cX11_keep 61 = .ok (.aconst_null, 1) := by decide +kernel
theorem dX11_keep_62 : decode cX11_keep 62 = .ok (.aconst_null, 1) := by decide +kernel
theorem dX11_keep_63 : decode cX11_keep 63 = .ok (.invokevirtual 255, 3) := by decide +kernel
theorem dX11_keep_66 : decode cX11_keep 66 = .ok (.iconst 0, 1) := by decide +kernel
theorem dX11_keep_67 : decode cX11_keep 67 = .ok (.ireturn, 1) := by decide +kernel
set_option maxRecDepth 20000 in
theorem ggX11_row_X11_isShelf : GoodIn wsX11_row wsX11_isShelf := goodIn_r _ [5] (by decide +kernel) (by decide +kernel)
set_option maxRecDepth 20000 in
theorem gX11_row_X11_isShelf : GoodIn wsX11_row (va_wsS RX11 248 yX11_isShelf wsX11_isShelf) := goodIn_app (goodIn_of _ (by decide +kernel)) ggX11_row_X11_isShelf
set_option maxRecDepth 20000 in
theorem ggX11_row_X7_beginAnew : GoodIn wsX11_row wsX7_beginAnew := goodIn_r _ [10, 11, 12, 13, 29, 30, 31] (by decide +kernel) (by decide +kernel)
set_option maxRecDepth 20000 in
theorem gX11_row_X7_beginAnew : GoodIn wsX11_row (wsV RX11 259 RX7 yX7_beginAnew wsX7_beginAnew) := goodIn_app (goodIn_of _ (by decide +kernel)) ggX11_row_X7_beginAnew
set_option maxRecDepth 20000 in
theorem ggX11_row_X11_lay : GoodIn wsX11_row wsX11_lay := goodIn_r _ [17, 18, 19, 20, 21, 22, 23, 24, 25, 26, 27, 28] (by decide +kernel) (by decide +kernel)
set_option maxRecDepth 20000 in
theorem gX11_row_X11_lay : GoodIn wsX11_row (wsV RX11 255 RX11 yX11_lay wsX11_lay) := goodIn_app (goodIn_of _ (by decide +kernel)) ggX11_row_X11_lay
theorem dX11_row_0 : decode cX11_row 0 = .ok (.iload_n 1, 1) := by decide +kernel
theorem dX11_row_1 : decode cX11_row 1 = .ok (.invokestatic 248, 3) := by decide +kernel
theorem dX11_row_4 : decode cX11_row 4 = .ok (.ifCond .eq 18, 3) := by decide +kernel
theorem dX11_row_7 : decode cX11_row 7 = .ok (.iload_n 2, 1) := by decide +kernel
theorem dX11_row_8 : decode cX11_row 8 = .ok (.ifCond .lt 14, 3) := by decide +kernel
theorem dX11_row_11 : decode cX11_row 11 = .ok (.iload_n 2, 1) := by decide +kernel
theorem dX11_row_12 : decode cX11_row 12 = .ok (.iconst 2, 1) := by decide +kernel
theorem dX11_row_13 : decode cX11_row 13 = .ok (.if_icmp .gt 9, 3) := by decide +kernel
theorem dX11_row_16 : decode cX11_row 16 = .ok (.iload_n 3, 1) := by decide +kernel
theorem dX11_row_17 : decode cX11_row 17 = .ok (.bipush 100, 2) := by decide +kernel
theorem dX11_row_19 : decode cX11_row 19 = .ok (.if_icmp .le 5, 3) := by decide +kernel
theorem dX11_row_22 : decode cX11_row 22 = .ok (.iconst (-1), 1) := by decide +kernel
theorem dX11_row_23 : decode cX11_row 23 = .ok (.ireturn, 1) := by decide +kernel
theorem dX11_row_24 : decode cX11_row 24 = .ok (.iload_n 3, 1) := by decide +kernel
theorem dX11_row_25 : decode cX11_row 25 = .ok (.ifCond .ge 6, 3) := by decide +kernel
theorem dX11_row_28 : decode cX11_row 28 = .ok (.bipush (-14), 2) := by decide +kernel
theorem dX11_row_30 : decode cX11_row 30 = .ok (.ireturn, 1) := by decide +kernel
theorem dX11_row_31 : decode cX11_row 31 = .ok (.iload_n 1, 1) := by decide +kernel
theorem dX11_row_32 : decode cX11_row 32 = .ok (.aload_n 0, 1) := by decide +kernel
theorem dX11_row_33 : decode cX11_row 33 = .ok (.getfield 21, 3) := by decide +kernel
theorem dX11_row_36 : decode cX11_row 36 = .ok (.arraylength, 1) := by decide +kernel
theorem dX11_row_37 : decode cX11_row 37 = .ok (.if_icmp .ge 12, 3) := by decide +kernel
theorem dX11_row_40 : decode cX11_row 40 = .ok (.aload_n 0, 1) := by decide +kernel
theorem dX11_row_41 : decode cX11_row 41 = .ok (.getfield 21, 3) := by decide +kernel
theorem dX11_row_44 : decode cX11_row 44 = .ok (.iload_n 1, 1) := by decide +kernel
theorem dX11_row_45 : decode cX11_row 45 = .ok (.aaload, 1) := by decide +kernel
theorem dX11_row_46 : decode cX11_row 46 = .ok (.goto 4, 3) := by decide +kernel
theorem dX11_row_49 : decode cX11_row 49 = .ok (.aconst_null, 1) := by decide +kernel
theorem dX11_row_50 : decode cX11_row 50 = .ok (.astore 4, 2) := by decide +kernel
theorem dX11_row_52 : decode cX11_row 52 = .ok (.aload 4, 2) := by decide +kernel
theorem dX11_row_54 : decode cX11_row 54 = .ok (.ifnull 10, 3) := by decide +kernel
theorem dX11_row_57 : decode cX11_row 57 = .ok (.aload 4, 2) := by decide +kernel
theorem dX11_row_59 : decode cX11_row 59 = .ok (.iload_n 2, 1) := by decide +kernel
theorem dX11_row_60 : decode cX11_row 60 = .ok (.iload_n 3, 1) := by decide +kernel
theorem dX11_row_61 : decode cX11_row 61 = .ok (.invokevirtual 259, 3) := by decide +kernel
theorem dX11_row_64 : decode cX11_row 64 = .ok (.aload_n 0, 1) := by decide +kernel
theorem dX11_row_65 : decode cX11_row 65 = .ok (.iload_n 1, 1) := by decide +kernel
theorem dX11_row_66 : decode cX11_row 66 = .ok (.aconst_null, 1) := by decide +kernel
theorem dX11_row_67 : decode cX11_row 67 = .ok (.aload 4, 2) := by decide +kernel
theorem dX11_row_69 : decode cX11_row 69 = .ok (.invokevirtual 255, 3) := by decide +kernel
theorem dX11_row_72 : decode cX11_row 72 = .ok (.iconst 0, 1) := by decide +kernel
theorem dX11_row_73 : decode cX11_row 73 = .ok (.ireturn, 1) := by decide +kernel
set_option maxRecDepth 20000 in
theorem ggX11_put_X11_rowOn : GoodIn wsX11_put wsX11_rowOn := goodIn_r _ [5, 6, 33, 34, 35, 36, 37, 38, 39, 40, 41] (by decide +kernel) (by decide +kernel)
set_option maxRecDepth 20000 in
theorem gX11_put_X11_rowOn : GoodIn wsX11_put (wsV RX11 53 RX11 yX11_rowOn wsX11_rowOn) := goodIn_app (goodIn_of _ (by decide +kernel)) ggX11_put_X11_rowOn
set_option maxRecDepth 20000 in
theorem ggX11_put_X11_refusalWithoutRow : GoodIn wsX11_put wsX11_refusalWithoutRow := goodIn_r _ [10, 11, 12, 4, 13, 14, 15, 16, 17, 18, 33, 34, 35, 36, 37, 38, 39, 40, 41] (by decide +kernel) (by decide +kernel)
set_option maxRecDepth 20000 in
theorem gX11_put_X11_refusalWithoutRow : GoodIn wsX11_put (wsV RX11 57 RX11 yX11_refusalWithoutRow wsX11_refusalWithoutRow) := goodIn_app (goodIn_of _ (by decide +kernel)) ggX11_put_X11_refusalWithoutRow
set_option maxRecDepth 20000 in
theorem ggX11_put_X7_set : GoodIn wsX11_put wsX7_set := goodIn_r _ [23, 24, 25, 26, 27, 28, 22, 29, 30, 31, 4, 32, 42, 43, 44] (by decide +kernel) (by decide +kernel)
set_option maxRecDepth 20000 in
theorem gX11_put_X7_set : GoodIn wsX11_put (wsV RX11 262 RX7 yX7_set wsX7_set) := goodIn_app (goodIn_of _ (by decide +kernel)) ggX11_put_X7_set
theorem dX11_put_0 : decode cX11_put 0 = .ok (.aload_n 0, 1) := by decide +kernel
theorem dX11_put_1 : decode cX11_put 1 = .ok (.iload_n 1, 1) := by decide +kernel
theorem dX11_put_2 : decode cX11_put 2 = .ok (.invokevirtual 53, 3) := by decide +kernel
theorem dX11_put_5 : decode cX11_put 5 = .ok (.astore 4, 2) := by decide +kernel
theorem dX11_put_7 : decode cX11_put 7 = .ok (.aload 4, 2) := by decide +kernel
theorem dX11_put_9 : decode cX11_put 9 = .ok (.ifnonnull 9, 3) := by decide +kernel
theorem dX11_put_12 : decode cX11_put 12 = .ok (.aload_n 0, 1) := by decide +kernel
theorem dX11_put_13 : decode cX11_put 13 = .ok (.iload_n 1, 1) := by decide +kernel
theorem dX11_put_14 : decode cX11_put 14 = .ok (.invokevirtual 57, 3) := by decide +kernel
theorem dX11_put_17 : decode cX11_put 17 = .ok (.ireturn, 1) := by decide +kernel
theorem dX11_put_18 : decode cX11_put 18 = .ok (.aload 4, 2) := by decide +kernel
theorem dX11_put_20 : decode cX11_put 20 = .ok (.iload_n 2, 1) := by decide +kernel
theorem dX11_put_21 : decode cX11_put 21 = .ok (.iload_n 3, 1) := by decide +kernel
theorem dX11_put_22 : decode cX11_put 22 = .ok (.invokevirtual 262, 3) := by decide +kernel
theorem dX11_put_25 : decode cX11_put 25 = .ok (.ifCond .eq 7, 3) := by decide +kernel
theorem dX11_put_28 : decode cX11_put 28 = .ok (.iconst 0, 1) := by decide +kernel
theorem dX11_put_29 : decode cX11_put 29 = .ok (.goto 5, 3) := by decide +kernel
theorem dX11_put_32 : decode cX11_put 32 = .ok (.bipush (-13), 2) := by decide +kernel
theorem dX11_put_34 : decode cX11_put 34 = .ok (.ireturn, 1) := by decide +kernel
set_option maxRecDepth 20000 in
theorem ggX11_element_X11_isShelf : GoodIn wsX11_element wsX11_isShelf := goodIn_r _ [8] (by decide +kernel) (by decide +kernel)
set_option maxRecDepth 20000 in
theorem gX11_element_X11_isShelf : GoodIn wsX11_element (va_wsS RX11 248 yX11_isShelf wsX11_isShelf) := goodIn_app (goodIn_of _ (by decide +kernel)) ggX11_element_X11_isShelf
set_option maxRecDepth 20000 in
theorem ggX11_element_X11_rowOn : GoodIn wsX11_element wsX11_rowOn := goodIn_r _ [12, 13, 28, 29, 30, 31, 32, 33, 34, 35, 36] (by decide +kernel) (by decide +kernel)
set_option maxRecDepth 20000 in
theorem gX11_element_X11_rowOn : GoodIn wsX11_element (wsV RX11 53 RX11 yX11_rowOn wsX11_rowOn) := goodIn_app (goodIn_of _ (by decide +kernel)) ggX11_element_X11_rowOn
set_option maxRecDepth 20000 in
theorem ggX11_element_X7_has : GoodIn wsX11_element wsX7_has := goodIn_r _ [18, 19, 37, 38, 39] (by decide +kernel) (by decide +kernel)
set_option maxRecDepth 20000 in
theorem gX11_element_X7_has : GoodIn wsX11_element (wsV RX11 272 RX7 yX7_has wsX7_has) := goodIn_app (goodIn_of _ (by decide +kernel)) ggX11_element_X7_has
set_option maxRecDepth 20000 in
theorem ggX11_element_X7_at : GoodIn wsX11_element wsX7_at := goodIn_r _ [23, 24, 25, 15, 16, 17, 18, 19, 26, 7, 27, 37, 38, 39] (by decide +kernel) (by decide +kernel)
set_option maxRecDepth 20000 in
theorem gX11_element_X7_at : GoodIn wsX11_element (wsV RX11 75 RX7 yX7_at wsX7_at) := goodIn_app (goodIn_of _ (by decide +kernel)) ggX11_element_X7_at
theorem dX11_element_0 : decode cX11_element 0 = .ok (.iload_n 1, 1) := by decide +kernel
theorem dX11_element_1 : decode cX11_element 1 = .ok (.invokestatic 248, 3) := by decide +kernel
theorem dX11_element_4 : decode cX11_element 4 = .ok (.ifCond .ne 14, 3) := by decide +kernel
theorem dX11_element_7 : decode cX11_element 7 = .ok (.new 265, 3) := by decide +kernel
theorem dX11_element_10 : decode cX11_element 10 = .ok (.dup, 1) := by decide +kernel
theorem dX11_element_11 : decode cX11_element 11 = .ok (.ldc_w 267, 3) := by decide +kernel
theorem dX11_element_14 : decode cX11_element 14 = .ok (.invokespecial 269, 3) := by decide +kernel
theorem dX11_element_17 : decode cX11_element 17 = .ok (.athrow, 1) := by decide +kernel
theorem dX11_element_18 : decode cX11_element 18 = .ok (.aload_n 0, 1) := by decide +kernel
theorem dX11_element_19 : decode cX11_element 19 = .ok (.iload_n 1, 1) := by decide +kernel
theorem dX11_element_20 : decode cX11_element 20 = .ok (.invokevirtual 53, 3) := by decide +kernel
theorem dX11_element_23 : decode cX11_element 23 = .ok (.astore_n 3, 1) := by decide +kernel
theorem dX11_element_24 : decode cX11_element 24 = .ok (.aload_n 3, 1) := by decide +kernel
theorem dX11_element_25 : decode cX11_element 25 = .ok (.ifnull 12, 3) := by decide +kernel
theorem dX11_element_28 : decode cX11_element 28 = .ok (.aload_n 3, 1) := by decide +kernel
theorem dX11_element_29 : decode cX11_element 29 = .ok (.iload_n 2, 1) := by decide +kernel
theorem dX11_element_30 : decode cX11_element 30 = .ok (.iconst 1, 1) := by decide +kernel
theorem dX11_element_31 : decode cX11_element 31 = .ok (.invokevirtual 272, 3) := by decide +kernel
theorem dX11_element_34 : decode cX11_element 34 = .ok (.ifCond .ne 14, 3) := by decide +kernel
theorem dX11_element_37 : decode cX11_element 37 = .ok (.new 274, 3) := by decide +kernel
theorem dX11_element_40 : decode cX11_element 40 = .ok (.dup, 1) := by decide +kernel
theorem dX11_element_41 : decode cX11_element 41 = .ok (.ldc_w 276, 3) := by decide +kernel
theorem dX11_element_44 : decode cX11_element 44 = .ok (.invokespecial 278, 3) := by decide +kernel
theorem dX11_element_47 : decode cX11_element 47 = .ok (.athrow, 1) := by decide +kernel
theorem dX11_element_48 : decode cX11_element 48 = .ok (.aload_n 3, 1) := by decide +kernel
theorem dX11_element_49 : decode cX11_element 49 = .ok (.iload_n 2, 1) := by decide +kernel
theorem dX11_element_50 : decode cX11_element 50 = .ok (.invokevirtual 75, 3) := by decide +kernel
theorem dX11_element_53 : decode cX11_element 53 = .ok (.i2l, 1) := by decide +kernel
theorem dX11_element_54 : decode cX11_element 54 = .ok (.lreturn, 1) := by decide +kernel
set_option maxRecDepth 20000 in
theorem ggX11_copy_X11_isShelf : GoodIn wsX11_copy wsX11_isShelf := goodIn_r _ [10] (by decide +kernel) (by decide +kernel)
set_option maxRecDepth 20000 in
theorem gX11_copy_X11_isShelf : GoodIn wsX11_copy (va_wsS RX11 248 yX11_isShelf wsX11_isShelf) := goodIn_app (goodIn_of _ (by decide +kernel)) ggX11_copy_X11_isShelf
set_option maxRecDepth 20000 in
theorem ggX11_copy_X11_isBare : GoodIn wsX11_copy wsX11_isBare := goodIn_r _ [14, 15, 16, 17, 9, 18, 19, 20, 21, 22, 23, 24, 34, 35, 36, 37, 38, 39, 40, 41, 42] (by decide +kernel) (by decide +kernel)
set_option maxRecDepth 20000 in
theorem gX11_copy_X11_isBare : GoodIn wsX11_copy (wsV RX11 279 RX11 yX11_isBare wsX11_isBare) := goodIn_app (goodIn_of _ (by decide +kernel)) ggX11_copy_X11_isBare
set_option maxRecDepth 20000 in
theorem ggX11_copy_X11_rowOn : GoodIn wsX11_copy wsX11_rowOn := goodIn_r _ [23, 24, 34, 35, 36, 37, 38, 39, 40, 41, 42] (by decide +kernel) (by decide +kernel)
set_option maxRecDepth 20000 in
theorem gX11_copy_X11_rowOn : GoodIn wsX11_copy (wsV RX11 53 RX11 yX11_rowOn wsX11_rowOn) := goodIn_app (goodIn_of _ (by decide +kernel)) ggX11_copy_X11_rowOn
set_option maxRecDepth 20000 in
theorem ggX11_copy_X7_has : GoodIn wsX11_copy wsX7_has := goodIn_r _ [29, 30, 31, 32, 33] (by decide +kernel) (by decide +kernel)
set_option maxRecDepth 20000 in
theorem gX11_copy_X7_has : GoodIn wsX11_copy (wsV RX11 272 RX7 yX7_has wsX7_has) := goodIn_app (goodIn_of _ (by decide +kernel)) ggX11_copy_X7_has
theorem dX11_copy_0 : decode cX11_copy 0 = .ok (.iload_n 1, 1) := by decide +kernel
theorem dX11_copy_1 : decode cX11_copy 1 = .ok (.invokestatic 248, 3) := by decide +kernel
theorem dX11_copy_4 : decode cX11_copy 4 = .ok (.ifCond .eq 10, 3) := by decide +kernel
theorem dX11_copy_7 : decode cX11_copy 7 = .ok (.iload_n 3, 1) := by decide +kernel
theorem dX11_copy_8 : decode cX11_copy 8 = .ok (.invokestatic 248, 3) := by decide +kernel
theorem dX11_copy_11 : decode cX11_copy 11 = .ok (.ifCond .ne 5, 3) := by decide +kernel
theorem dX11_copy_14 : decode cX11_copy 14 = .ok (.iconst (-1), 1) := by decide +kernel
theorem dX11_copy_15 : decode cX11_copy 15 = .ok (.ireturn, 1) := by decide +kernel
theorem dX11_copy_16 : decode cX11_copy 16 = .ok (.aload_n 0, 1) := by decide +kernel
theorem dX11_copy_17 : decode cX11_copy 17 = .ok (.iload_n 1, 1) := by decide +kernel
theorem dX11_copy_18 : decode cX11_copy 18 = .ok (.invokevirtual 279, 3) := by decide +kernel
theorem dX11_copy_21 : decode cX11_copy 21 = .ok (.ifCond .ne 11, 3) := by decide +kernel
theorem dX11_copy_24 : decode cX11_copy 24 = .ok (.aload_n 0, 1) := by decide +kernel
theorem dX11_copy_25 : decode cX11_copy 25 = .ok (.iload_n 3, 1) := by decide +kernel
theorem dX11_copy_26 : decode cX11_copy 26 = .ok (.invokevirtual 279, 3) := by decide +kernel
theorem dX11_copy_29 : decode cX11_copy 29 = .ok (.ifCond .eq 6, 3) := by decide +kernel
theorem dX11_copy_32 : decode cX11_copy 32 = .ok (.bipush (-11), 2) := by decide +kernel
theorem dX11_copy_34 : decode cX11_copy 34 = .ok (.ireturn, 1) := by decide +kernel
theorem dX11_copy_35 : decode cX11_copy 35 = .ok (.aload_n 0, 1) := by decide +kernel
theorem dX11_copy_36 : decode cX11_copy 36 = .ok (.iload_n 1, 1) := by decide +kernel
theorem dX11_copy_37 : decode cX11_copy 37 = .ok (.invokevirtual 53, 3) := by decide +kernel
theorem dX11_copy_40 : decode cX11_copy 40 = .ok (.astore 6, 2) := by decide +kernel
theorem dX11_copy_42 : decode cX11_copy 42 = .ok (.aload_n 0, 1) := by decide +kernel
theorem dX11_copy_43 : decode cX11_copy 43 = .ok (.iload_n 3, 1) := by decide +kernel
theorem dX11_copy_44 : decode cX11_copy 44 = .ok (.invokevirtual 53, 3) := by decide +kernel
theorem dX11_copy_47 : decode cX11_copy 47 = .ok (.astore 7, 2) := by decide +kernel
theorem dX11_copy_49 : decode cX11_copy 49 = .ok (.aload 6, 2) := by decide +kernel
theorem dX11_copy_51 : decode cX11_copy 51 = .ok (.ifnull 21, 3) := by decide +kernel
theorem dX11_copy_54 : decode cX11_copy 54 = .ok (.aload 7, 2) := by decide +kernel
theorem dX11_copy_56 : decode cX11_copy 56 = .ok (.ifnull 16, 3) := by decide +kernel
theorem dX11_copy_59 : decode cX11_copy 59 = .ok (.aload 6, 2) := by decide +kernel
theorem dX11_copy_61 : decode cX11_copy 61 = .ok (.getfield 61, 3) := by decide +kernel
theorem dX11_copy_64 : decode cX11_copy 64 = .ok (.aload 7, 2) := by decide +kernel
theorem dX11_copy_66 : decode cX11_copy 66 = .ok (.getfield 61, 3) := by decide +kernel
theorem dX11_copy_69 : decode cX11_copy 69 = .ok (.if_icmp .eq 6, 3) := by decide +kernel
theorem dX11_copy_72 : decode cX11_copy 72 = .ok (.bipush (-12), 2) := by decide +kernel
theorem dX11_copy_74 : decode cX11_copy 74 = .ok (.ireturn, 1) := by decide +kernel
theorem dX11_copy_75 : decode cX11_copy 75 = .ok (.aload 6, 2) := by decide +kernel
theorem dX11_copy_77 : decode cX11_copy 77 = .ok (.iload_n 2, 1) := by decide +kernel
theorem dX11_copy_78 : decode cX11_copy 78 = .ok (.iload 5, 2) := by decide +kernel
theorem dX11_copy_80 : decode cX11_copy 80 = .ok (.invokevirtual 272, 3) := by decide +kernel
theorem dX11_copy_83 : decode cX11_copy 83 = .ok (.ifCond .eq 15, 3) := by decide +kernel
theorem dX11_copy_86 : decode cX11_copy 86 = .ok (.aload 7, 2) := by decide +kernel
theorem dX11_copy_88 : decode cX11_copy 88 = .ok (.iload 4, 2) := by decide +kernel
theorem dX11_copy_90 : decode cX11_copy 90 = .ok (.iload 5, 2) := by decide +kernel
theorem dX11_copy_92 : decode cX11_copy 92 = .ok (.invokevirtual 272, 3) := by decide +kernel
theorem dX11_copy_95 : decode cX11_copy 95 = .ok (.ifCond .ne 6, 3) := by decide +kernel
theorem dX11_copy_98 : decode cX11_copy 98 = .ok (.bipush (-13), 2) := by decide +kernel
theorem dX11_copy_100 : decode cX11_copy 100 = .ok (.ireturn, 1) := by decide +kernel
theorem dX11_copy_101 : decode cX11_copy 101 = .ok (.aload 6, 2) := by decide +kernel
theorem dX11_copy_103 : decode cX11_copy 103 = .ok (.getfield 282, 3) := by decide +kernel
theorem dX11_copy_106 : decode cX11_copy 106 = .ok (.iload_n 2, 1) := by decide +kernel
theorem dX11_copy_107 : decode cX11_copy 107 = .ok (.aload 7, 2) := by decide +kernel
theorem dX11_copy_109 : decode cX11_copy 109 = .ok (.getfield 282, 3) := by decide +kernel
theorem dX11_copy_112 : decode cX11_copy 112 = .ok (.iload 4, 2) := by decide +kernel
theorem dX11_copy_114 : decode cX11_copy 114 = .ok (.iload 5, 2) := by decide +kernel
theorem dX11_copy_116 : decode cX11_copy 116 = .ok (.invokestatic 286, 3) := by decide +kernel
theorem dX11_copy_119 : decode cX11_copy 119 = .ok (.iload 5, 2) := by decide +kernel
theorem dX11_copy_121 : decode cX11_copy 121 = .ok (.ireturn, 1) := by decide +kernel
set_option maxRecDepth 20000 in
theorem ggX11_cost_X11_oneOn : GoodIn wsX11_cost wsX11_oneOn := goodIn_r _ [5, 6, 75, 76, 77, 78, 79, 80, 81, 82, 83] (by decide +kernel) (by decide +kernel)
set_option maxRecDepth 20000 in
theorem gX11_cost_X11_oneOn : GoodIn wsX11_cost (wsV RX11 121 RX11 yX11_oneOn wsX11_oneOn) := goodIn_app (goodIn_of _ (by decide +kernel)) ggX11_cost_X11_oneOn
set_option maxRecDepth 20000 in
theorem ggX11_cost_X11_refusalWithoutOne : GoodIn wsX11_cost wsX11_refusalWithoutOne := goodIn_r _ [10, 11, 12, 4, 13, 14, 15, 16, 17, 18, 75, 76, 77, 78, 79, 80, 81, 82, 83] (by decide +kernel) (by decide +kernel)
set_option maxRecDepth 20000 in
theorem gX11_cost_X11_refusalWithoutOne : GoodIn wsX11_cost (wsV RX11 124 RX11 yX11_refusalWithoutOne wsX11_refusalWithoutOne) := goodIn_app (goodIn_of _ (by decide +kernel)) ggX11_cost_X11_refusalWithoutOne
set_option maxRecDepth 20000 in
theorem ggX11_cost_X0_price : GoodIn wsX11_cost wsX0_price := goodIn_r _ [25, 26, 27, 28, 20, 29, 30, 31, 32, 84, 85, 86, 87, 88, 89, 90, 91] (by decide +kernel) (by decide +kernel)
set_option maxRecDepth 20000 in
theorem gX11_cost_X0_price_u292X0 : GoodIn wsX11_cost (va_wsO RX11 292 RX0 "DealtByOpposite$Person" ⟨"DealtByOpposite$Person", "price", "()I"⟩ yX0_price wsX0_price) := goodIn_app (goodIn_of _ (by decide +kernel)) ggX11_cost_X0_price
set_option maxRecDepth 20000 in
theorem ggX11_cost_X1_price : GoodIn wsX11_cost wsX1_price := goodIn_r _ [36, 37, 38, 39, 40, 41, 42, 43, 20, 44, 30, 31, 32] (by decide +kernel) (by decide +kernel)
set_option maxRecDepth 20000 in
theorem gX11_cost_X1_price_u292X1 : GoodIn wsX11_cost (va_wsO RX11 292 RX1 "DealtByOpposite$Person" ⟨"DealtByOpposite$Person", "price", "()I"⟩ yX1_price wsX1_price) := goodIn_app (goodIn_of _ (by decide +kernel)) ggX11_cost_X1_price
set_option maxRecDepth 20000 in
theorem ggX11_cost_X3_price : GoodIn wsX11_cost wsX3_price := goodIn_r _ [48, 49, 50, 51, 23, 24, 25, 26, 27, 28, 20, 29, 30, 31, 32, 84, 85, 86, 87, 88, 89, 90, 91] (by decide +kernel) (by decide +kernel)
set_option maxRecDepth 20000 in
theorem gX11_cost_X3_price_u292X3 : GoodIn wsX11_cost (va_wsO RX11 292 RX3 "DealtByOpposite$Person" ⟨"DealtByOpposite$Person", "price", "()I"⟩ yX3_price wsX3_price) := goodIn_app (goodIn_of _ (by decide +kernel)) ggX11_cost_X3_price
set_option maxRecDepth 20000 in
theorem ggX11_cost_X4_price : GoodIn wsX11_cost wsX4_price := goodIn_r _ [55, 56, 20, 57, 30, 31, 32] (by decide +kernel) (by decide +kernel)
set_option maxRecDepth 20000 in
theorem gX11_cost_X4_price_u292X4 : GoodIn wsX11_cost (va_wsO RX11 292 RX4 "DealtByOpposite$Person" ⟨"DealtByOpposite$Person", "price", "()I"⟩ yX4_price wsX4_price) := goodIn_app (goodIn_of _ (by decide +kernel)) ggX11_cost_X4_price
set_option maxRecDepth 20000 in
theorem ggX11_cost_X5_price : GoodIn wsX11_cost wsX5_price := goodIn_r _ [61, 62, 63, 64, 38, 65, 40, 41, 42, 43, 20, 44, 30, 31, 32, 84, 85, 86, 87, 88, 89, 90, 91] (by decide +kernel) (by decide +kernel)
set_option maxRecDepth 20000 in
theorem gX11_cost_X5_price_u292X5 : GoodIn wsX11_cost (va_wsO RX11 292 RX5 "DealtByOpposite$Person" ⟨"DealtByOpposite$Person", "price", "()I"⟩ yX5_price wsX5_price) := goodIn_app (goodIn_of _ (by decide +kernel)) ggX11_cost_X5_price
set_option maxRecDepth 20000 in
theorem ggX11_cost_X6_price : GoodIn wsX11_cost wsX6_price := goodIn_r _ [32] (by decide +kernel) (by decide +kernel)
set_option maxRecDepth 20000 in
theorem gX11_cost_X6_price : GoodIn wsX11_cost (wsV RX11 292 RX6 yX6_price wsX6_price) := goodIn_app (goodIn_of _ (by decide +kernel)) ggX11_cost_X6_price
set_option maxRecDepth 20000 in
theorem ggX11_cost_X8_price : GoodIn wsX11_cost wsX8_price := goodIn_r _ [71, 72, 38, 73, 40, 41, 42, 43, 20, 44, 30, 31, 32] (by decide +kernel) (by decide +kernel)
set_option maxRecDepth 20000 in
theorem gX11_cost_X8_price_u292X8 : GoodIn wsX11_cost (va_wsO RX11 292 RX8 "DealtByOpposite$Person" ⟨"DealtByOpposite$Person", "price", "()I"⟩ yX8_price wsX8_price) := goodIn_app (goodIn_of _ (by decide +kernel)) ggX11_cost_X8_price
set_option maxRecDepth 20000 in
theorem ggX11_cost_X9_price : GoodIn wsX11_cost wsX9_price := goodIn_r _ [42, 43, 20, 44, 30, 31, 32] (by decide +kernel) (by decide +kernel)
set_option maxRecDepth 20000 in
theorem gX11_cost_X9_price_u292X9 : GoodIn wsX11_cost (va_wsO RX11 292 RX9 "DealtByOpposite$Person" ⟨"DealtByOpposite$Person", "price", "()I"⟩ yX9_price wsX9_price) := goodIn_app (goodIn_of _ (by decide +kernel)) ggX11_cost_X9_price
theorem dX11_cost_0 : decode cX11_cost 0 = .ok (.aload_n 0, 1) := by decide +kernel
theorem dX11_cost_1 : decode cX11_cost 1 = .ok (.iload_n 1, 1) := by decide +kernel
theorem dX11_cost_2 : decode cX11_cost 2 = .ok (.invokevirtual 121, 3) := by decide +kernel
theorem dX11_cost_5 : decode cX11_cost 5 = .ok (.astore_n 2, 1) := by decide +kernel
theorem dX11_cost_6 : decode cX11_cost 6 = .ok (.aload_n 2, 1) := by decide +kernel
theorem dX11_cost_7 : decode cX11_cost 7 = .ok (.ifnonnull 11, 3) := by decide +kernel
theorem dX11_cost_10 : decode cX11_cost 10 = .ok (.aload_n 0, 1) := by decide +kernel
theorem dX11_cost_11 : decode cX11_cost 11 = .ok (.iload_n 1, 1) := by decide +kernel
theorem dX11_cost_12 : decode cX11_cost 12 = .ok (.invokevirtual 124, 3) := by decide +kernel
theorem dX11_cost_15 : decode cX11_cost 15 = .ok (.goto 7, 3) := by decide +kernel
theorem dX11_cost_18 : decode cX11_cost 18 = .ok (.aload_n 2, 1) := by decide +kernel
theorem dX11_cost_19 : decode cX11_cost 19 = .ok (.invokevirtual 292, 3) := by decide +kernel
theorem dX11_cost_22 : decode cX11_cost 22 = .ok (.ireturn, 1) := by decide +kernel
set_option maxRecDepth 20000 in
theorem ggX11_toss_X11_oneOn : GoodIn wsX11_toss wsX11_oneOn := goodIn_r _ [9, 10, 116, 117, 118, 119, 120, 121, 122, 123, 124] (by decide +kernel) (by decide +kernel)
set_option maxRecDepth 20000 in
theorem gX11_toss_X11_oneOn : GoodIn wsX11_toss (wsV RX11 121 RX11 yX11_oneOn wsX11_oneOn) := goodIn_app (goodIn_of _ (by decide +kernel)) ggX11_toss_X11_oneOn
set_option maxRecDepth 20000 in
theorem ggX11_toss_X11_refusalWithoutOne : GoodIn wsX11_toss wsX11_refusalWithoutOne := goodIn_r _ [14, 15, 16, 8, 17, 18, 19, 20, 21, 22, 116, 117, 118, 119, 120, 121, 122, 123, 124] (by decide +kernel) (by decide +kernel)
set_option maxRecDepth 20000 in
theorem gX11_toss_X11_refusalWithoutOne : GoodIn wsX11_toss (wsV RX11 124 RX11 yX11_refusalWithoutOne wsX11_refusalWithoutOne) := goodIn_app (goodIn_of _ (by decide +kernel)) ggX11_toss_X11_refusalWithoutOne
set_option maxRecDepth 20000 in
theorem ggX11_toss_X0_fail : GoodIn wsX11_toss wsX0_fail := goodIn_ca (goodIn_r _ [29, 30, 31, 32, 33, 108, 109, 110, 111, 112, 113, 114, 115] (by decide +kernel) (by decide +kernel)) (goodIn_sub (fun _ h => List.mem_cons_of_mem _ (List.mem_append_left _ (List.mem_append_left _ (List.mem_append_right _ h)))) (by decide +kernel))
set_option maxRecDepth 20000 in
theorem gX11_toss_X0_fail_u295X0 : GoodIn wsX11_toss (va_wsO RX11 295 RX0 "DealtByOpposite$Person" ⟨"DealtByOpposite$Person", "fail", "()V"⟩ yX0_fail wsX0_fail) := goodIn_app (goodIn_of _ (by decide +kernel)) ggX11_toss_X0_fail
set_option maxRecDepth 20000 in
theorem ggX11_toss_X1_fail : GoodIn wsX11_toss wsX1_fail := goodIn_r _ [38] (by decide +kernel) (by decide +kernel)
set_option maxRecDepth 20000 in
theorem gX11_toss_X1_fail_u295X1 : GoodIn wsX11_toss (va_wsO RX11 295 RX1 "DealtByOpposite$Person" ⟨"DealtByOpposite$Person", "fail", "()V"⟩ yX1_fail wsX1_fail) := goodIn_app (goodIn_of _ (by decide +kernel)) ggX11_toss_X1_fail
set_option maxRecDepth 20000 in
theorem ggX11_toss_X3_fail : GoodIn wsX11_toss wsX3_fail := goodIn_ca (goodIn_r _ [42, 43, 44, 45, 46, 108, 109, 110, 111, 112, 113, 114, 115] (by decide +kernel) (by decide +kernel)) (goodIn_sub (fun _ h => List.mem_cons_of_mem _ (List.mem_append_left _ (List.mem_append_right _ h))) (by decide +kernel))
set_option maxRecDepth 20000 in
theorem gX11_toss_X3_fail_u295X3 : GoodIn wsX11_toss (va_wsO RX11 295 RX3 "DealtByOpposite$Person" ⟨"DealtByOpposite$Person", "fail", "()V"⟩ yX3_fail wsX3_fail) := goodIn_app (goodIn_of _ (by decide +kernel)) ggX11_toss_X3_fail
set_option maxRecDepth 20000 in
theorem ggX11_toss_X6_fail : GoodIn wsX11_toss wsX6_fail := goodIn_ca (goodIn_r _ [34, 50, 51, 52, 108, 109, 110, 111, 112, 113, 114, 115] (by decide +kernel) (by decide +kernel)) (goodIn_sub (fun _ h => List.mem_cons_of_mem _ (List.mem_append_right _ h)) (by decide +kernel))
set_option maxRecDepth 20000 in
theorem gX11_toss_X6_fail_u295X4 : GoodIn wsX11_toss (va_wsU RX11 295 RX4 "DealtByOpposite$Person" ⟨"DealtByOpposite$Person", "fail", "()V"⟩ yX6_fail wsX6_fail) := goodIn_app (goodIn_of _ (by decide +kernel)) ggX11_toss_X6_fail
set_option maxRecDepth 20000 in
theorem gX11_toss_X6_fail_u295X5 : GoodIn wsX11_toss (va_wsU RX11 295 RX5 "DealtByOpposite$Person" ⟨"DealtByOpposite$Person", "fail", "()V"⟩ yX6_fail wsX6_fail) := goodIn_app (goodIn_of _ (by decide +kernel)) ggX11_toss_X6_fail
set_option maxRecDepth 20000 in
theorem gX11_toss_X6_fail : GoodIn wsX11_toss (wsV RX11 295 RX6 yX6_fail wsX6_fail) := goodIn_app (goodIn_of _ (by decide +kernel)) ggX11_toss_X6_fail
set_option maxRecDepth 20000 in
theorem gX11_toss_X6_fail_u295X8 : GoodIn wsX11_toss (va_wsU RX11 295 RX8 "DealtByOpposite$Person" ⟨"DealtByOpposite$Person", "fail", "()V"⟩ yX6_fail wsX6_fail) := goodIn_app (goodIn_of _ (by decide +kernel)) ggX11_toss_X6_fail
set_option maxRecDepth 20000 in
theorem gX11_toss_X6_fail_u295X9 : GoodIn wsX11_toss (va_wsU RX11 295 RX9 "DealtByOpposite$Person" ⟨"DealtByOpposite$Person", "fail", "()V"⟩ yX6_fail wsX6_fail) := goodIn_app (goodIn_of _ (by decide +kernel)) ggX11_toss_X6_fail
set_option maxRecDepth 20000 in
theorem ggX11_toss_X0_price : GoodIn wsX11_toss wsX0_price := goodIn_r _ [63, 32, 33, 64, 59, 65, 66, 49, 67, 108, 109, 110, 111, 112, 113, 114, 115] (by decide +kernel) (by decide +kernel)
set_option maxRecDepth 20000 in
theorem gX11_toss_X0_price_u292X0 : GoodIn wsX11_toss (va_wsO RX11 292 RX0 "DealtByOpposite$Person" ⟨"DealtByOpposite$Person", "price", "()I"⟩ yX0_price wsX0_price) := goodIn_app (goodIn_of _ (by decide +kernel)) ggX11_toss_X0_price
set_option maxRecDepth 20000 in
theorem ggX11_toss_X1_price : GoodIn wsX11_toss wsX1_price := goodIn_r _ [70, 71, 72, 73, 74, 75, 76, 77, 59, 78, 66, 49, 67] (by decide +kernel) (by decide +kernel)
set_option maxRecDepth 20000 in
theorem gX11_toss_X1_price_u292X1 : GoodIn wsX11_toss (va_wsO RX11 292 RX1 "DealtByOpposite$Person" ⟨"DealtByOpposite$Person", "price", "()I"⟩ yX1_price wsX1_price) := goodIn_app (goodIn_of _ (by decide +kernel)) ggX11_toss_X1_price
set_option maxRecDepth 20000 in
theorem ggX11_toss_X3_price : GoodIn wsX11_toss wsX3_price := goodIn_r _ [81, 82, 83, 84, 62, 28, 63, 32, 33, 64, 59, 65, 66, 49, 67, 108, 109, 110, 111, 112, 113, 114, 115] (by decide +kernel) (by decide +kernel)
set_option maxRecDepth 20000 in
theorem gX11_toss_X3_price_u292X3 : GoodIn wsX11_toss (va_wsO RX11 292 RX3 "DealtByOpposite$Person" ⟨"DealtByOpposite$Person", "price", "()I"⟩ yX3_price wsX3_price) := goodIn_app (goodIn_of _ (by decide +kernel)) ggX11_toss_X3_price
set_option maxRecDepth 20000 in
theorem ggX11_toss_X4_price : GoodIn wsX11_toss wsX4_price := goodIn_r _ [88, 89, 59, 90, 66, 49, 67] (by decide +kernel) (by decide +kernel)
set_option maxRecDepth 20000 in
theorem gX11_toss_X4_price_u292X4 : GoodIn wsX11_toss (va_wsO RX11 292 RX4 "DealtByOpposite$Person" ⟨"DealtByOpposite$Person", "price", "()I"⟩ yX4_price wsX4_price) := goodIn_app (goodIn_of _ (by decide +kernel)) ggX11_toss_X4_price
set_option maxRecDepth 20000 in
theorem ggX11_toss_X5_price : GoodIn wsX11_toss wsX5_price := goodIn_r _ [94, 95, 96, 97, 72, 98, 74, 75, 76, 77, 59, 78, 66, 49, 67, 108, 109, 110, 111, 112, 113, 114, 115] (by decide +kernel) (by decide +kernel)
set_option maxRecDepth 20000 in
theorem gX11_toss_X5_price_u292X5 : GoodIn wsX11_toss (va_wsO RX11 292 RX5 "DealtByOpposite$Person" ⟨"DealtByOpposite$Person", "price", "()I"⟩ yX5_price wsX5_price) := goodIn_app (goodIn_of _ (by decide +kernel)) ggX11_toss_X5_price
set_option maxRecDepth 20000 in
theorem ggX11_toss_X6_price : GoodIn wsX11_toss wsX6_price := goodIn_r _ [67] (by decide +kernel) (by decide +kernel)
set_option maxRecDepth 20000 in
theorem gX11_toss_X6_price : GoodIn wsX11_toss (wsV RX11 292 RX6 yX6_price wsX6_price) := goodIn_app (goodIn_of _ (by decide +kernel)) ggX11_toss_X6_price
set_option maxRecDepth 20000 in
theorem ggX11_toss_X8_price : GoodIn wsX11_toss wsX8_price := goodIn_r _ [104, 105, 72, 106, 74, 75, 76, 77, 59, 78, 66, 49, 67] (by decide +kernel) (by decide +kernel)
set_option maxRecDepth 20000 in
theorem gX11_toss_X8_price_u292X8 : GoodIn wsX11_toss (va_wsO RX11 292 RX8 "DealtByOpposite$Person" ⟨"DealtByOpposite$Person", "price", "()I"⟩ yX8_price wsX8_price) := goodIn_app (goodIn_of _ (by decide +kernel)) ggX11_toss_X8_price
set_option maxRecDepth 20000 in
theorem ggX11_toss_X9_price : GoodIn wsX11_toss wsX9_price := goodIn_r _ [76, 77, 59, 78, 66, 49, 67] (by decide +kernel) (by decide +kernel)
set_option maxRecDepth 20000 in
theorem gX11_toss_X9_price_u292X9 : GoodIn wsX11_toss (va_wsO RX11 292 RX9 "DealtByOpposite$Person" ⟨"DealtByOpposite$Person", "price", "()I"⟩ yX9_price wsX9_price) := goodIn_app (goodIn_of _ (by decide +kernel)) ggX11_toss_X9_price
theorem dX11_toss_0 : decode cX11_toss 0 = .ok (.aload_n 0, 1) := by decide +kernel
theorem dX11_toss_1 : decode cX11_toss 1 = .ok (.iload_n 1, 1) := by decide +kernel
theorem dX11_toss_2 : decode cX11_toss 2 = .ok (.invokevirtual 121, 3) := by decide +kernel
theorem dX11_toss_5 : decode cX11_toss 5 = .ok (.astore_n 2, 1) := by decide +kernel
theorem dX11_toss_6 : decode cX11_toss 6 = .ok (.aload_n 2, 1) := by decide +kernel
theorem dX11_toss_7 : decode cX11_toss 7 = .ok (.ifnonnull 9, 3) := by decide +kernel
theorem dX11_toss_10 : decode cX11_toss 10 = .ok (.aload_n 0, 1) := by decide +kernel
theorem dX11_toss_11 : decode cX11_toss 11 = .ok (.iload_n 1, 1) := by decide +kernel
theorem dX11_toss_12 : decode cX11_toss 12 = .ok (.invokevirtual 124, 3) := by decide +kernel
theorem dX11_toss_15 : decode cX11_toss 15 = .ok (.ireturn, 1) := by decide +kernel
theorem dX11_toss_16 : decode cX11_toss 16 = .ok (.aload_n 2, 1) := by decide +kernel
theorem dX11_toss_17 : decode cX11_toss 17 = .ok (.invokevirtual 295, 3) := by decide +kernel
theorem dX11_toss_20 : decode cX11_toss 20 = .ok (.goto 28, 3) := by decide +kernel
theorem dX11_toss_23 : decode cX11_toss 23 = .ok (.astore_n 3, 1) := by decide +kernel
theorem dX11_toss_24 : decode cX11_toss 24 = .ok (.sipush 200, 3) := by decide +kernel
theorem dX11_toss_27 : decode cX11_toss 27 = .ok (.aload_n 2, 1) := by decide +kernel
theorem dX11_toss_28 : decode cX11_toss 28 = .ok (.invokevirtual 292, 3) := by decide +kernel
theorem dX11_toss_31 : decode cX11_toss 31 = .ok (.iadd, 1) := by decide +kernel
theorem dX11_toss_32 : decode cX11_toss 32 = .ok (.ireturn, 1) := by decide +kernel
theorem dX11_toss_33 : decode cX11_toss 33 = .ok (.astore_n 3, 1) := by decide +kernel
theorem dX11_toss_34 : decode cX11_toss 34 = .ok (.bipush 100, 2) := by decide +kernel
theorem dX11_toss_36 : decode cX11_toss 36 = .ok (.aload_n 2, 1) := by decide +kernel
theorem dX11_toss_37 : decode cX11_toss 37 = .ok (.getfield 98, 3) := by decide +kernel
theorem dX11_toss_40 : decode cX11_toss 40 = .ok (.iadd, 1) := by decide +kernel
theorem dX11_toss_41 : decode cX11_toss 41 = .ok (.ireturn, 1) := by decide +kernel
theorem dX11_toss_42 : decode cX11_toss 42 = .ok (.astore_n 3, 1) := by decide +kernel
theorem dX11_toss_43 : decode cX11_toss 43 = .ok (.aload_n 2, 1) := by decide +kernel
theorem dX11_toss_44 : decode cX11_toss 44 = .ok (.getfield 98, 3) := by decide +kernel
theorem dX11_toss_47 : decode cX11_toss 47 = .ok (.ireturn, 1) := by decide +kernel
theorem dX11_toss_48 : decode cX11_toss 48 = .ok (.bipush (-15), 2) := by decide +kernel
theorem dX11_toss_50 : decode cX11_toss 50 = .ok (.ireturn, 1) := by decide +kernel
theorem dX11_isOneOfTwo_0 : decode cX11_isOneOfTwo 0 = .ok (.iload_n 0, 1) := by decide +kernel
theorem dX11_isOneOfTwo_1 : decode cX11_isOneOfTwo 1 = .ok (.ifCond .eq 8, 3) := by decide +kernel
theorem dX11_isOneOfTwo_4 : decode cX11_isOneOfTwo 4 = .ok (.iload_n 0, 1) := by decide +kernel
theorem dX11_isOneOfTwo_5 : decode cX11_isOneOfTwo 5 = .ok (.iconst 1, 1) := by decide +kernel
theorem dX11_isOneOfTwo_6 : decode cX11_isOneOfTwo 6 = .ok (.if_icmp .ne 7, 3) := by decide +kernel
theorem dX11_isOneOfTwo_9 : decode cX11_isOneOfTwo 9 = .ok (.iconst 1, 1) := by decide +kernel
theorem dX11_isOneOfTwo_10 : decode cX11_isOneOfTwo 10 = .ok (.goto 4, 3) := by decide +kernel
theorem dX11_isOneOfTwo_13 : decode cX11_isOneOfTwo 13 = .ok (.iconst 0, 1) := by decide +kernel
theorem dX11_isOneOfTwo_14 : decode cX11_isOneOfTwo 14 = .ok (.ireturn, 1) := by decide +kernel
set_option maxRecDepth 20000 in
theorem ggX11_fewestTurnings_X10_turnedOf : GoodIn wsX11_fewestTurnings wsX10_turnedOf := goodIn_r _ [14, 15, 16, 17, 18, 13, 19, 20, 21, 22, 23, 168, 169, 170, 171, 172, 173, 174] (by decide +kernel) (by decide +kernel)
set_option maxRecDepth 20000 in
theorem gX11_fewestTurnings_X10_turnedOf : GoodIn wsX11_fewestTurnings (wsV RX11 101 RX10 yX10_turnedOf wsX10_turnedOf) := goodIn_app (goodIn_of _ (by decide +kernel)) ggX11_fewestTurnings_X10_turnedOf
set_option maxRecDepth 20000 in
theorem ggX11_fewestTurnings_X10_at : GoodIn wsX11_fewestTurnings wsX10_at := goodIn_r _ [27, 28, 29, 168, 169, 170, 171, 172, 173, 174] (by decide +kernel) (by decide +kernel)
set_option maxRecDepth 20000 in
theorem gX11_fewestTurnings_X10_at : GoodIn wsX11_fewestTurnings (wsV RX11 92 RX10 yX10_at wsX10_at) := goodIn_app (goodIn_of _ (by decide +kernel)) ggX11_fewestTurnings_X10_at
set_option maxRecDepth 20000 in
theorem ggX11_fewestTurnings_X0_turns : GoodIn wsX11_fewestTurnings wsX0_turns := goodIn_r _ [36, 37, 31, 38, 39, 40, 41] (by decide +kernel) (by decide +kernel)
set_option maxRecDepth 20000 in
theorem gX11_fewestTurnings_X0_turns_u110X0 : GoodIn wsX11_fewestTurnings (va_wsO RX11 110 RX0 "DealtByOpposite$Person" ⟨"DealtByOpposite$Person", "turns", "()I"⟩ yX0_turns wsX0_turns) := goodIn_app (goodIn_of _ (by decide +kernel)) ggX11_fewestTurnings_X0_turns
set_option maxRecDepth 20000 in
theorem ggX11_fewestTurnings_X1_turns : GoodIn wsX11_fewestTurnings wsX1_turns := goodIn_r _ [45] (by decide +kernel) (by decide +kernel)
set_option maxRecDepth 20000 in
theorem gX11_fewestTurnings_X1_turns_u110X1 : GoodIn wsX11_fewestTurnings (va_wsO RX11 110 RX1 "DealtByOpposite$Person" ⟨"DealtByOpposite$Person", "turns", "()I"⟩ yX1_turns wsX1_turns) := goodIn_app (goodIn_of _ (by decide +kernel)) ggX11_fewestTurnings_X1_turns
set_option maxRecDepth 20000 in
theorem ggX11_fewestTurnings_X3_turns : GoodIn wsX11_fewestTurnings wsX3_turns := goodIn_r _ [49, 50, 51, 52, 53, 54, 34, 35, 36, 37, 31, 38, 39, 40, 41, 175, 176, 177, 178, 179, 180, 181, 182] (by decide +kernel) (by decide +kernel)
set_option maxRecDepth 20000 in
theorem gX11_fewestTurnings_X3_turns_u110X3 : GoodIn wsX11_fewestTurnings (va_wsO RX11 110 RX3 "DealtByOpposite$Person" ⟨"DealtByOpposite$Person", "turns", "()I"⟩ yX3_turns wsX3_turns) := goodIn_app (goodIn_of _ (by decide +kernel)) ggX11_fewestTurnings_X3_turns
set_option maxRecDepth 20000 in
theorem ggX11_fewestTurnings_X6_turns : GoodIn wsX11_fewestTurnings wsX6_turns := goodIn_r _ [41] (by decide +kernel) (by decide +kernel)
set_option maxRecDepth 20000 in
theorem gX11_fewestTurnings_X6_turns_u110X4 : GoodIn wsX11_fewestTurnings (va_wsU RX11 110 RX4 "DealtByOpposite$Person" ⟨"DealtByOpposite$Person", "turns", "()I"⟩ yX6_turns wsX6_turns) := goodIn_app (goodIn_of _ (by decide +kernel)) ggX11_fewestTurnings_X6_turns
set_option maxRecDepth 20000 in
theorem ggX11_fewestTurnings_X5_turns : GoodIn wsX11_fewestTurnings wsX5_turns := goodIn_r _ [59] (by decide +kernel) (by decide +kernel)
set_option maxRecDepth 20000 in
theorem gX11_fewestTurnings_X5_turns_u110X5 : GoodIn wsX11_fewestTurnings (va_wsO RX11 110 RX5 "DealtByOpposite$Person" ⟨"DealtByOpposite$Person", "turns", "()I"⟩ yX5_turns wsX5_turns) := goodIn_app (goodIn_of _ (by decide +kernel)) ggX11_fewestTurnings_X5_turns
set_option maxRecDepth 20000 in
theorem gX11_fewestTurnings_X6_turns : GoodIn wsX11_fewestTurnings (wsV RX11 110 RX6 yX6_turns wsX6_turns) := goodIn_app (goodIn_of _ (by decide +kernel)) ggX11_fewestTurnings_X6_turns
set_option maxRecDepth 20000 in
theorem ggX11_fewestTurnings_X8_turns : GoodIn wsX11_fewestTurnings wsX8_turns := goodIn_r _ [65] (by decide +kernel) (by decide +kernel)
set_option maxRecDepth 20000 in
theorem gX11_fewestTurnings_X8_turns_u110X8 : GoodIn wsX11_fewestTurnings (va_wsO RX11 110 RX8 "DealtByOpposite$Person" ⟨"DealtByOpposite$Person", "turns", "()I"⟩ yX8_turns wsX8_turns) := goodIn_app (goodIn_of _ (by decide +kernel)) ggX11_fewestTurnings_X8_turns
set_option maxRecDepth 20000 in
theorem gX11_fewestTurnings_X6_turns_u110X9 : GoodIn wsX11_fewestTurnings (va_wsU RX11 110 RX9 "DealtByOpposite$Person" ⟨"DealtByOpposite$Person", "turns", "()I"⟩ yX6_turns wsX6_turns) := goodIn_app (goodIn_of _ (by decide +kernel)) ggX11_fewestTurnings_X6_turns
set_option maxRecDepth 20000 in
theorem ggX11_fewestTurnings_X10_turningsTillUnfit : GoodIn wsX11_fewestTurnings wsX10_turningsTillUnfit := goodIn_r _ [70, 71, 72, 4, 5, 6, 73, 25, 26, 13, 27, 28, 29, 74, 75, 76, 77, 40, 78, 79, 80, 81, 44, 82, 83, 84, 85, 86, 87, 88, 89, 90, 91, 92, 93, 94, 95, 96, 97, 58, 98, 99, 100, 101, 102, 103, 104, 64, 105, 106, 107, 108, 109, 110, 111, 112, 113, 35, 114, 115, 116, 117, 38, 118, 119, 120, 121, 122, 123, 124, 48, 125, 126, 127, 54, 128, 129, 130, 131, 132, 133, 134, 135, 136, 137, 138, 139, 140, 141, 142, 143, 144, 145, 146, 147, 148, 149, 150, 151, 152, 153, 154, 155, 156, 157, 158, 16, 17, 18, 19, 20, 21, 22, 23, 168, 169, 170, 171, 172, 173, 174, 175, 176, 177, 178, 179, 180, 181, 182] (by decide +kernel) (by decide +kernel)
set_option maxRecDepth 20000 in
theorem gX11_fewestTurnings_X10_turningsTillUnfit : GoodIn wsX11_fewestTurnings (wsV RX11 178 RX10 yX10_turningsTillUnfit wsX10_turningsTillUnfit) := goodIn_app (goodIn_of _ (by decide +kernel)) ggX11_fewestTurnings_X10_turningsTillUnfit
theorem dX11_fewestTurnings_0 : decode cX11_fewestTurnings 0 = .ok (.bipush 9, 2) := by decide +kernel
theorem dX11_fewestTurnings_2 : decode cX11_fewestTurnings 2 = .ok (.aload_n 0, 1) := by decide +kernel
theorem dX11_fewestTurnings_3 : decode cX11_fewestTurnings 3 = .ok (.getfield 27, 3) := by decide +kernel
theorem dX11_fewestTurnings_6 : decode cX11_fewestTurnings 6 = .ok (.iload_n 1, 1) := by decide +kernel
theorem dX11_fewestTurnings_7 : decode cX11_fewestTurnings 7 = .ok (.invokevirtual 101, 3) := by decide +kernel
theorem dX11_fewestTurnings_10 : decode cX11_fewestTurnings 10 = .ok (.isub, 1) := by decide +kernel
theorem dX11_fewestTurnings_11 : decode cX11_fewestTurnings 11 = .ok (.istore_n 2, 1) := by decide +kernel
theorem dX11_fewestTurnings_12 : decode cX11_fewestTurnings 12 = .ok (.iconst 0, 1) := by decide +kernel
theorem dX11_fewestTurnings_13 : decode cX11_fewestTurnings 13 = .ok (.istore_n 3, 1) := by decide +kernel
theorem dX11_fewestTurnings_14 : decode cX11_fewestTurnings 14 = .ok (.bipush 9, 2) := by decide +kernel
theorem dX11_fewestTurnings_16 : decode cX11_fewestTurnings 16 = .ok (.istore 4, 2) := by decide +kernel
theorem dX11_fewestTurnings_18 : decode cX11_fewestTurnings 18 = .ok (.iload 4, 2) := by decide +kernel
theorem dX11_fewestTurnings_20 : decode cX11_fewestTurnings 20 = .ok (.ifCond .le 98, 3) := by decide +kernel
theorem dX11_fewestTurnings_23 : decode cX11_fewestTurnings 23 = .ok (.iconst 0, 1) := by decide +kernel
theorem dX11_fewestTurnings_24 : decode cX11_fewestTurnings 24 = .ok (.istore 5, 2) := by decide +kernel
theorem dX11_fewestTurnings_26 : decode cX11_fewestTurnings 26 = .ok (.iload 5, 2) := by decide +kernel
theorem dX11_fewestTurnings_28 : decode cX11_fewestTurnings 28 = .ok (.aload_n 0, 1) := by decide +kernel
theorem dX11_fewestTurnings_29 : decode cX11_fewestTurnings 29 = .ok (.getfield 27, 3) := by decide +kernel
theorem dX11_fewestTurnings_32 : decode cX11_fewestTurnings 32 = .ok (.getfield 131, 3) := by decide +kernel
theorem dX11_fewestTurnings_35 : decode cX11_fewestTurnings 35 = .ok (.if_icmp .ge 77, 3) := by decide +kernel
theorem dX11_fewestTurnings_38 : decode cX11_fewestTurnings 38 = .ok (.iload 5, 2) := by decide +kernel
theorem dX11_fewestTurnings_40 : decode cX11_fewestTurnings 40 = .ok (.iload_n 1, 1) := by decide +kernel
theorem dX11_fewestTurnings_41 : decode cX11_fewestTurnings 41 = .ok (.if_icmp .eq 65, 3) := by decide +kernel
theorem dX11_fewestTurnings_44 : decode cX11_fewestTurnings 44 = .ok (.aload_n 0, 1) := by decide +kernel
theorem dX11_fewestTurnings_45 : decode cX11_fewestTurnings 45 = .ok (.getfield 27, 3) := by decide +kernel
theorem dX11_fewestTurnings_48 : decode cX11_fewestTurnings 48 = .ok (.iload 5, 2) := by decide +kernel
theorem dX11_fewestTurnings_50 : decode cX11_fewestTurnings 50 = .ok (.invokevirtual 92, 3) := by decide +kernel
theorem dX11_fewestTurnings_53 : decode cX11_fewestTurnings 53 = .ok (.invokevirtual 110, 3) := by decide +kernel
theorem dX11_fewestTurnings_56 : decode cX11_fewestTurnings 56 = .ok (.iload 4, 2) := by decide +kernel
theorem dX11_fewestTurnings_58 : decode cX11_fewestTurnings 58 = .ok (.if_icmp .ne 48, 3) := by decide +kernel
theorem dX11_fewestTurnings_61 : decode cX11_fewestTurnings 61 = .ok (.iload_n 2, 1) := by decide +kernel
theorem dX11_fewestTurnings_62 : decode cX11_fewestTurnings 62 = .ok (.iload 4, 2) := by decide +kernel
theorem dX11_fewestTurnings_64 : decode cX11_fewestTurnings 64 = .ok (.iadd, 1) := by decide +kernel
theorem dX11_fewestTurnings_65 : decode cX11_fewestTurnings 65 = .ok (.iconst 1, 1) := by decide +kernel
theorem dX11_fewestTurnings_66 : decode cX11_fewestTurnings 66 = .ok (.isub, 1) := by decide +kernel
theorem dX11_fewestTurnings_67 : decode cX11_fewestTurnings 67 = .ok (.iload 4, 2) := by decide +kernel
theorem dX11_fewestTurnings_69 : decode cX11_fewestTurnings 69 = .ok (.idiv, 1) := by decide +kernel
theorem dX11_fewestTurnings_70 : decode cX11_fewestTurnings 70 = .ok (.istore 6, 2) := by decide +kernel
theorem dX11_fewestTurnings_72 : decode cX11_fewestTurnings 72 = .ok (.iload 6, 2) := by decide +kernel
theorem dX11_fewestTurnings_74 : decode cX11_fewestTurnings 74 = .ok (.aload_n 0, 1) := by decide +kernel
theorem dX11_fewestTurnings_75 : decode cX11_fewestTurnings 75 = .ok (.getfield 27, 3) := by decide +kernel
theorem dX11_fewestTurnings_78 : decode cX11_fewestTurnings 78 = .ok (.iload 5, 2) := by decide +kernel
theorem dX11_fewestTurnings_80 : decode cX11_fewestTurnings 80 = .ok (.iload_n 1, 1) := by decide +kernel
theorem dX11_fewestTurnings_81 : decode cX11_fewestTurnings 81 = .ok (.invokevirtual 178, 3) := by decide +kernel
theorem dX11_fewestTurnings_84 : decode cX11_fewestTurnings 84 = .ok (.invokestatic 195, 3) := by decide +kernel
theorem dX11_fewestTurnings_87 : decode cX11_fewestTurnings 87 = .ok (.istore 7, 2) := by decide +kernel
theorem dX11_fewestTurnings_89 : decode cX11_fewestTurnings 89 = .ok (.iconst 0, 1) := by decide +kernel
theorem dX11_fewestTurnings_90 : decode cX11_fewestTurnings 90 = .ok (.iload_n 2, 1) := by decide +kernel
theorem dX11_fewestTurnings_91 : decode cX11_fewestTurnings 91 = .ok (.iload 7, 2) := by decide +kernel
theorem dX11_fewestTurnings_93 : decode cX11_fewestTurnings 93 = .ok (.iload 4, 2) := by decide +kernel
theorem dX11_fewestTurnings_95 : decode cX11_fewestTurnings 95 = .ok (.imul, 1) := by decide +kernel
theorem dX11_fewestTurnings_96 : decode cX11_fewestTurnings 96 = .ok (.isub, 1) := by decide +kernel
theorem dX11_fewestTurnings_97 : decode cX11_fewestTurnings 97 = .ok (.invokestatic 224, 3) := by decide +kernel
theorem dX11_fewestTurnings_100 : decode cX11_fewestTurnings 100 = .ok (.istore_n 2, 1) := by decide +kernel
theorem dX11_fewestTurnings_101 : decode cX11_fewestTurnings 101 = .ok (.iload_n 3, 1) := by decide +kernel
theorem dX11_fewestTurnings_102 : decode cX11_fewestTurnings 102 = .ok (.iload 7, 2) := by decide +kernel
theorem dX11_fewestTurnings_104 : decode cX11_fewestTurnings 104 = .ok (.iadd, 1) := by decide +kernel
theorem dX11_fewestTurnings_105 : decode cX11_fewestTurnings 105 = .ok (.istore_n 3, 1) := by decide +kernel
theorem dX11_fewestTurnings_106 : decode cX11_fewestTurnings 106 = .ok (.iinc 5 1, 3) := by decide +kernel
theorem dX11_fewestTurnings_109 : decode cX11_fewestTurnings 109 = .ok (.goto (-83), 3) := by decide +kernel
theorem dX11_fewestTurnings_112 : decode cX11_fewestTurnings 112 = .ok (.iinc 4 (-1), 3) := by decide +kernel
theorem dX11_fewestTurnings_115 : decode cX11_fewestTurnings 115 = .ok (.goto (-97), 3) := by decide +kernel
theorem dX11_fewestTurnings_118 : decode cX11_fewestTurnings 118 = .ok (.iload_n 2, 1) := by decide +kernel
theorem dX11_fewestTurnings_119 : decode cX11_fewestTurnings 119 = .ok (.ifCond .le 8, 3) := by decide +kernel
theorem dX11_fewestTurnings_122 : decode cX11_fewestTurnings 122 = .ok (.bipush (-4), 2) := by decide +kernel
theorem dX11_fewestTurnings_124 : decode cX11_fewestTurnings 124 = .ok (.goto 4, 3) := by decide +kernel
theorem dX11_fewestTurnings_127 : decode cX11_fewestTurnings 127 = .ok (.iload_n 3, 1) := by decide +kernel
theorem dX11_fewestTurnings_128 : decode cX11_fewestTurnings 128 = .ok (.ireturn, 1) := by decide +kernel
set_option maxRecDepth 20000 in
theorem ggX11_strongestFit_X10_may : GoodIn wsX11_strongestFit wsX10_may := goodIn_r _ [8, 9, 10, 11, 7, 12, 13, 14, 15, 16, 17, 18, 19, 20, 21, 22, 23, 24, 25, 26, 27, 28, 29, 30, 31, 32, 33, 34, 35, 36, 37, 38, 39, 40, 41, 42, 43, 44, 45, 46, 47, 48, 49, 50, 51, 52, 53, 54, 55, 56, 57, 58, 59, 60, 61, 62, 63, 64, 65, 66, 67, 68, 69, 70, 114, 115, 116, 117, 118, 119, 120] (by decide +kernel) (by decide +kernel)
set_option maxRecDepth 20000 in
theorem gX11_strongestFit_X10_may : GoodIn wsX11_strongestFit (wsV RX11 175 RX10 yX10_may wsX10_may) := goodIn_app (goodIn_of _ (by decide +kernel)) ggX11_strongestFit_X10_may
set_option maxRecDepth 20000 in
theorem ggX11_strongestFit_X10_at : GoodIn wsX11_strongestFit wsX10_at := goodIn_r _ [29, 30, 31, 114, 115, 116, 117, 118, 119, 120] (by decide +kernel) (by decide +kernel)
set_option maxRecDepth 20000 in
theorem gX11_strongestFit_X10_at : GoodIn wsX11_strongestFit (wsV RX11 92 RX10 yX10_at wsX10_at) := goodIn_app (goodIn_of _ (by decide +kernel)) ggX11_strongestFit_X10_at
set_option maxRecDepth 20000 in
theorem ggX11_strongestFit_X0_turns : GoodIn wsX11_strongestFit wsX0_turns := goodIn_r _ [78, 79, 73, 80, 81, 36, 82] (by decide +kernel) (by decide +kernel)
set_option maxRecDepth 20000 in
theorem gX11_strongestFit_X0_turns_u110X0 : GoodIn wsX11_strongestFit (va_wsO RX11 110 RX0 "DealtByOpposite$Person" ⟨"DealtByOpposite$Person", "turns", "()I"⟩ yX0_turns wsX0_turns) := goodIn_app (goodIn_of _ (by decide +kernel)) ggX11_strongestFit_X0_turns
set_option maxRecDepth 20000 in
theorem ggX11_strongestFit_X1_turns : GoodIn wsX11_strongestFit wsX1_turns := goodIn_r _ [85] (by decide +kernel) (by decide +kernel)
set_option maxRecDepth 20000 in
theorem gX11_strongestFit_X1_turns_u110X1 : GoodIn wsX11_strongestFit (va_wsO RX11 110 RX1 "DealtByOpposite$Person" ⟨"DealtByOpposite$Person", "turns", "()I"⟩ yX1_turns wsX1_turns) := goodIn_app (goodIn_of _ (by decide +kernel)) ggX11_strongestFit_X1_turns
set_option maxRecDepth 20000 in
theorem ggX11_strongestFit_X3_turns : GoodIn wsX11_strongestFit wsX3_turns := goodIn_r _ [89, 90, 91, 92, 93, 94, 76, 77, 78, 79, 73, 80, 81, 36, 82, 121, 122, 123, 124, 125, 126, 127, 128] (by decide +kernel) (by decide +kernel)
set_option maxRecDepth 20000 in
theorem gX11_strongestFit_X3_turns_u110X3 : GoodIn wsX11_strongestFit (va_wsO RX11 110 RX3 "DealtByOpposite$Person" ⟨"DealtByOpposite$Person", "turns", "()I"⟩ yX3_turns wsX3_turns) := goodIn_app (goodIn_of _ (by decide +kernel)) ggX11_strongestFit_X3_turns
set_option maxRecDepth 20000 in
theorem ggX11_strongestFit_X6_turns : GoodIn wsX11_strongestFit wsX6_turns := goodIn_r _ [82] (by decide +kernel) (by decide +kernel)
set_option maxRecDepth 20000 in
theorem gX11_strongestFit_X6_turns_u110X4 : GoodIn wsX11_strongestFit (va_wsU RX11 110 RX4 "DealtByOpposite$Person" ⟨"DealtByOpposite$Person", "turns", "()I"⟩ yX6_turns wsX6_turns) := goodIn_app (goodIn_of _ (by decide +kernel)) ggX11_strongestFit_X6_turns
set_option maxRecDepth 20000 in
theorem ggX11_strongestFit_X5_turns : GoodIn wsX11_strongestFit wsX5_turns := goodIn_r _ [98] (by decide +kernel) (by decide +kernel)
set_option maxRecDepth 20000 in
theorem gX11_strongestFit_X5_turns_u110X5 : GoodIn wsX11_strongestFit (va_wsO RX11 110 RX5 "DealtByOpposite$Person" ⟨"DealtByOpposite$Person", "turns", "()I"⟩ yX5_turns wsX5_turns) := goodIn_app (goodIn_of _ (by decide +kernel)) ggX11_strongestFit_X5_turns
set_option maxRecDepth 20000 in
theorem gX11_strongestFit_X6_turns : GoodIn wsX11_strongestFit (wsV RX11 110 RX6 yX6_turns wsX6_turns) := goodIn_app (goodIn_of _ (by decide +kernel)) ggX11_strongestFit_X6_turns
set_option maxRecDepth 20000 in
theorem ggX11_strongestFit_X8_turns : GoodIn wsX11_strongestFit wsX8_turns := goodIn_r _ [103] (by decide +kernel) (by decide +kernel)
set_option maxRecDepth 20000 in
theorem gX11_strongestFit_X8_turns_u110X8 : GoodIn wsX11_strongestFit (va_wsO RX11 110 RX8 "DealtByOpposite$Person" ⟨"DealtByOpposite$Person", "turns", "()I"⟩ yX8_turns wsX8_turns) := goodIn_app (goodIn_of _ (by decide +kernel)) ggX11_strongestFit_X8_turns
set_option maxRecDepth 20000 in
theorem gX11_strongestFit_X6_turns_u110X9 : GoodIn wsX11_strongestFit (va_wsU RX11 110 RX9 "DealtByOpposite$Person" ⟨"DealtByOpposite$Person", "turns", "()I"⟩ yX6_turns wsX6_turns) := goodIn_app (goodIn_of _ (by decide +kernel)) ggX11_strongestFit_X6_turns
theorem dX11_strongestFit_0 : decode cX11_strongestFit 0 = .ok (.bipush (-4), 2) := by decide +kernel
theorem dX11_strongestFit_2 : decode cX11_strongestFit 2 = .ok (.istore_n 2, 1) := by decide +kernel
theorem dX11_strongestFit_3 : decode cX11_strongestFit 3 = .ok (.iconst 0, 1) := by decide +kernel
theorem dX11_strongestFit_4 : decode cX11_strongestFit 4 = .ok (.istore_n 3, 1) := by decide +kernel
theorem dX11_strongestFit_5 : decode cX11_strongestFit 5 = .ok (.iconst 0, 1) := by decide +kernel
theorem dX11_strongestFit_6 : decode cX11_strongestFit 6 = .ok (.istore 4, 2) := by decide +kernel
theorem dX11_strongestFit_8 : decode cX11_strongestFit 8 = .ok (.iload 4, 2) := by decide +kernel
theorem dX11_strongestFit_10 : decode cX11_strongestFit 10 = .ok (.aload_n 0, 1) := by decide +kernel
theorem dX11_strongestFit_11 : decode cX11_strongestFit 11 = .ok (.getfield 27, 3) := by decide +kernel
theorem dX11_strongestFit_14 : decode cX11_strongestFit 14 = .ok (.getfield 131, 3) := by decide +kernel
theorem dX11_strongestFit_17 : decode cX11_strongestFit 17 = .ok (.if_icmp .ge 61, 3) := by decide +kernel
theorem dX11_strongestFit_20 : decode cX11_strongestFit 20 = .ok (.aload_n 0, 1) := by decide +kernel
theorem dX11_strongestFit_21 : decode cX11_strongestFit 21 = .ok (.getfield 27, 3) := by decide +kernel
theorem dX11_strongestFit_24 : decode cX11_strongestFit 24 = .ok (.iload 4, 2) := by decide +kernel
theorem dX11_strongestFit_26 : decode cX11_strongestFit 26 = .ok (.iload_n 1, 1) := by decide +kernel
theorem dX11_strongestFit_27 : decode cX11_strongestFit 27 = .ok (.aload_n 0, 1) := by decide +kernel
theorem dX11_strongestFit_28 : decode cX11_strongestFit 28 = .ok (.getfield 27, 3) := by decide +kernel
theorem dX11_strongestFit_31 : decode cX11_strongestFit 31 = .ok (.getfield 138, 3) := by decide +kernel
theorem dX11_strongestFit_34 : decode cX11_strongestFit 34 = .ok (.invokevirtual 175, 3) := by decide +kernel
theorem dX11_strongestFit_37 : decode cX11_strongestFit 37 = .ok (.ifCond .eq 35, 3) := by decide +kernel
theorem dX11_strongestFit_40 : decode cX11_strongestFit 40 = .ok (.aload_n 0, 1) := by decide +kernel
theorem dX11_strongestFit_41 : decode cX11_strongestFit 41 = .ok (.getfield 27, 3) := by decide +kernel
theorem dX11_strongestFit_44 : decode cX11_strongestFit 44 = .ok (.iload 4, 2) := by decide +kernel
theorem dX11_strongestFit_46 : decode cX11_strongestFit 46 = .ok (.invokevirtual 92, 3) := by decide +kernel
theorem dX11_strongestFit_49 : decode cX11_strongestFit 49 = .ok (.invokevirtual 110, 3) := by decide +kernel
theorem dX11_strongestFit_52 : decode cX11_strongestFit 52 = .ok (.iload_n 3, 1) := by decide +kernel
theorem dX11_strongestFit_53 : decode cX11_strongestFit 53 = .ok (.if_icmp .le 19, 3) := by decide +kernel
theorem dX11_strongestFit_56 : decode cX11_strongestFit 56 = .ok (.iload 4, 2) := by decide +kernel
theorem dX11_strongestFit_58 : decode cX11_strongestFit 58 = .ok (.istore_n 2, 1) := by decide +kernel
theorem dX11_strongestFit_59 : decode cX11_strongestFit 59 = .ok (.aload_n 0, 1) := by decide +kernel
theorem dX11_strongestFit_60 : decode cX11_strongestFit 60 = .ok (.getfield 27, 3) := by decide +kernel
theorem dX11_strongestFit_63 : decode cX11_strongestFit 63 = .ok (.iload 4, 2) := by decide +kernel
theorem dX11_strongestFit_65 : decode cX11_strongestFit 65 = .ok (.invokevirtual 92, 3) := by decide +kernel
theorem dX11_strongestFit_68 : decode cX11_strongestFit 68 = .ok (.invokevirtual 110, 3) := by decide +kernel
theorem dX11_strongestFit_71 : decode cX11_strongestFit 71 = .ok (.istore_n 3, 1) := by decide +kernel
theorem dX11_strongestFit_72 : decode cX11_strongestFit 72 = .ok (.iinc 4 1, 3) := by decide +kernel
theorem dX11_strongestFit_75 : decode cX11_strongestFit 75 = .ok (.goto (-67), 3) := by decide +kernel
theorem dX11_strongestFit_78 : decode cX11_strongestFit 78 = .ok (.iload_n 2, 1) := by decide +kernel
theorem dX11_strongestFit_79 : decode cX11_strongestFit 79 = .ok (.ireturn, 1) := by decide +kernel
set_option maxRecDepth 20000 in
theorem ggX11_allAreTold_X2_gather : GoodIn wsX11_allAreTold wsX2_gather := goodIn_r _ [7, 8, 9, 10, 11, 12, 13, 14, 15, 16, 17, 18, 19, 20, 21, 22, 23, 24, 25, 26, 27, 28, 29, 30, 31, 32, 33, 34, 35, 36, 37, 38, 39, 40, 41, 42, 43, 44, 45, 46, 47, 48, 49, 50, 51, 52, 53, 54, 55, 56, 57, 58, 59, 60, 61, 62, 63, 64, 65, 66, 67, 68, 69, 70, 71, 72, 73, 74, 75, 76, 77, 78, 79, 80, 81, 82, 83, 84, 85, 86, 87, 109, 110, 111, 112, 113, 114, 115, 116, 117, 118, 119] (by decide +kernel) (by decide +kernel)
set_option maxRecDepth 20000 in
theorem gX11_allAreTold_X2_gather : GoodIn wsX11_allAreTold (wsV RX11 159 RX2 yX2_gather wsX2_gather) := goodIn_app (goodIn_of _ (by decide +kernel)) ggX11_allAreTold_X2_gather
set_option maxRecDepth 20000 in
theorem ggX11_allAreTold_X2_waysForAll : GoodIn wsX11_allAreTold wsX2_waysForAll := goodIn_r _ [91, 13, 92, 14, 86, 39, 87, 93, 94, 95, 96, 97, 98, 99, 38, 40, 116, 117, 118, 119] (by decide +kernel) (by decide +kernel)
set_option maxRecDepth 20000 in
theorem gX11_allAreTold_X2_waysForAll : GoodIn wsX11_allAreTold (wsV RX11 169 RX2 yX2_waysForAll wsX2_waysForAll) := goodIn_app (goodIn_of _ (by decide +kernel)) ggX11_allAreTold_X2_waysForAll
theorem dX11_allAreTold_0 : decode cX11_allAreTold 0 = .ok (.aload_n 0, 1) := by decide +kernel
theorem dX11_allAreTold_1 : decode cX11_allAreTold 1 = .ok (.getfield 40, 3) := by decide +kernel
theorem dX11_allAreTold_4 : decode cX11_allAreTold 4 = .ok (.aload_n 0, 1) := by decide +kernel
theorem dX11_allAreTold_5 : decode cX11_allAreTold 5 = .ok (.getfield 27, 3) := by decide +kernel
theorem dX11_allAreTold_8 : decode cX11_allAreTold 8 = .ok (.iload_n 1, 1) := by decide +kernel
theorem dX11_allAreTold_9 : decode cX11_allAreTold 9 = .ok (.invokevirtual 159, 3) := by decide +kernel
theorem dX11_allAreTold_12 : decode cX11_allAreTold 12 = .ok (.aload_n 0, 1) := by decide +kernel
theorem dX11_allAreTold_13 : decode cX11_allAreTold 13 = .ok (.getfield 40, 3) := by decide +kernel
theorem dX11_allAreTold_16 : decode cX11_allAreTold 16 = .ok (.invokevirtual 169, 3) := by decide +kernel
theorem dX11_allAreTold_19 : decode cX11_allAreTold 19 = .ok (.ifCond .le 7, 3) := by decide +kernel
theorem dX11_allAreTold_22 : decode cX11_allAreTold 22 = .ok (.iconst 1, 1) := by decide +kernel
theorem dX11_allAreTold_23 : decode cX11_allAreTold 23 = .ok (.goto 4, 3) := by decide +kernel
theorem dX11_allAreTold_26 : decode cX11_allAreTold 26 = .ok (.iconst 0, 1) := by decide +kernel
theorem dX11_allAreTold_27 : decode cX11_allAreTold 27 = .ok (.ireturn, 1) := by decide +kernel
set_option maxRecDepth 20000 in
theorem ggX11_eachHasSomebody_X10_fitFor : GoodIn wsX11_eachHasSomebody wsX10_fitFor := goodIn_r _ [7, 8, 9, 10, 11, 6, 12, 13, 14, 15, 16, 17, 18, 19, 20, 21, 22, 23, 24, 25, 26, 27, 28, 29, 30, 31, 32, 33, 34, 35, 36, 37, 38, 39, 40, 41, 42, 43, 44, 45, 46, 47, 48, 49, 50, 51, 52, 53, 54, 55, 56, 57, 58, 59, 60, 61, 62, 63, 64, 65, 66, 67, 68, 69, 70, 71, 72, 73, 83, 84, 85, 86, 87, 88, 89] (by decide +kernel) (by decide +kernel)
set_option maxRecDepth 20000 in
theorem gX11_eachHasSomebody_X10_fitFor : GoodIn wsX11_eachHasSomebody (wsV RX11 156 RX10 yX10_fitFor wsX10_fitFor) := goodIn_app (goodIn_of _ (by decide +kernel)) ggX11_eachHasSomebody_X10_fitFor
theorem dX11_eachHasSomebody_0 : decode cX11_eachHasSomebody 0 = .ok (.iconst 0, 1) := by decide +kernel
theorem dX11_eachHasSomebody_1 : decode cX11_eachHasSomebody 1 = .ok (.istore_n 2, 1) := by decide +kernel
theorem dX11_eachHasSomebody_2 : decode cX11_eachHasSomebody 2 = .ok (.iload_n 2, 1) := by decide +kernel
theorem dX11_eachHasSomebody_3 : decode cX11_eachHasSomebody 3 = .ok (.aload_n 0, 1) := by decide +kernel
theorem dX11_eachHasSomebody_4 : decode cX11_eachHasSomebody 4 = .ok (.getfield 27, 3) := by decide +kernel
theorem dX11_eachHasSomebody_7 : decode cX11_eachHasSomebody 7 = .ok (.getfield 131, 3) := by decide +kernel
theorem dX11_eachHasSomebody_10 : decode cX11_eachHasSomebody 10 = .ok (.if_icmp .ge 23, 3) := by decide +kernel
theorem dX11_eachHasSomebody_13 : decode cX11_eachHasSomebody 13 = .ok (.aload_n 0, 1) := by decide +kernel
theorem dX11_eachHasSomebody_14 : decode cX11_eachHasSomebody 14 = .ok (.getfield 27, 3) := by decide +kernel
theorem dX11_eachHasSomebody_17 : decode cX11_eachHasSomebody 17 = .ok (.iload_n 2, 1) := by decide +kernel
theorem dX11_eachHasSomebody_18 : decode cX11_eachHasSomebody 18 = .ok (.iload_n 1, 1) := by decide +kernel
theorem dX11_eachHasSomebody_19 : decode cX11_eachHasSomebody 19 = .ok (.invokevirtual 156, 3) := by decide +kernel
theorem dX11_eachHasSomebody_22 : decode cX11_eachHasSomebody 22 = .ok (.ifCond .ne 5, 3) := by decide +kernel
theorem dX11_eachHasSomebody_25 : decode cX11_eachHasSomebody 25 = .ok (.iconst 0, 1) := by decide +kernel
theorem dX11_eachHasSomebody_26 : decode cX11_eachHasSomebody 26 = .ok (.ireturn, 1) := by decide +kernel
theorem dX11_eachHasSomebody_27 : decode cX11_eachHasSomebody 27 = .ok (.iinc 2 1, 3) := by decide +kernel
theorem dX11_eachHasSomebody_30 : decode cX11_eachHasSomebody 30 = .ok (.goto (-28), 3) := by decide +kernel
theorem dX11_eachHasSomebody_33 : decode cX11_eachHasSomebody 33 = .ok (.iconst 1, 1) := by decide +kernel
theorem dX11_eachHasSomebody_34 : decode cX11_eachHasSomebody 34 = .ok (.ireturn, 1) := by decide +kernel
set_option maxRecDepth 20000 in
theorem ggX11_isBestChoice_X11_gain : GoodIn wsX11_isBestChoice wsX11_gain := goodIn_r _ [4] (by decide +kernel) (by decide +kernel)
set_option maxRecDepth 20000 in
theorem gX11_isBestChoice_X11_gain : GoodIn wsX11_isBestChoice (va_wsS RX11 300 yX11_gain wsX11_gain) := goodIn_app (goodIn_of _ (by decide +kernel)) ggX11_isBestChoice_X11_gain
theorem dX11_isBestChoice_0 : decode cX11_isBestChoice 0 = .ok (.iconst 1, 1) := by decide +kernel
theorem dX11_isBestChoice_1 : decode cX11_isBestChoice 1 = .ok (.iload_n 0, 1) := by decide +kernel
theorem dX11_isBestChoice_2 : decode cX11_isBestChoice 2 = .ok (.isub, 1) := by decide +kernel
theorem dX11_isBestChoice_3 : decode cX11_isBestChoice 3 = .ok (.istore 4, 2) := by decide +kernel
theorem dX11_isBestChoice_5 : decode cX11_isBestChoice 5 = .ok (.iload 4, 2) := by decide +kernel
theorem dX11_isBestChoice_7 : decode cX11_isBestChoice 7 = .ok (.iload_n 2, 1) := by decide +kernel
theorem dX11_isBestChoice_8 : decode cX11_isBestChoice 8 = .ok (.if_icmp .gt 19, 3) := by decide +kernel
theorem dX11_isBestChoice_11 : decode cX11_isBestChoice 11 = .ok (.iload 4, 2) := by decide +kernel
theorem dX11_isBestChoice_13 : decode cX11_isBestChoice 13 = .ok (.iload_n 1, 1) := by decide +kernel
theorem dX11_isBestChoice_14 : decode cX11_isBestChoice 14 = .ok (.iload_n 3, 1) := by decide +kernel
theorem dX11_isBestChoice_15 : decode cX11_isBestChoice 15 = .ok (.invokestatic 300, 3) := by decide +kernel
theorem dX11_isBestChoice_18 : decode cX11_isBestChoice 18 = .ok (.iload_n 0, 1) := by decide +kernel
theorem dX11_isBestChoice_19 : decode cX11_isBestChoice 19 = .ok (.iload_n 1, 1) := by decide +kernel
theorem dX11_isBestChoice_20 : decode cX11_isBestChoice 20 = .ok (.iload_n 3, 1) := by decide +kernel
theorem dX11_isBestChoice_21 : decode cX11_isBestChoice 21 = .ok (.invokestatic 300, 3) := by decide +kernel
theorem dX11_isBestChoice_24 : decode cX11_isBestChoice 24 = .ok (.if_icmp .gt 7, 3) := by decide +kernel
theorem dX11_isBestChoice_27 : decode cX11_isBestChoice 27 = .ok (.iconst 1, 1) := by decide +kernel
theorem dX11_isBestChoice_28 : decode cX11_isBestChoice 28 = .ok (.goto 4, 3) := by decide +kernel
theorem dX11_isBestChoice_31 : decode cX11_isBestChoice 31 = .ok (.iconst 0, 1) := by decide +kernel
theorem dX11_isBestChoice_32 : decode cX11_isBestChoice 32 = .ok (.ireturn, 1) := by decide +kernel
theorem dX11_gain_0 : decode cX11_gain 0 = .ok (.iload_n 0, 1) := by decide +kernel
theorem dX11_gain_1 : decode cX11_gain 1 = .ok (.iconst 1, 1) := by decide +kernel
theorem dX11_gain_2 : decode cX11_gain 2 = .ok (.if_icmp .ne 12, 3) := by decide +kernel
theorem dX11_gain_5 : decode cX11_gain 5 = .ok (.iload_n 1, 1) := by decide +kernel
theorem dX11_gain_6 : decode cX11_gain 6 = .ok (.iconst 1, 1) := by decide +kernel
theorem dX11_gain_7 : decode cX11_gain 7 = .ok (.if_icmp .ne 7, 3) := by decide +kernel
theorem dX11_gain_10 : decode cX11_gain 10 = .ok (.iconst 2, 1) := by decide +kernel
theorem dX11_gain_11 : decode cX11_gain 11 = .ok (.goto 4, 3) := by decide +kernel
theorem dX11_gain_14 : decode cX11_gain 14 = .ok (.iconst 0, 1) := by decide +kernel
theorem dX11_gain_15 : decode cX11_gain 15 = .ok (.istore_n 3, 1) := by decide +kernel
theorem dX11_gain_16 : decode cX11_gain 16 = .ok (.iconst 3, 1) := by decide +kernel
theorem dX11_gain_17 : decode cX11_gain 17 = .ok (.iload_n 1, 1) := by decide +kernel
theorem dX11_gain_18 : decode cX11_gain 18 = .ok (.imul, 1) := by decide +kernel
theorem dX11_gain_19 : decode cX11_gain 19 = .ok (.iload_n 2, 1) := by decide +kernel
theorem dX11_gain_20 : decode cX11_gain 20 = .ok (.iload_n 0, 1) := by decide +kernel
theorem dX11_gain_21 : decode cX11_gain 21 = .ok (.imul, 1) := by decide +kernel
theorem dX11_gain_22 : decode cX11_gain 22 = .ok (.isub, 1) := by decide +kernel
theorem dX11_gain_23 : decode cX11_gain 23 = .ok (.iload_n 3, 1) := by decide +kernel
theorem dX11_gain_24 : decode cX11_gain 24 = .ok (.iadd, 1) := by decide +kernel
theorem dX11_gain_25 : decode cX11_gain 25 = .ok (.ireturn, 1) := by decide +kernel
set_option maxRecDepth 20000 in
theorem ggX11_firstNotAtLevel_X7_at : GoodIn wsX11_firstNotAtLevel wsX7_at := goodIn_r _ [7, 8, 9, 10, 11, 6, 12, 13, 14, 15, 16, 51, 52, 53] (by decide +kernel) (by decide +kernel)
set_option maxRecDepth 20000 in
theorem gX11_firstNotAtLevel_X7_at : GoodIn wsX11_firstNotAtLevel (wsV RX11 75 RX7 yX7_at wsX7_at) := goodIn_app (goodIn_of _ (by decide +kernel)) ggX11_firstNotAtLevel_X7_at
set_option maxRecDepth 20000 in
theorem ggX11_firstNotAtLevel_X7_leastNumber : GoodIn wsX11_firstNotAtLevel wsX7_leastNumber := goodIn_r _ [20, 21, 22, 51, 52, 53] (by decide +kernel) (by decide +kernel)
set_option maxRecDepth 20000 in
theorem gX11_firstNotAtLevel_X7_leastNumber : GoodIn wsX11_firstNotAtLevel (wsV RX11 230 RX7 yX7_leastNumber wsX7_leastNumber) := goodIn_app (goodIn_of _ (by decide +kernel)) ggX11_firstNotAtLevel_X7_leastNumber
set_option maxRecDepth 20000 in
theorem ggX11_firstNotAtLevel_X10_at : GoodIn wsX11_firstNotAtLevel wsX10_at := goodIn_r _ [27, 28, 29, 63, 64, 65, 66, 67, 68, 69] (by decide +kernel) (by decide +kernel)
set_option maxRecDepth 20000 in
theorem gX11_firstNotAtLevel_X10_at : GoodIn wsX11_firstNotAtLevel (wsV RX11 92 RX10 yX10_at wsX10_at) := goodIn_app (goodIn_of _ (by decide +kernel)) ggX11_firstNotAtLevel_X10_at
set_option maxRecDepth 20000 in
theorem ggX11_firstNotAtLevel_X0_shows : GoodIn wsX11_firstNotAtLevel wsX0_shows := goodIn_r _ [36] (by decide +kernel) (by decide +kernel)
set_option maxRecDepth 20000 in
theorem gX11_firstNotAtLevel_X0_shows_u304X0 : GoodIn wsX11_firstNotAtLevel (va_wsO RX11 304 RX0 "DealtByOpposite$Person" ⟨"DealtByOpposite$Person", "shows", "(I)I"⟩ yX0_shows wsX0_shows) := goodIn_app (goodIn_of _ (by decide +kernel)) ggX11_firstNotAtLevel_X0_shows
set_option maxRecDepth 20000 in
theorem ggX11_firstNotAtLevel_X6_shows : GoodIn wsX11_firstNotAtLevel wsX6_shows := goodIn_r _ [37] (by decide +kernel) (by decide +kernel)
set_option maxRecDepth 20000 in
theorem gX11_firstNotAtLevel_X6_shows_u304X1 : GoodIn wsX11_firstNotAtLevel (va_wsU RX11 304 RX1 "DealtByOpposite$Person" ⟨"DealtByOpposite$Person", "shows", "(I)I"⟩ yX6_shows wsX6_shows) := goodIn_app (goodIn_of _ (by decide +kernel)) ggX11_firstNotAtLevel_X6_shows
set_option maxRecDepth 20000 in
theorem ggX11_firstNotAtLevel_X3_shows : GoodIn wsX11_firstNotAtLevel wsX3_shows := goodIn_r _ [44] (by decide +kernel) (by decide +kernel)
set_option maxRecDepth 20000 in
theorem gX11_firstNotAtLevel_X3_shows_u304X3 : GoodIn wsX11_firstNotAtLevel (va_wsO RX11 304 RX3 "DealtByOpposite$Person" ⟨"DealtByOpposite$Person", "shows", "(I)I"⟩ yX3_shows wsX3_shows) := goodIn_app (goodIn_of _ (by decide +kernel)) ggX11_firstNotAtLevel_X3_shows
set_option maxRecDepth 20000 in
theorem gX11_firstNotAtLevel_X6_shows_u304X4 : GoodIn wsX11_firstNotAtLevel (va_wsU RX11 304 RX4 "DealtByOpposite$Person" ⟨"DealtByOpposite$Person", "shows", "(I)I"⟩ yX6_shows wsX6_shows) := goodIn_app (goodIn_of _ (by decide +kernel)) ggX11_firstNotAtLevel_X6_shows
set_option maxRecDepth 20000 in
theorem gX11_firstNotAtLevel_X6_shows_u304X5 : GoodIn wsX11_firstNotAtLevel (va_wsU RX11 304 RX5 "DealtByOpposite$Person" ⟨"DealtByOpposite$Person", "shows", "(I)I"⟩ yX6_shows wsX6_shows) := goodIn_app (goodIn_of _ (by decide +kernel)) ggX11_firstNotAtLevel_X6_shows
set_option maxRecDepth 20000 in
theorem gX11_firstNotAtLevel_X6_shows : GoodIn wsX11_firstNotAtLevel (wsV RX11 304 RX6 yX6_shows wsX6_shows) := goodIn_app (goodIn_of _ (by decide +kernel)) ggX11_firstNotAtLevel_X6_shows
set_option maxRecDepth 20000 in
theorem gX11_firstNotAtLevel_X6_shows_u304X8 : GoodIn wsX11_firstNotAtLevel (va_wsU RX11 304 RX8 "DealtByOpposite$Person" ⟨"DealtByOpposite$Person", "shows", "(I)I"⟩ yX6_shows wsX6_shows) := goodIn_app (goodIn_of _ (by decide +kernel)) ggX11_firstNotAtLevel_X6_shows
set_option maxRecDepth 20000 in
theorem gX11_firstNotAtLevel_X6_shows_u304X9 : GoodIn wsX11_firstNotAtLevel (va_wsU RX11 304 RX9 "DealtByOpposite$Person" ⟨"DealtByOpposite$Person", "shows", "(I)I"⟩ yX6_shows wsX6_shows) := goodIn_app (goodIn_of _ (by decide +kernel)) ggX11_firstNotAtLevel_X6_shows
theorem dX11_firstNotAtLevel_0 : decode cX11_firstNotAtLevel 0 = .ok (.iconst 0, 1) := by decide +kernel
theorem dX11_firstNotAtLevel_1 : decode cX11_firstNotAtLevel 1 = .ok (.istore 4, 2) := by decide +kernel
theorem dX11_firstNotAtLevel_3 : decode cX11_firstNotAtLevel 3 = .ok (.iload 4, 2) := by decide +kernel
theorem dX11_firstNotAtLevel_5 : decode cX11_firstNotAtLevel 5 = .ok (.aload_n 2, 1) := by decide +kernel
theorem dX11_firstNotAtLevel_6 : decode cX11_firstNotAtLevel 6 = .ok (.getfield 72, 3) := by decide +kernel
theorem dX11_firstNotAtLevel_9 : decode cX11_firstNotAtLevel 9 = .ok (.if_icmp .ge 65, 3) := by decide +kernel
theorem dX11_firstNotAtLevel_12 : decode cX11_firstNotAtLevel 12 = .ok (.aload_n 2, 1) := by decide +kernel
theorem dX11_firstNotAtLevel_13 : decode cX11_firstNotAtLevel 13 = .ok (.iload 4, 2) := by decide +kernel
theorem dX11_firstNotAtLevel_15 : decode cX11_firstNotAtLevel 15 = .ok (.invokevirtual 75, 3) := by decide +kernel
theorem dX11_firstNotAtLevel_18 : decode cX11_firstNotAtLevel 18 = .ok (.istore 5, 2) := by decide +kernel
theorem dX11_firstNotAtLevel_20 : decode cX11_firstNotAtLevel 20 = .ok (.iload 4, 2) := by decide +kernel
theorem dX11_firstNotAtLevel_22 : decode cX11_firstNotAtLevel 22 = .ok (.iload_n 1, 1) := by decide +kernel
theorem dX11_firstNotAtLevel_23 : decode cX11_firstNotAtLevel 23 = .ok (.if_icmp .eq 12, 3) := by decide +kernel
theorem dX11_firstNotAtLevel_26 : decode cX11_firstNotAtLevel 26 = .ok (.iload 5, 2) := by decide +kernel
theorem dX11_firstNotAtLevel_28 : decode cX11_firstNotAtLevel 28 = .ok (.aload_n 2, 1) := by decide +kernel
theorem dX11_firstNotAtLevel_29 : decode cX11_firstNotAtLevel 29 = .ok (.invokevirtual 230, 3) := by decide +kernel
theorem dX11_firstNotAtLevel_32 : decode cX11_firstNotAtLevel 32 = .ok (.if_icmp .ne 7, 3) := by decide +kernel
theorem dX11_firstNotAtLevel_35 : decode cX11_firstNotAtLevel 35 = .ok (.iconst 1, 1) := by decide +kernel
theorem dX11_firstNotAtLevel_36 : decode cX11_firstNotAtLevel 36 = .ok (.goto 4, 3) := by decide +kernel
theorem dX11_firstNotAtLevel_39 : decode cX11_firstNotAtLevel 39 = .ok (.iconst 0, 1) := by decide +kernel
theorem dX11_firstNotAtLevel_40 : decode cX11_firstNotAtLevel 40 = .ok (.istore 6, 2) := by decide +kernel
theorem dX11_firstNotAtLevel_42 : decode cX11_firstNotAtLevel 42 = .ok (.iload 6, 2) := by decide +kernel
theorem dX11_firstNotAtLevel_44 : decode cX11_firstNotAtLevel 44 = .ok (.ifCond .ne 24, 3) := by decide +kernel
theorem dX11_firstNotAtLevel_47 : decode cX11_firstNotAtLevel 47 = .ok (.aload_n 0, 1) := by decide +kernel
theorem dX11_firstNotAtLevel_48 : decode cX11_firstNotAtLevel 48 = .ok (.getfield 27, 3) := by decide +kernel
theorem dX11_firstNotAtLevel_51 : decode cX11_firstNotAtLevel 51 = .ok (.iload 4, 2) := by decide +kernel
theorem dX11_firstNotAtLevel_53 : decode cX11_firstNotAtLevel 53 = .ok (.invokevirtual 92, 3) := by decide +kernel
theorem dX11_firstNotAtLevel_56 : decode cX11_firstNotAtLevel 56 = .ok (.iload_n 3, 1) := by decide +kernel
theorem dX11_firstNotAtLevel_57 : decode cX11_firstNotAtLevel 57 = .ok (.invokevirtual 304, 3) := by decide +kernel
theorem dX11_firstNotAtLevel_60 : decode cX11_firstNotAtLevel 60 = .ok (.iload 5, 2) := by decide +kernel
theorem dX11_firstNotAtLevel_62 : decode cX11_firstNotAtLevel 62 = .ok (.if_icmp .eq 6, 3) := by decide +kernel
theorem dX11_firstNotAtLevel_65 : decode cX11_firstNotAtLevel 65 = .ok (.iload 4, 2) := by decide +kernel
theorem dX11_firstNotAtLevel_67 : decode cX11_firstNotAtLevel 67 = .ok (.ireturn, 1) := by decide +kernel
theorem dX11_firstNotAtLevel_68 : decode cX11_firstNotAtLevel 68 = .ok (.iinc 4 1, 3) := by decide +kernel
theorem dX11_firstNotAtLevel_71 : decode cX11_firstNotAtLevel 71 = .ok (.goto (-68), 3) := by decide +kernel
theorem dX11_firstNotAtLevel_74 : decode cX11_firstNotAtLevel 74 = .ok (.bipush (-4), 2) := by decide +kernel
theorem dX11_firstNotAtLevel_76 : decode cX11_firstNotAtLevel 76 = .ok (.ireturn, 1) := by decide +kernel
theorem dX11_draw_0 : decode cX11_draw 0 = .ok (.aload_n 0, 1) := by decide +kernel
theorem dX11_draw_1 : decode cX11_draw 1 = .ok (.aload_n 0, 1) := by decide +kernel
theorem dX11_draw_2 : decode cX11_draw 2 = .ok (.getfield 48, 3) := by decide +kernel
theorem dX11_draw_5 : decode cX11_draw 5 = .ok (.ldc_w 307, 3) := by decide +kernel
theorem dX11_draw_8 : decode cX11_draw 8 = .ok (.imul, 1) := by decide +kernel
theorem dX11_draw_9 : decode cX11_draw 9 = .ok (.sipush 12345, 3) := by decide +kernel
theorem dX11_draw_12 : decode cX11_draw 12 = .ok (.iadd, 1) := by decide +kernel
theorem dX11_draw_13 : decode cX11_draw 13 = .ok (.putfield 48, 3) := by decide +kernel
theorem dX11_draw_16 : decode cX11_draw 16 = .ok (.aload_n 0, 1) := by decide +kernel
theorem dX11_draw_17 : decode cX11_draw 17 = .ok (.getfield 48, 3) := by decide +kernel
theorem dX11_draw_20 : decode cX11_draw 20 = .ok (.ldc_w 308, 3) := by decide +kernel
theorem dX11_draw_23 : decode cX11_draw 23 = .ok (.iand, 1) := by decide +kernel
theorem dX11_draw_24 : decode cX11_draw 24 = .ok (.ldc_w 309, 3) := by decide +kernel
theorem dX11_draw_27 : decode cX11_draw 27 = .ok (.idiv, 1) := by decide +kernel
theorem dX11_draw_28 : decode cX11_draw 28 = .ok (.istore_n 2, 1) := by decide +kernel
theorem dX11_draw_29 : decode cX11_draw 29 = .ok (.iload_n 1, 1) := by decide +kernel
theorem dX11_draw_30 : decode cX11_draw 30 = .ok (.ifCond .le 9, 3) := by decide +kernel
theorem dX11_draw_33 : decode cX11_draw 33 = .ok (.iload_n 2, 1) := by decide +kernel
theorem dX11_draw_34 : decode cX11_draw 34 = .ok (.iload_n 1, 1) := by decide +kernel
theorem dX11_draw_35 : decode cX11_draw 35 = .ok (.irem, 1) := by decide +kernel
theorem dX11_draw_36 : decode cX11_draw 36 = .ok (.goto 4, 3) := by decide +kernel
theorem dX11_draw_39 : decode cX11_draw 39 = .ok (.iconst 0, 1) := by decide +kernel
theorem dX11_draw_40 : decode cX11_draw 40 = .ok (.ireturn, 1) := by decide +kernel
theorem dX11_power_0 : decode cX11_power 0 = .ok (.lconst 1, 1) := by decide +kernel
theorem dX11_power_1 : decode cX11_power 1 = .ok (.lstore_n 2, 1) := by decide +kernel
theorem dX11_power_2 : decode cX11_power 2 = .ok (.iconst 0, 1) := by decide +kernel
theorem dX11_power_3 : decode cX11_power 3 = .ok (.istore 4, 2) := by decide +kernel
theorem dX11_power_5 : decode cX11_power 5 = .ok (.iload 4, 2) := by decide +kernel
theorem dX11_power_7 : decode cX11_power 7 = .ok (.iload_n 1, 1) := by decide +kernel
theorem dX11_power_8 : decode cX11_power 8 = .ok (.if_icmp .ge 14, 3) := by decide +kernel
theorem dX11_power_11 : decode cX11_power 11 = .ok (.lload_n 2, 1) := by decide +kernel
theorem dX11_power_12 : decode cX11_power 12 = .ok (.iload_n 0, 1) := by decide +kernel
theorem dX11_power_13 : decode cX11_power 13 = .ok (.i2l, 1) := by decide +kernel
theorem dX11_power_14 : decode cX11_power 14 = .ok (.lmul, 1) := by decide +kernel
theorem dX11_power_15 : decode cX11_power 15 = .ok (.lstore_n 2, 1) := by decide +kernel
theorem dX11_power_16 : decode cX11_power 16 = .ok (.iinc 4 1, 3) := by decide +kernel
theorem dX11_power_19 : decode cX11_power 19 = .ok (.goto (-14), 3) := by decide +kernel
theorem dX11_power_22 : decode cX11_power 22 = .ok (.lload_n 2, 1) := by decide +kernel
theorem dX11_power_23 : decode cX11_power 23 = .ok (.lreturn, 1) := by decide +kernel
set_option maxRecDepth 20000 in
theorem ggX11_partInLeastTerms_X11_commonDivisor : GoodIn wsX11_partInLeastTerms wsX11_commonDivisor := goodIn_r _ [4] (by decide +kernel) (by decide +kernel)
set_option maxRecDepth 20000 in
theorem gX11_partInLeastTerms_X11_commonDivisor : GoodIn wsX11_partInLeastTerms (va_wsS RX11 310 yX11_commonDivisor wsX11_commonDivisor) := goodIn_app (goodIn_of _ (by decide +kernel)) ggX11_partInLeastTerms_X11_commonDivisor
theorem dX11_partInLeastTerms_0 : decode cX11_partInLeastTerms 0 = .ok (.iload 4, 2) := by decide +kernel
theorem dX11_partInLeastTerms_2 : decode cX11_partInLeastTerms 2 = .ok (.ifCond .ne 7, 3) := by decide +kernel
theorem dX11_partInLeastTerms_5 : decode cX11_partInLeastTerms 5 = .ok (.lload_n 0, 1) := by decide +kernel
theorem dX11_partInLeastTerms_6 : decode cX11_partInLeastTerms 6 = .ok (.goto 4, 3) := by decide +kernel
theorem dX11_partInLeastTerms_9 : decode cX11_partInLeastTerms 9 = .ok (.lload_n 2, 1) := by decide +kernel
theorem dX11_partInLeastTerms_10 : decode cX11_partInLeastTerms 10 = .ok (.lstore 5, 2) := by decide +kernel
theorem dX11_partInLeastTerms_12 : decode cX11_partInLeastTerms 12 = .ok (.lload_n 0, 1) := by decide +kernel
theorem dX11_partInLeastTerms_13 : decode cX11_partInLeastTerms 13 = .ok (.lload_n 2, 1) := by decide +kernel
theorem dX11_partInLeastTerms_14 : decode cX11_partInLeastTerms 14 = .ok (.invokestatic 310, 3) := by decide +kernel
theorem dX11_partInLeastTerms_17 : decode cX11_partInLeastTerms 17 = .ok (.lstore 7, 2) := by decide +kernel
theorem dX11_partInLeastTerms_19 : decode cX11_partInLeastTerms 19 = .ok (.lload 7, 2) := by decide +kernel
theorem dX11_partInLeastTerms_21 : decode cX11_partInLeastTerms 21 = .ok (.lconst 0, 1) := by decide +kernel
theorem dX11_partInLeastTerms_22 : decode cX11_partInLeastTerms 22 = .ok (.lcmp, 1) := by decide +kernel
theorem dX11_partInLeastTerms_23 : decode cX11_partInLeastTerms 23 = .ok (.ifCond .ne 8, 3) := by decide +kernel
theorem dX11_partInLeastTerms_26 : decode cX11_partInLeastTerms 26 = .ok (.lload 5, 2) := by decide +kernel
theorem dX11_partInLeastTerms_28 : decode cX11_partInLeastTerms 28 = .ok (.goto 8, 3) := by decide +kernel
theorem dX11_partInLeastTerms_31 : decode cX11_partInLeastTerms 31 = .ok (.lload 5, 2) := by decide +kernel
theorem dX11_partInLeastTerms_33 : decode cX11_partInLeastTerms 33 = .ok (.lload 7, 2) := by decide +kernel
theorem dX11_partInLeastTerms_35 : decode cX11_partInLeastTerms 35 = .ok (.ldiv, 1) := by decide +kernel
theorem dX11_partInLeastTerms_36 : decode cX11_partInLeastTerms 36 = .ok (.lreturn, 1) := by decide +kernel
theorem dX11_commonDivisor_0 : decode cX11_commonDivisor 0 = .ok (.iconst 0, 1) := by decide +kernel
theorem dX11_commonDivisor_1 : decode cX11_commonDivisor 1 = .ok (.istore 4, 2) := by decide +kernel
theorem dX11_commonDivisor_3 : decode cX11_commonDivisor 3 = .ok (.iload 4, 2) := by decide +kernel
theorem dX11_commonDivisor_5 : decode cX11_commonDivisor 5 = .ok (.bipush 100, 2) := by decide +kernel
theorem dX11_commonDivisor_7 : decode cX11_commonDivisor 7 = .ok (.if_icmp .ge 25, 3) := by decide +kernel
theorem dX11_commonDivisor_10 : decode cX11_commonDivisor 10 = .ok (.lload_n 2, 1) := by decide +kernel
theorem dX11_commonDivisor_11 : decode cX11_commonDivisor 11 = .ok (.lconst 0, 1) := by decide +kernel
theorem dX11_commonDivisor_12 : decode cX11_commonDivisor 12 = .ok (.lcmp, 1) := by decide +kernel
theorem dX11_commonDivisor_13 : decode cX11_commonDivisor 13 = .ok (.ifCond .eq 19, 3) := by decide +kernel
theorem dX11_commonDivisor_16 : decode cX11_commonDivisor 16 = .ok (.lload_n 0, 1) := by decide +kernel
theorem dX11_commonDivisor_17 : decode cX11_commonDivisor 17 = .ok (.lload_n 2, 1) := by decide +kernel
theorem dX11_commonDivisor_18 : decode cX11_commonDivisor 18 = .ok (.lrem, 1) := by decide +kernel
theorem dX11_commonDivisor_19 : decode cX11_commonDivisor 19 = .ok (.lstore 5, 2) := by decide +kernel
theorem dX11_commonDivisor_21 : decode cX11_commonDivisor 21 = .ok (.lload_n 2, 1) := by decide +kernel
theorem dX11_commonDivisor_22 : decode cX11_commonDivisor 22 = .ok (.lstore_n 0, 1) := by decide +kernel
theorem dX11_commonDivisor_23 : decode cX11_commonDivisor 23 = .ok (.lload 5, 2) := by decide +kernel
theorem dX11_commonDivisor_25 : decode cX11_commonDivisor 25 = .ok (.lstore_n 2, 1) := by decide +kernel
theorem dX11_commonDivisor_26 : decode cX11_commonDivisor 26 = .ok (.iinc 4 1, 3) := by decide +kernel
theorem dX11_commonDivisor_29 : decode cX11_commonDivisor 29 = .ok (.goto (-26), 3) := by decide +kernel
theorem dX11_commonDivisor_32 : decode cX11_commonDivisor 32 = .ok (.lload_n 0, 1) := by decide +kernel
theorem dX11_commonDivisor_33 : decode cX11_commonDivisor 33 = .ok (.lreturn, 1) := by decide +kernel
theorem dX11_isShelf_0 : decode cX11_isShelf 0 = .ok (.iload_n 0, 1) := by decide +kernel
theorem dX11_isShelf_1 : decode cX11_isShelf 1 = .ok (.ifCond .lt 13, 3) := by decide +kernel
theorem dX11_isShelf_4 : decode cX11_isShelf 4 = .ok (.iload_n 0, 1) := by decide +kernel
theorem dX11_isShelf_5 : decode cX11_isShelf 5 = .ok (.bipush 8, 2) := by decide +kernel
theorem dX11_isShelf_7 : decode cX11_isShelf 7 = .ok (.if_icmp .ge 7, 3) := by decide +kernel
theorem dX11_isShelf_10 : decode cX11_isShelf 10 = .ok (.iconst 1, 1) := by decide +kernel
theorem dX11_isShelf_11 : decode cX11_isShelf 11 = .ok (.goto 4, 3) := by decide +kernel
theorem dX11_isShelf_14 : decode cX11_isShelf 14 = .ok (.iconst 0, 1) := by decide +kernel
theorem dX11_isShelf_15 : decode cX11_isShelf 15 = .ok (.ireturn, 1) := by decide +kernel
set_option maxRecDepth 20000 in
theorem ggX11_isBare_X11_oneOn : GoodIn wsX11_isBare wsX11_oneOn := goodIn_r _ [5, 6, 12, 13, 14, 15, 16, 17, 18, 19, 20] (by decide +kernel) (by decide +kernel)
set_option maxRecDepth 20000 in
theorem gX11_isBare_X11_oneOn : GoodIn wsX11_isBare (wsV RX11 121 RX11 yX11_oneOn wsX11_oneOn) := goodIn_app (goodIn_of _ (by decide +kernel)) ggX11_isBare_X11_oneOn
set_option maxRecDepth 20000 in
theorem ggX11_isBare_X11_rowOn : GoodIn wsX11_isBare wsX11_rowOn := goodIn_r _ [10, 11, 12, 13, 14, 15, 16, 17, 18, 19, 20] (by decide +kernel) (by decide +kernel)
set_option maxRecDepth 20000 in
theorem gX11_isBare_X11_rowOn : GoodIn wsX11_isBare (wsV RX11 53 RX11 yX11_rowOn wsX11_rowOn) := goodIn_app (goodIn_of _ (by decide +kernel)) ggX11_isBare_X11_rowOn
theorem dX11_isBare_0 : decode cX11_isBare 0 = .ok (.aload_n 0, 1) := by decide +kernel
theorem dX11_isBare_1 : decode cX11_isBare 1 = .ok (.iload_n 1, 1) := by decide +kernel
theorem dX11_isBare_2 : decode cX11_isBare 2 = .ok (.invokevirtual 121, 3) := by decide +kernel
theorem dX11_isBare_5 : decode cX11_isBare 5 = .ok (.ifnonnull 15, 3) := by decide +kernel
theorem dX11_isBare_8 : decode cX11_isBare 8 = .ok (.aload_n 0, 1) := by decide +kernel
theorem dX11_isBare_9 : decode cX11_isBare 9 = .ok (.iload_n 1, 1) := by decide +kernel
theorem dX11_isBare_10 : decode cX11_isBare 10 = .ok (.invokevirtual 53, 3) := by decide +kernel
theorem dX11_isBare_13 : decode cX11_isBare 13 = .ok (.ifnonnull 7, 3) := by decide +kernel
theorem dX11_isBare_16 : decode cX11_isBare 16 = .ok (.iconst 1, 1) := by decide +kernel
theorem dX11_isBare_17 : decode cX11_isBare 17 = .ok (.goto 4, 3) := by decide +kernel
theorem dX11_isBare_20 : decode cX11_isBare 20 = .ok (.iconst 0, 1) := by decide +kernel
theorem dX11_isBare_21 : decode cX11_isBare 21 = .ok (.ireturn, 1) := by decide +kernel
theorem dX11_oneOn_0 : decode cX11_oneOn 0 = .ok (.iload_n 1, 1) := by decide +kernel
theorem dX11_oneOn_1 : decode cX11_oneOn 1 = .ok (.ifCond .lt 21, 3) := by decide +kernel
theorem dX11_oneOn_4 : decode cX11_oneOn 4 = .ok (.iload_n 1, 1) := by decide +kernel
theorem dX11_oneOn_5 : decode cX11_oneOn 5 = .ok (.aload_n 0, 1) := by decide +kernel
theorem dX11_oneOn_6 : decode cX11_oneOn 6 = .ok (.getfield 11, 3) := by decide +kernel
theorem dX11_oneOn_9 : decode cX11_oneOn 9 = .ok (.arraylength, 1) := by decide +kernel
theorem dX11_oneOn_10 : decode cX11_oneOn 10 = .ok (.if_icmp .ge 12, 3) := by decide +kernel
theorem dX11_oneOn_13 : decode cX11_oneOn 13 = .ok (.aload_n 0, 1) := by decide +kernel
theorem dX11_oneOn_14 : decode cX11_oneOn 14 = .ok (.getfield 11, 3) := by decide +kernel
theorem dX11_oneOn_17 : decode cX11_oneOn 17 = .ok (.iload_n 1, 1) := by decide +kernel
theorem dX11_oneOn_18 : decode cX11_oneOn 18 = .ok (.aaload, 1) := by decide +kernel
theorem dX11_oneOn_19 : decode cX11_oneOn 19 = .ok (.goto 4, 3) := by decide +kernel
theorem dX11_oneOn_22 : decode cX11_oneOn 22 = .ok (.aconst_null, 1) := by decide +kernel
theorem dX11_oneOn_23 : decode cX11_oneOn 23 = .ok (.areturn, 1) := by decide +kernel
theorem dX11_rowOn_0 : decode cX11_rowOn 0 = .ok (.iload_n 1, 1) := by decide +kernel
theorem dX11_rowOn_1 : decode cX11_rowOn 1 = .ok (.ifCond .lt 21, 3) := by decide +kernel
theorem dX11_rowOn_4 : decode cX11_rowOn 4 = .ok (.iload_n 1, 1) := by decide +kernel
theorem dX11_rowOn_5 : decode cX11_rowOn 5 = .ok (.aload_n 0, 1) := by decide +kernel
theorem dX11_rowOn_6 : decode cX11_rowOn 6 = .ok (.getfield 17, 3) := by decide +kernel
theorem dX11_rowOn_9 : decode cX11_rowOn 9 = .ok (.arraylength, 1) := by decide +kernel
theorem dX11_rowOn_10 : decode cX11_rowOn 10 = .ok (.if_icmp .ge 12, 3) := by decide +kernel
theorem dX11_rowOn_13 : decode cX11_rowOn 13 = .ok (.aload_n 0, 1) := by decide +kernel
theorem dX11_rowOn_14 : decode cX11_rowOn 14 = .ok (.getfield 17, 3) := by decide +kernel
theorem dX11_rowOn_17 : decode cX11_rowOn 17 = .ok (.iload_n 1, 1) := by decide +kernel
theorem dX11_rowOn_18 : decode cX11_rowOn 18 = .ok (.aaload, 1) := by decide +kernel
theorem dX11_rowOn_19 : decode cX11_rowOn 19 = .ok (.goto 4, 3) := by decide +kernel
theorem dX11_rowOn_22 : decode cX11_rowOn 22 = .ok (.aconst_null, 1) := by decide +kernel
theorem dX11_rowOn_23 : decode cX11_rowOn 23 = .ok (.areturn, 1) := by decide +kernel
theorem dX11_lay_0 : decode cX11_lay 0 = .ok (.iload_n 1, 1) := by decide +kernel
theorem dX11_lay_1 : decode cX11_lay 1 = .ok (.ifCond .lt 35, 3) := by decide +kernel
theorem dX11_lay_4 : decode cX11_lay 4 = .ok (.iload_n 1, 1) := by decide +kernel
theorem dX11_lay_5 : decode cX11_lay 5 = .ok (.aload_n 0, 1) := by decide +kernel
theorem dX11_lay_6 : decode cX11_lay 6 = .ok (.getfield 11, 3) := by decide +kernel
theorem dX11_lay_9 : decode cX11_lay 9 = .ok (.arraylength, 1) := by decide +kernel
theorem dX11_lay_10 : decode cX11_lay 10 = .ok (.if_icmp .ge 26, 3) := by decide +kernel
theorem dX11_lay_13 : decode cX11_lay 13 = .ok (.iload_n 1, 1) := by decide +kernel
theorem dX11_lay_14 : decode cX11_lay 14 = .ok (.aload_n 0, 1) := by decide +kernel
theorem dX11_lay_15 : decode cX11_lay 15 = .ok (.getfield 17, 3) := by decide +kernel
theorem dX11_lay_18 : decode cX11_lay 18 = .ok (.arraylength, 1) := by decide +kernel
theorem dX11_lay_19 : decode cX11_lay 19 = .ok (.if_icmp .ge 17, 3) := by decide +kernel
theorem dX11_lay_22 : decode cX11_lay 22 = .ok (.aload_n 0, 1) := by decide +kernel
theorem dX11_lay_23 : decode cX11_lay 23 = .ok (.getfield 11, 3) := by decide +kernel
theorem dX11_lay_26 : decode cX11_lay 26 = .ok (.iload_n 1, 1) := by decide +kernel
theorem dX11_lay_27 : decode cX11_lay 27 = .ok (.aload_n 2, 1) := by decide +kernel
theorem dX11_lay_28 : decode cX11_lay 28 = .ok (.aastore, 1) := by decide +kernel
theorem dX11_lay_29 : decode cX11_lay 29 = .ok (.aload_n 0, 1) := by decide +kernel
theorem dX11_lay_30 : decode cX11_lay 30 = .ok (.getfield 17, 3) := by decide +kernel
theorem dX11_lay_33 : decode cX11_lay 33 = .ok (.iload_n 1, 1) := by decide +kernel
theorem dX11_lay_34 : decode cX11_lay 34 = .ok (.aload_n 3, 1) := by decide +kernel
theorem dX11_lay_35 : decode cX11_lay 35 = .ok (.aastore, 1) := by decide +kernel
theorem dX11_lay_36 : decode cX11_lay 36 = .ok (.return_, 1) := by decide +kernel
set_option maxRecDepth 20000 in
theorem ggX11_refusalWithoutOne_X11_isShelf : GoodIn wsX11_refusalWithoutOne wsX11_isShelf := goodIn_r _ [4] (by decide +kernel) (by decide +kernel)
set_option maxRecDepth 20000 in
theorem gX11_refusalWithoutOne_X11_isShelf : GoodIn wsX11_refusalWithoutOne (va_wsS RX11 248 yX11_isShelf wsX11_isShelf) := goodIn_app (goodIn_of _ (by decide +kernel)) ggX11_refusalWithoutOne_X11_isShelf
set_option maxRecDepth 20000 in
theorem ggX11_refusalWithoutOne_X11_rowOn : GoodIn wsX11_refusalWithoutOne wsX11_rowOn := goodIn_r _ [8, 9, 10, 11, 12, 13, 14, 15, 16, 17, 18] (by decide +kernel) (by decide +kernel)
set_option maxRecDepth 20000 in
theorem gX11_refusalWithoutOne_X11_rowOn : GoodIn wsX11_refusalWithoutOne (wsV RX11 53 RX11 yX11_rowOn wsX11_rowOn) := goodIn_app (goodIn_of _ (by decide +kernel)) ggX11_refusalWithoutOne_X11_rowOn
theorem dX11_refusalWithoutOne_0 : decode cX11_refusalWithoutOne 0 = .ok (.iload_n 1, 1) := by decide +kernel
theorem dX11_refusalWithoutOne_1 : decode cX11_refusalWithoutOne 1 = .ok (.invokestatic 248, 3) := by decide +kernel
theorem dX11_refusalWithoutOne_4 : decode cX11_refusalWithoutOne 4 = .ok (.ifCond .ne 5, 3) := by decide +kernel
theorem dX11_refusalWithoutOne_7 : decode cX11_refusalWithoutOne 7 = .ok (.iconst (-1), 1) := by decide +kernel
theorem dX11_refusalWithoutOne_8 : decode cX11_refusalWithoutOne 8 = .ok (.ireturn, 1) := by decide +kernel
theorem dX11_refusalWithoutOne_9 : decode cX11_refusalWithoutOne 9 = .ok (.aload_n 0, 1) := by decide +kernel
theorem dX11_refusalWithoutOne_10 : decode cX11_refusalWithoutOne 10 = .ok (.iload_n 1, 1) := by decide +kernel
theorem dX11_refusalWithoutOne_11 : decode cX11_refusalWithoutOne 11 = .ok (.invokevirtual 53, 3) := by decide +kernel
theorem dX11_refusalWithoutOne_14 : decode cX11_refusalWithoutOne 14 = .ok (.ifnonnull 8, 3) := by decide +kernel
theorem dX11_refusalWithoutOne_17 : decode cX11_refusalWithoutOne 17 = .ok (.bipush (-11), 2) := by decide +kernel
theorem dX11_refusalWithoutOne_19 : decode cX11_refusalWithoutOne 19 = .ok (.goto 5, 3) := by decide +kernel
theorem dX11_refusalWithoutOne_22 : decode cX11_refusalWithoutOne 22 = .ok (.bipush (-12), 2) := by decide +kernel
theorem dX11_refusalWithoutOne_24 : decode cX11_refusalWithoutOne 24 = .ok (.ireturn, 1) := by decide +kernel
set_option maxRecDepth 20000 in
theorem ggX11_refusalWithoutRow_X11_isShelf : GoodIn wsX11_refusalWithoutRow wsX11_isShelf := goodIn_r _ [4] (by decide +kernel) (by decide +kernel)
set_option maxRecDepth 20000 in
theorem gX11_refusalWithoutRow_X11_isShelf : GoodIn wsX11_refusalWithoutRow (va_wsS RX11 248 yX11_isShelf wsX11_isShelf) := goodIn_app (goodIn_of _ (by decide +kernel)) ggX11_refusalWithoutRow_X11_isShelf
set_option maxRecDepth 20000 in
theorem ggX11_refusalWithoutRow_X11_oneOn : GoodIn wsX11_refusalWithoutRow wsX11_oneOn := goodIn_r _ [8, 9, 10, 11, 12, 13, 14, 15, 16, 17, 18] (by decide +kernel) (by decide +kernel)
set_option maxRecDepth 20000 in
theorem gX11_refusalWithoutRow_X11_oneOn : GoodIn wsX11_refusalWithoutRow (wsV RX11 121 RX11 yX11_oneOn wsX11_oneOn) := goodIn_app (goodIn_of _ (by decide +kernel)) ggX11_refusalWithoutRow_X11_oneOn
theorem dX11_refusalWithoutRow_0 : decode cX11_refusalWithoutRow 0 = .ok (.iload_n 1, 1) := by decide +kernel
theorem dX11_refusalWithoutRow_1 : decode cX11_refusalWithoutRow 1 = .ok (.invokestatic 248, 3) := by decide +kernel
theorem dX11_refusalWithoutRow_4 : decode cX11_refusalWithoutRow 4 = .ok (.ifCond .ne 5, 3) := by decide +kernel
theorem dX11_refusalWithoutRow_7 : decode cX11_refusalWithoutRow 7 = .ok (.iconst (-1), 1) := by decide +kernel
theorem dX11_refusalWithoutRow_8 : decode cX11_refusalWithoutRow 8 = .ok (.ireturn, 1) := by decide +kernel
theorem dX11_refusalWithoutRow_9 : decode cX11_refusalWithoutRow 9 = .ok (.aload_n 0, 1) := by decide +kernel
theorem dX11_refusalWithoutRow_10 : decode cX11_refusalWithoutRow 10 = .ok (.iload_n 1, 1) := by decide +kernel
theorem dX11_refusalWithoutRow_11 : decode cX11_refusalWithoutRow 11 = .ok (.invokevirtual 121, 3) := by decide +kernel
theorem dX11_refusalWithoutRow_14 : decode cX11_refusalWithoutRow 14 = .ok (.ifnonnull 8, 3) := by decide +kernel
theorem dX11_refusalWithoutRow_17 : decode cX11_refusalWithoutRow 17 = .ok (.bipush (-11), 2) := by decide +kernel
theorem dX11_refusalWithoutRow_19 : decode cX11_refusalWithoutRow 19 = .ok (.goto 5, 3) := by decide +kernel
theorem dX11_refusalWithoutRow_22 : decode cX11_refusalWithoutRow 22 = .ok (.bipush (-12), 2) := by decide +kernel
theorem dX11_refusalWithoutRow_24 : decode cX11_refusalWithoutRow 24 = .ok (.ireturn, 1) := by decide +kernel
theorem dX11_read_0 : decode cX11_read 0 = .ok (.iload_n 1, 1) := by decide +kernel
theorem dX11_read_1 : decode cX11_read 1 = .ok (.ifCond .lt 15, 3) := by decide +kernel
theorem dX11_read_4 : decode cX11_read 4 = .ok (.iload_n 1, 1) := by decide +kernel
theorem dX11_read_5 : decode cX11_read 5 = .ok (.aload_n 0, 1) := by decide +kernel
theorem dX11_read_6 : decode cX11_read 6 = .ok (.arraylength, 1) := by decide +kernel
theorem dX11_read_7 : decode cX11_read 7 = .ok (.if_icmp .ge 9, 3) := by decide +kernel
theorem dX11_read_10 : decode cX11_read 10 = .ok (.aload_n 0, 1) := by decide +kernel
theorem dX11_read_11 : decode cX11_read 11 = .ok (.iload_n 1, 1) := by decide +kernel
theorem dX11_read_12 : decode cX11_read 12 = .ok (.iaload, 1) := by decide +kernel
theorem dX11_read_13 : decode cX11_read 13 = .ok (.goto 4, 3) := by decide +kernel
theorem dX11_read_16 : decode cX11_read 16 = .ok (.iconst 0, 1) := by decide +kernel
theorem dX11_read_17 : decode cX11_read 17 = .ok (.ireturn, 1) := by decide +kernel
theorem dX11_write_0 : decode cX11_write 0 = .ok (.iload_n 1, 1) := by decide +kernel
theorem dX11_write_1 : decode cX11_write 1 = .ok (.ifCond .lt 13, 3) := by decide +kernel
theorem dX11_write_4 : decode cX11_write 4 = .ok (.iload_n 1, 1) := by decide +kernel
theorem dX11_write_5 : decode cX11_write 5 = .ok (.aload_n 0, 1) := by decide +kernel
theorem dX11_write_6 : decode cX11_write 6 = .ok (.arraylength, 1) := by decide +kernel
theorem dX11_write_7 : decode cX11_write 7 = .ok (.if_icmp .ge 7, 3) := by decide +kernel
theorem dX11_write_10 : decode cX11_write 10 = .ok (.aload_n 0, 1) := by decide +kernel
theorem dX11_write_11 : decode cX11_write 11 = .ok (.iload_n 1, 1) := by decide +kernel
theorem dX11_write_12 : decode cX11_write 12 = .ok (.iload_n 2, 1) := by decide +kernel
theorem dX11_write_13 : decode cX11_write 13 = .ok (.iastore, 1) := by decide +kernel
theorem dX11_write_14 : decode cX11_write 14 = .ok (.return_, 1) := by decide +kernel
theorem dX11_isDigit_0 : decode cX11_isDigit 0 = .ok (.iload_n 0, 1) := by decide +kernel
theorem dX11_isDigit_1 : decode cX11_isDigit 1 = .ok (.bipush 48, 2) := by decide +kernel
theorem dX11_isDigit_3 : decode cX11_isDigit 3 = .ok (.if_icmp .lt 13, 3) := by decide +kernel
theorem dX11_isDigit_6 : decode cX11_isDigit 6 = .ok (.iload_n 0, 1) := by decide +kernel
theorem dX11_isDigit_7 : decode cX11_isDigit 7 = .ok (.bipush 57, 2) := by decide +kernel
theorem dX11_isDigit_9 : decode cX11_isDigit 9 = .ok (.if_icmp .gt 7, 3) := by decide +kernel
theorem dX11_isDigit_12 : decode cX11_isDigit 12 = .ok (.iconst 1, 1) := by decide +kernel
theorem dX11_isDigit_13 : decode cX11_isDigit 13 = .ok (.goto 4, 3) := by decide +kernel
theorem dX11_isDigit_16 : decode cX11_isDigit 16 = .ok (.iconst 0, 1) := by decide +kernel
theorem dX11_isDigit_17 : decode cX11_isDigit 17 = .ok (.ireturn, 1) := by decide +kernel
theorem dX11_digitsBehind_0 : decode cX11_digitsBehind 0 = .ok (.iload_n 0, 1) := by decide +kernel
theorem dX11_digitsBehind_1 : decode cX11_digitsBehind 1 = .ok (.tableswitch 89 100 116 #[85, 89, 83, 89, 89, 89, 89, 89, 87, 89, 89, 89, 85, 89, 89, 85, 85], 83) := by decide +kernel
theorem dX11_digitsBehind_84 : decode cX11_digitsBehind 84 = .ok (.iconst 3, 1) := by decide +kernel
theorem dX11_digitsBehind_85 : decode cX11_digitsBehind 85 = .ok (.ireturn, 1) := by decide +kernel
theorem dX11_digitsBehind_86 : decode cX11_digitsBehind 86 = .ok (.iconst 2, 1) := by decide +kernel
theorem dX11_digitsBehind_87 : decode cX11_digitsBehind 87 = .ok (.ireturn, 1) := by decide +kernel
theorem dX11_digitsBehind_88 : decode cX11_digitsBehind 88 = .ok (.iconst 1, 1) := by decide +kernel
theorem dX11_digitsBehind_89 : decode cX11_digitsBehind 89 = .ok (.ireturn, 1) := by decide +kernel
theorem dX11_digitsBehind_90 : decode cX11_digitsBehind 90 = .ok (.iconst 0, 1) := by decide +kernel
theorem dX11_digitsBehind_91 : decode cX11_digitsBehind 91 = .ok (.ireturn, 1) := by decide +kernel
set_option maxRecDepth 20000 in
theorem ggX11_personOf_X9_init : GoodIn wsX11_personOf wsX9_init := goodIn_r _ [27, 28, 29, 24, 30, 31, 32, 33, 34, 61, 62, 65, 63, 64, 67, 66, 60] (by decide +kernel) (by decide +kernel)
set_option maxRecDepth 20000 in
theorem gX11_personOf_X9_init : GoodIn wsX11_personOf (wsX9_init) := ggX11_personOf_X9_init
set_option maxRecDepth 20000 in
theorem ggX11_personOf_X0_init : GoodIn wsX11_personOf wsX0_init := goodIn_r _ [37, 38, 29, 24, 30, 31, 32, 33, 34, 61, 62, 65, 63, 64, 67, 66, 60] (by decide +kernel) (by decide +kernel)
set_option maxRecDepth 20000 in
theorem gX11_personOf_X0_init : GoodIn wsX11_personOf (wsX0_init) := ggX11_personOf_X0_init
set_option maxRecDepth 20000 in
theorem ggX11_personOf_X1_init : GoodIn wsX11_personOf wsX1_init := goodIn_r _ [41, 42, 26, 3, 27, 28, 29, 24, 30, 31, 32, 33, 34, 61, 62, 65, 63, 64, 67, 66, 60] (by decide +kernel) (by decide +kernel)
set_option maxRecDepth 20000 in
theorem gX11_personOf_X1_init : GoodIn wsX11_personOf (wsX1_init) := ggX11_personOf_X1_init
set_option maxRecDepth 20000 in
theorem ggX11_personOf_X4_init : GoodIn wsX11_personOf wsX4_init := goodIn_r _ [45, 46, 29, 24, 30, 31, 32, 33, 34, 61, 62, 65, 63, 64, 67, 66, 60] (by decide +kernel) (by decide +kernel)
set_option maxRecDepth 20000 in
theorem gX11_personOf_X4_init : GoodIn wsX11_personOf (wsX4_init) := ggX11_personOf_X4_init
set_option maxRecDepth 20000 in
theorem ggX11_personOf_X5_init : GoodIn wsX11_personOf wsX5_init := goodIn_r _ [49, 50, 26, 3, 27, 28, 29, 24, 30, 31, 32, 33, 34, 61, 62, 65, 63, 64, 67, 66, 60] (by decide +kernel) (by decide +kernel)
set_option maxRecDepth 20000 in
theorem gX11_personOf_X5_init : GoodIn wsX11_personOf (wsX5_init) := ggX11_personOf_X5_init
set_option maxRecDepth 20000 in
theorem ggX11_personOf_X3_init : GoodIn wsX11_personOf wsX3_init := goodIn_r _ [53, 54, 36, 6, 37, 38, 29, 24, 30, 31, 32, 33, 34, 61, 62, 65, 63, 64, 67, 66, 60] (by decide +kernel) (by decide +kernel)
set_option maxRecDepth 20000 in
theorem gX11_personOf_X3_init : GoodIn wsX11_personOf (wsX3_init) := ggX11_personOf_X3_init
set_option maxRecDepth 20000 in
theorem ggX11_personOf_X8_init : GoodIn wsX11_personOf wsX8_init := goodIn_r _ [57, 58, 26, 3, 27, 28, 29, 24, 30, 31, 32, 33, 34, 61, 62, 65, 63, 64, 67, 66, 60] (by decide +kernel) (by decide +kernel)
set_option maxRecDepth 20000 in
theorem gX11_personOf_X8_init : GoodIn wsX11_personOf (wsX8_init) := ggX11_personOf_X8_init
set_option maxRecDepth 20000 in
theorem ggX11_personOf_X6_init : GoodIn wsX11_personOf wsX6_init := goodIn_r _ [30, 31, 32, 33, 34, 61, 62, 65, 63, 64, 67, 66, 60] (by decide +kernel) (by decide +kernel)
set_option maxRecDepth 20000 in
theorem gX11_personOf_X6_init : GoodIn wsX11_personOf (wsX6_init) := ggX11_personOf_X6_init
theorem dX11_personOf_0 : decode cX11_personOf 0 = .ok (.iload_n 0, 1) := by decide +kernel
theorem dX11_personOf_1 : decode cX11_personOf 1 = .ok (.tableswitch 106 1 7 #[43, 52, 61, 70, 79, 88, 97], 43) := by decide +kernel
theorem dX11_personOf_44 : decode cX11_personOf 44 = .ok (.new 314, 3) := by decide +kernel
theorem dX11_personOf_47 : decode cX11_personOf 47 = .ok (.dup, 1) := by decide +kernel
theorem dX11_personOf_48 : decode cX11_personOf 48 = .ok (.iload_n 1, 1) := by decide +kernel
theorem dX11_personOf_49 : decode cX11_personOf 49 = .ok (.invokespecial 316, 3) := by decide +kernel
theorem dX11_personOf_52 : decode cX11_personOf 52 = .ok (.areturn, 1) := by decide +kernel
theorem dX11_personOf_53 : decode cX11_personOf 53 = .ok (.new 319, 3) := by decide +kernel
theorem dX11_personOf_56 : decode cX11_personOf 56 = .ok (.dup, 1) := by decide +kernel
theorem dX11_personOf_57 : decode cX11_personOf 57 = .ok (.iload_n 1, 1) := by decide +kernel
theorem dX11_personOf_58 : decode cX11_personOf 58 = .ok (.invokespecial 321, 3) := by decide +kernel
theorem dX11_personOf_61 : decode cX11_personOf 61 = .ok (.areturn, 1) := by decide +kernel
theorem dX11_personOf_62 : decode cX11_personOf 62 = .ok (.new 322, 3) := by decide +kernel
theorem dX11_personOf_65 : decode cX11_personOf 65 = .ok (.dup, 1) := by decide +kernel
theorem dX11_personOf_66 : decode cX11_personOf 66 = .ok (.iload_n 1, 1) := by decide +kernel
theorem dX11_personOf_67 : decode cX11_personOf 67 = .ok (.invokespecial 324, 3) := by decide +kernel
theorem dX11_personOf_70 : decode cX11_personOf 70 = .ok (.areturn, 1) := by decide +kernel
theorem dX11_personOf_71 : decode cX11_personOf 71 = .ok (.new 325, 3) := by decide +kernel
theorem dX11_personOf_74 : decode cX11_personOf 74 = .ok (.dup, 1) := by decide +kernel
theorem dX11_personOf_75 : decode cX11_personOf 75 = .ok (.iload_n 1, 1) := by decide +kernel
theorem dX11_personOf_76 : decode cX11_personOf 76 = .ok (.invokespecial 327, 3) := by decide +kernel
theorem dX11_personOf_79 : decode cX11_personOf 79 = .ok (.areturn, 1) := by decide +kernel
theorem dX11_personOf_80 : decode cX11_personOf 80 = .ok (.new 328, 3) := by decide +kernel
theorem dX11_personOf_83 : decode cX11_personOf 83 = .ok (.dup, 1) := by decide +kernel
theorem dX11_personOf_84 : decode cX11_personOf 84 = .ok (.iload_n 1, 1) := by decide +kernel
theorem dX11_personOf_85 : decode cX11_personOf 85 = .ok (.invokespecial 330, 3) := by decide +kernel
theorem dX11_personOf_88 : decode cX11_personOf 88 = .ok (.areturn, 1) := by decide +kernel
theorem dX11_personOf_89 : decode cX11_personOf 89 = .ok (.new 331, 3) := by decide +kernel
theorem dX11_personOf_92 : decode cX11_personOf 92 = .ok (.dup, 1) := by decide +kernel
theorem dX11_personOf_93 : decode cX11_personOf 93 = .ok (.iload_n 1, 1) := by decide +kernel
theorem dX11_personOf_94 : decode cX11_personOf 94 = .ok (.invokespecial 333, 3) := by decide +kernel
theorem dX11_personOf_97 : decode cX11_personOf 97 = .ok (.areturn, 1) := by decide +kernel
theorem dX11_personOf_98 : decode cX11_personOf 98 = .ok (.new 334, 3) := by decide +kernel
theorem dX11_personOf_101 : decode cX11_personOf 101 = .ok (.dup, 1) := by decide +kernel
theorem dX11_personOf_102 : decode cX11_personOf 102 = .ok (.iload_n 1, 1) := by decide +kernel
theorem dX11_personOf_103 : decode cX11_personOf 103 = .ok (.invokespecial 336, 3) := by decide +kernel
theorem dX11_personOf_106 : decode cX11_personOf 106 = .ok (.areturn, 1) := by decide +kernel
theorem dX11_personOf_107 : decode cX11_personOf 107 = .ok (.new 9, 3) := by decide +kernel
theorem dX11_personOf_110 : decode cX11_personOf 110 = .ok (.dup, 1) := by decide +kernel
theorem dX11_personOf_111 : decode cX11_personOf 111 = .ok (.iload_n 1, 1) := by decide +kernel
theorem dX11_personOf_112 : decode cX11_personOf 112 = .ok (.invokespecial 337, 3) := by decide +kernel
theorem dX11_personOf_115 : decode cX11_personOf 115 = .ok (.areturn, 1) := by decide +kernel
