theorem dX12_days_34 : decode cX12_days 34 = .ok (.bipush (-3), 2) := by decide +kernel
theorem dX12_days_36 : decode cX12_days 36 = .ok (.ireturn, 1) := by decide +kernel
set_option maxRecDepth 20000 in
theorem ggX12_fitFor_X12_mayTurn : GoodIn wsX12_fitFor wsX12_mayTurn := goodIn_r _ [6, 7, 8, 9, 10, 11, 5, 12, 13, 14, 15, 16, 17, 18, 19, 20, 21, 22, 23, 24, 25, 26, 27, 28, 29, 30, 31, 32, 33, 34, 35, 36, 37, 38, 39, 40, 41, 42, 43, 44] (by decide +kernel) (by decide +kernel)
set_option maxRecDepth 20000 in
theorem gX12_fitFor_X12_mayTurn : GoodIn wsX12_fitFor (wsV RX12 101 RX12 yX12_mayTurn wsX12_mayTurn) := goodIn_app (goodIn_of _ (by decide +kernel)) ggX12_fitFor_X12_mayTurn
theorem dX12_fitFor_0 : decode cX12_fitFor 0 = .ok (.iconst 0, 1) := by decide +kernel
theorem dX12_fitFor_1 : decode cX12_fitFor 1 = .ok (.istore_n 2, 1) := by decide +kernel
theorem dX12_fitFor_2 : decode cX12_fitFor 2 = .ok (.iconst 0, 1) := by decide +kernel
theorem dX12_fitFor_3 : decode cX12_fitFor 3 = .ok (.istore_n 3, 1) := by decide +kernel
theorem dX12_fitFor_4 : decode cX12_fitFor 4 = .ok (.iload_n 3, 1) := by decide +kernel
theorem dX12_fitFor_5 : decode cX12_fitFor 5 = .ok (.aload_n 0, 1) := by decide +kernel
theorem dX12_fitFor_6 : decode cX12_fitFor 6 = .ok (.getfield 69, 3) := by decide +kernel
theorem dX12_fitFor_9 : decode cX12_fitFor 9 = .ok (.if_icmp .ge 28, 3) := by decide +kernel
theorem dX12_fitFor_12 : decode cX12_fitFor 12 = .ok (.iload_n 2, 1) := by decide +kernel
theorem dX12_fitFor_13 : decode cX12_fitFor 13 = .ok (.aload_n 0, 1) := by decide +kernel
theorem dX12_fitFor_14 : decode cX12_fitFor 14 = .ok (.iload_n 3, 1) := by decide +kernel
theorem dX12_fitFor_15 : decode cX12_fitFor 15 = .ok (.iload_n 1, 1) := by decide +kernel
theorem dX12_fitFor_16 : decode cX12_fitFor 16 = .ok (.invokevirtual 101, 3) := by decide +kernel
theorem dX12_fitFor_19 : decode cX12_fitFor 19 = .ok (.ifCond .eq 9, 3) := by decide +kernel
theorem dX12_fitFor_22 : decode cX12_fitFor 22 = .ok (.iconst 1, 1) := by decide +kernel
theorem dX12_fitFor_23 : decode cX12_fitFor 23 = .ok (.iload_n 3, 1) := by decide +kernel
theorem dX12_fitFor_24 : decode cX12_fitFor 24 = .ok (.ishl, 1) := by decide +kernel
theorem dX12_fitFor_25 : decode cX12_fitFor 25 = .ok (.goto 4, 3) := by decide +kernel
theorem dX12_fitFor_28 : decode cX12_fitFor 28 = .ok (.iconst 0, 1) := by decide +kernel
theorem dX12_fitFor_29 : decode cX12_fitFor 29 = .ok (.ior, 1) := by decide +kernel
theorem dX12_fitFor_30 : decode cX12_fitFor 30 = .ok (.istore_n 2, 1) := by decide +kernel
theorem dX12_fitFor_31 : decode cX12_fitFor 31 = .ok (.iinc 3 1, 3) := by decide +kernel
theorem dX12_fitFor_34 : decode cX12_fitFor 34 = .ok (.goto (-30), 3) := by decide +kernel
theorem dX12_fitFor_37 : decode cX12_fitFor 37 = .ok (.iload_n 2, 1) := by decide +kernel
theorem dX12_fitFor_38 : decode cX12_fitFor 38 = .ok (.ireturn, 1) := by decide +kernel
set_option maxRecDepth 20000 in
theorem ggX12_fit_X12_isOne : GoodIn wsX12_fit wsX12_isOne := goodIn_r _ [6, 7, 8, 9, 5, 10, 26, 27, 28, 29, 30, 31, 32, 33, 34, 35, 36, 37, 38, 39, 40, 41, 42, 43, 44, 45, 46, 47, 48, 49, 50, 51, 52, 53, 54, 55, 56] (by decide +kernel) (by decide +kernel)
set_option maxRecDepth 20000 in
theorem gX12_fit_X12_isOne : GoodIn wsX12_fit (wsV RX12 76 RX12 yX12_isOne wsX12_isOne) := goodIn_app (goodIn_of _ (by decide +kernel)) ggX12_fit_X12_isOne
set_option maxRecDepth 20000 in
theorem ggX12_fit_X12_fitFor : GoodIn wsX12_fit wsX12_fitFor := goodIn_r _ [14, 7, 15, 16, 17, 5, 18, 19, 20, 21, 22, 23, 24, 25, 26, 27, 28, 29, 30, 31, 32, 33, 34, 35, 36, 37, 38, 39, 40, 41, 42, 43, 44, 45, 46, 47, 48, 49, 50, 51, 52, 53, 54, 55, 56] (by decide +kernel) (by decide +kernel)
set_option maxRecDepth 20000 in
theorem gX12_fit_X12_fitFor : GoodIn wsX12_fit (wsV RX12 196 RX12 yX12_fitFor wsX12_fitFor) := goodIn_app (goodIn_of _ (by decide +kernel)) ggX12_fit_X12_fitFor
theorem dX12_fit_0 : decode cX12_fit 0 = .ok (.aload_n 0, 1) := by decide +kernel
theorem dX12_fit_1 : decode cX12_fit 1 = .ok (.iconst 0, 1) := by decide +kernel
theorem dX12_fit_2 : decode cX12_fit 2 = .ok (.putfield 65, 3) := by decide +kernel
theorem dX12_fit_5 : decode cX12_fit 5 = .ok (.aload_n 0, 1) := by decide +kernel
theorem dX12_fit_6 : decode cX12_fit 6 = .ok (.iload_n 1, 1) := by decide +kernel
theorem dX12_fit_7 : decode cX12_fit 7 = .ok (.invokevirtual 76, 3) := by decide +kernel
theorem dX12_fit_10 : decode cX12_fit 10 = .ok (.ifCond .eq 11, 3) := by decide +kernel
theorem dX12_fit_13 : decode cX12_fit 13 = .ok (.aload_n 0, 1) := by decide +kernel
theorem dX12_fit_14 : decode cX12_fit 14 = .ok (.iload_n 1, 1) := by decide +kernel
theorem dX12_fit_15 : decode cX12_fit 15 = .ok (.invokevirtual 196, 3) := by decide +kernel
theorem dX12_fit_18 : decode cX12_fit 18 = .ok (.goto 4, 3) := by decide +kernel
theorem dX12_fit_21 : decode cX12_fit 21 = .ok (.iconst (-1), 1) := by decide +kernel
theorem dX12_fit_22 : decode cX12_fit 22 = .ok (.ireturn, 1) := by decide +kernel
set_option maxRecDepth 20000 in
theorem ggX12_layTold_X12_fitFor : GoodIn wsX12_layTold wsX12_fitFor := goodIn_r _ [8, 2, 9, 10, 11, 7, 12, 13, 14, 15, 16, 17, 18, 19, 26, 27, 28, 29, 30, 31, 32, 33, 34, 35, 36, 37, 38, 39, 40, 41, 42, 43, 44, 45, 46, 47, 48, 49, 50, 51, 52, 53, 54, 55, 56] (by decide +kernel) (by decide +kernel)
set_option maxRecDepth 20000 in
theorem gX12_layTold_X12_fitFor : GoodIn wsX12_layTold (wsV RX12 196 RX12 yX12_fitFor wsX12_fitFor) := goodIn_app (goodIn_of _ (by decide +kernel)) ggX12_layTold_X12_fitFor
set_option maxRecDepth 20000 in
theorem ggX12_layTold_X12_hasBit : GoodIn wsX12_layTold wsX12_hasBit := goodIn_r _ [22] (by decide +kernel) (by decide +kernel)
set_option maxRecDepth 20000 in
theorem gX12_layTold_X12_hasBit : GoodIn wsX12_layTold (va_wsS RX12 199 yX12_hasBit wsX12_hasBit) := goodIn_app (goodIn_of _ (by decide +kernel)) ggX12_layTold_X12_hasBit
set_option maxRecDepth 20000 in
theorem ggX12_layTold_X12_greater : GoodIn wsX12_layTold wsX12_greater := goodIn_r _ [25] (by decide +kernel) (by decide +kernel)
set_option maxRecDepth 20000 in
theorem gX12_layTold_X12_greater : GoodIn wsX12_layTold (va_wsS RX12 202 yX12_greater wsX12_greater) := goodIn_app (goodIn_of _ (by decide +kernel)) ggX12_layTold_X12_greater
theorem dX12_layTold_0 : decode cX12_layTold 0 = .ok (.iconst 0, 1) := by decide +kernel
theorem dX12_layTold_1 : decode cX12_layTold 1 = .ok (.istore_n 1, 1) := by decide +kernel
theorem dX12_layTold_2 : decode cX12_layTold 2 = .ok (.iload_n 1, 1) := by decide +kernel
theorem dX12_layTold_3 : decode cX12_layTold 3 = .ok (.sipush 128, 3) := by decide +kernel
theorem dX12_layTold_6 : decode cX12_layTold 6 = .ok (.if_icmp .ge 41, 3) := by decide +kernel
theorem dX12_layTold_9 : decode cX12_layTold 9 = .ok (.aload_n 0, 1) := by decide +kernel
theorem dX12_layTold_10 : decode cX12_layTold 10 = .ok (.getfield 56, 3) := by decide +kernel
theorem dX12_layTold_13 : decode cX12_layTold 13 = .ok (.sipush 128, 3) := by decide +kernel
theorem dX12_layTold_16 : decode cX12_layTold 16 = .ok (.aload_n 0, 1) := by decide +kernel
theorem dX12_layTold_17 : decode cX12_layTold 17 = .ok (.getfield 69, 3) := by decide +kernel
theorem dX12_layTold_20 : decode cX12_layTold 20 = .ok (.imul, 1) := by decide +kernel
theorem dX12_layTold_21 : decode cX12_layTold 21 = .ok (.iload_n 1, 1) := by decide +kernel
theorem dX12_layTold_22 : decode cX12_layTold 22 = .ok (.iadd, 1) := by decide +kernel
theorem dX12_layTold_23 : decode cX12_layTold 23 = .ok (.iconst 0, 1) := by decide +kernel
theorem dX12_layTold_24 : decode cX12_layTold 24 = .ok (.iastore, 1) := by decide +kernel
theorem dX12_layTold_25 : decode cX12_layTold 25 = .ok (.aload_n 0, 1) := by decide +kernel
theorem dX12_layTold_26 : decode cX12_layTold 26 = .ok (.getfield 59, 3) := by decide +kernel
theorem dX12_layTold_29 : decode cX12_layTold 29 = .ok (.sipush 128, 3) := by decide +kernel
theorem dX12_layTold_32 : decode cX12_layTold 32 = .ok (.aload_n 0, 1) := by decide +kernel
theorem dX12_layTold_33 : decode cX12_layTold 33 = .ok (.getfield 69, 3) := by decide +kernel
theorem dX12_layTold_36 : decode cX12_layTold 36 = .ok (.imul, 1) := by decide +kernel
theorem dX12_layTold_37 : decode cX12_layTold 37 = .ok (.iload_n 1, 1) := by decide +kernel
theorem dX12_layTold_38 : decode cX12_layTold 38 = .ok (.iadd, 1) := by decide +kernel
theorem dX12_layTold_39 : decode cX12_layTold 39 = .ok (.iconst 1, 1) := by decide +kernel
theorem dX12_layTold_40 : decode cX12_layTold 40 = .ok (.iastore, 1) := by decide +kernel
theorem dX12_layTold_41 : decode cX12_layTold 41 = .ok (.iinc 1 1, 3) := by decide +kernel
theorem dX12_layTold_44 : decode cX12_layTold 44 = .ok (.goto (-42), 3) := by decide +kernel
theorem dX12_layTold_47 : decode cX12_layTold 47 = .ok (.aload_n 0, 1) := by decide +kernel
theorem dX12_layTold_48 : decode cX12_layTold 48 = .ok (.getfield 69, 3) := by decide +kernel
theorem dX12_layTold_51 : decode cX12_layTold 51 = .ok (.iconst 1, 1) := by decide +kernel
theorem dX12_layTold_52 : decode cX12_layTold 52 = .ok (.isub, 1) := by decide +kernel
theorem dX12_layTold_53 : decode cX12_layTold 53 = .ok (.istore_n 1, 1) := by decide +kernel
theorem dX12_layTold_54 : decode cX12_layTold 54 = .ok (.iload_n 1, 1) := by decide +kernel
theorem dX12_layTold_55 : decode cX12_layTold 55 = .ok (.ifCond .lt 159, 3) := by decide +kernel
theorem dX12_layTold_58 : decode cX12_layTold 58 = .ok (.aload_n 0, 1) := by decide +kernel
theorem dX12_layTold_59 : decode cX12_layTold 59 = .ok (.iload_n 1, 1) := by decide +kernel
theorem dX12_layTold_60 : decode cX12_layTold 60 = .ok (.invokevirtual 196, 3) := by decide +kernel
theorem dX12_layTold_63 : decode cX12_layTold 63 = .ok (.istore_n 2, 1) := by decide +kernel
theorem dX12_layTold_64 : decode cX12_layTold 64 = .ok (.iconst 0, 1) := by decide +kernel
theorem dX12_layTold_65 : decode cX12_layTold 65 = .ok (.istore_n 3, 1) := by decide +kernel
theorem dX12_layTold_66 : decode cX12_layTold 66 = .ok (.iload_n 3, 1) := by decide +kernel
theorem dX12_layTold_67 : decode cX12_layTold 67 = .ok (.iconst 1, 1) := by decide +kernel
theorem dX12_layTold_68 : decode cX12_layTold 68 = .ok (.aload_n 0, 1) := by decide +kernel
theorem dX12_layTold_69 : decode cX12_layTold 69 = .ok (.getfield 69, 3) := by decide +kernel
theorem dX12_layTold_72 : decode cX12_layTold 72 = .ok (.ishl, 1) := by decide +kernel
theorem dX12_layTold_73 : decode cX12_layTold 73 = .ok (.if_icmp .ge 135, 3) := by decide +kernel
theorem dX12_layTold_76 : decode cX12_layTold 76 = .ok (.aload_n 0, 1) := by decide +kernel
theorem dX12_layTold_77 : decode cX12_layTold 77 = .ok (.getfield 56, 3) := by decide +kernel
theorem dX12_layTold_80 : decode cX12_layTold 80 = .ok (.sipush 128, 3) := by decide +kernel
theorem dX12_layTold_83 : decode cX12_layTold 83 = .ok (.iload_n 1, 1) := by decide +kernel
theorem dX12_layTold_84 : decode cX12_layTold 84 = .ok (.imul, 1) := by decide +kernel
theorem dX12_layTold_85 : decode cX12_layTold 85 = .ok (.sipush 128, 3) := by decide +kernel
theorem dX12_layTold_88 : decode cX12_layTold 88 = .ok (.iadd, 1) := by decide +kernel
theorem dX12_layTold_89 : decode cX12_layTold 89 = .ok (.iload_n 3, 1) := by decide +kernel
theorem dX12_layTold_90 : decode cX12_layTold 90 = .ok (.iadd, 1) := by decide +kernel
theorem dX12_layTold_91 : decode cX12_layTold 91 = .ok (.iaload, 1) := by decide +kernel
theorem dX12_layTold_92 : decode cX12_layTold 92 = .ok (.istore 4, 2) := by decide +kernel
theorem dX12_layTold_94 : decode cX12_layTold 94 = .ok (.iconst 0, 1) := by decide +kernel
theorem dX12_layTold_95 : decode cX12_layTold 95 = .ok (.istore 5, 2) := by decide +kernel
theorem dX12_layTold_97 : decode cX12_layTold 97 = .ok (.iconst 0, 1) := by decide +kernel
theorem dX12_layTold_98 : decode cX12_layTold 98 = .ok (.istore 6, 2) := by decide +kernel
theorem dX12_layTold_100 : decode cX12_layTold 100 = .ok (.iload 6, 2) := by decide +kernel
theorem dX12_layTold_102 : decode cX12_layTold 102 = .ok (.aload_n 0, 1) := by decide +kernel
theorem dX12_layTold_103 : decode cX12_layTold 103 = .ok (.getfield 69, 3) := by decide +kernel
theorem dX12_layTold_106 : decode cX12_layTold 106 = .ok (.if_icmp .ge 68, 3) := by decide +kernel
theorem dX12_layTold_109 : decode cX12_layTold 109 = .ok (.iload_n 2, 1) := by decide +kernel
theorem dX12_layTold_110 : decode cX12_layTold 110 = .ok (.iload_n 3, 1) := by decide +kernel
theorem dX12_layTold_111 : decode cX12_layTold 111 = .ok (.iconst (-1), 1) := by decide +kernel
theorem dX12_layTold_112 : decode cX12_layTold 112 = .ok (.ixor, 1) := by decide +kernel
theorem dX12_layTold_113 : decode cX12_layTold 113 = .ok (.iand, 1) := by decide +kernel
theorem dX12_layTold_114 : decode cX12_layTold 114 = .ok (.iload 6, 2) := by decide +kernel
theorem dX12_layTold_116 : decode cX12_layTold 116 = .ok (.invokestatic 199, 3) := by decide +kernel
theorem dX12_layTold_119 : decode cX12_layTold 119 = .ok (.ifCond .eq 49, 3) := by decide +kernel
theorem dX12_layTold_122 : decode cX12_layTold 122 = .ok (.sipush 128, 3) := by decide +kernel
theorem dX12_layTold_125 : decode cX12_layTold 125 = .ok (.iload_n 1, 1) := by decide +kernel
theorem dX12_layTold_126 : decode cX12_layTold 126 = .ok (.imul, 1) := by decide +kernel
theorem dX12_layTold_127 : decode cX12_layTold 127 = .ok (.sipush 128, 3) := by decide +kernel
theorem dX12_layTold_130 : decode cX12_layTold 130 = .ok (.iadd, 1) := by decide +kernel
theorem dX12_layTold_131 : decode cX12_layTold 131 = .ok (.iload_n 3, 1) := by decide +kernel
theorem dX12_layTold_132 : decode cX12_layTold 132 = .ok (.iconst 1, 1) := by decide +kernel
theorem dX12_layTold_133 : decode cX12_layTold 133 = .ok (.iload 6, 2) := by decide +kernel
theorem dX12_layTold_135 : decode cX12_layTold 135 = .ok (.ishl, 1) := by decide +kernel
theorem dX12_layTold_136 : decode cX12_layTold 136 = .ok (.ior, 1) := by decide +kernel
theorem dX12_layTold_137 : decode cX12_layTold 137 = .ok (.iadd, 1) := by decide +kernel
theorem dX12_layTold_138 : decode cX12_layTold 138 = .ok (.istore 7, 2) := by decide +kernel
theorem dX12_layTold_140 : decode cX12_layTold 140 = .ok (.iload 4, 2) := by decide +kernel
theorem dX12_layTold_142 : decode cX12_layTold 142 = .ok (.aload_n 0, 1) := by decide +kernel
theorem dX12_layTold_143 : decode cX12_layTold 143 = .ok (.getfield 56, 3) := by decide +kernel
theorem dX12_layTold_146 : decode cX12_layTold 146 = .ok (.iload 7, 2) := by decide +kernel
theorem dX12_layTold_148 : decode cX12_layTold 148 = .ok (.iaload, 1) := by decide +kernel
theorem dX12_layTold_149 : decode cX12_layTold 149 = .ok (.iconst 1, 1) := by decide +kernel
theorem dX12_layTold_150 : decode cX12_layTold 150 = .ok (.iadd, 1) := by decide +kernel
theorem dX12_layTold_151 : decode cX12_layTold 151 = .ok (.invokestatic 202, 3) := by decide +kernel
theorem dX12_layTold_154 : decode cX12_layTold 154 = .ok (.istore 4, 2) := by decide +kernel
theorem dX12_layTold_156 : decode cX12_layTold 156 = .ok (.iload 5, 2) := by decide +kernel
theorem dX12_layTold_158 : decode cX12_layTold 158 = .ok (.aload_n 0, 1) := by decide +kernel
theorem dX12_layTold_159 : decode cX12_layTold 159 = .ok (.getfield 59, 3) := by decide +kernel
theorem dX12_layTold_162 : decode cX12_layTold 162 = .ok (.iload 7, 2) := by decide +kernel
theorem dX12_layTold_164 : decode cX12_layTold 164 = .ok (.iaload, 1) := by decide +kernel
theorem dX12_layTold_165 : decode cX12_layTold 165 = .ok (.iadd, 1) := by decide +kernel
theorem dX12_layTold_166 : decode cX12_layTold 166 = .ok (.istore 5, 2) := by decide +kernel
theorem dX12_layTold_168 : decode cX12_layTold 168 = .ok (.iinc 6 1, 3) := by decide +kernel
theorem dX12_layTold_171 : decode cX12_layTold 171 = .ok (.goto (-71), 3) := by decide +kernel
theorem dX12_layTold_174 : decode cX12_layTold 174 = .ok (.aload_n 0, 1) := by decide +kernel
theorem dX12_layTold_175 : decode cX12_layTold 175 = .ok (.getfield 56, 3) := by decide +kernel
theorem dX12_layTold_178 : decode cX12_layTold 178 = .ok (.sipush 128, 3) := by decide +kernel
theorem dX12_layTold_181 : decode cX12_layTold 181 = .ok (.iload_n 1, 1) := by decide +kernel
theorem dX12_layTold_182 : decode cX12_layTold 182 = .ok (.imul, 1) := by decide +kernel
theorem dX12_layTold_183 : decode cX12_layTold 183 = .ok (.iload_n 3, 1) := by decide +kernel
theorem dX12_layTold_184 : decode cX12_layTold 184 = .ok (.iadd, 1) := by decide +kernel
theorem dX12_layTold_185 : decode cX12_layTold 185 = .ok (.iload 4, 2) := by decide +kernel
theorem dX12_layTold_187 : decode cX12_layTold 187 = .ok (.iastore, 1) := by decide +kernel
theorem dX12_layTold_188 : decode cX12_layTold 188 = .ok (.aload_n 0, 1) := by decide +kernel
theorem dX12_layTold_189 : decode cX12_layTold 189 = .ok (.getfield 59, 3) := by decide +kernel
theorem dX12_layTold_192 : decode cX12_layTold 192 = .ok (.sipush 128, 3) := by decide +kernel
theorem dX12_layTold_195 : decode cX12_layTold 195 = .ok (.iload_n 1, 1) := by decide +kernel
theorem dX12_layTold_196 : decode cX12_layTold 196 = .ok (.imul, 1) := by decide +kernel
theorem dX12_layTold_197 : decode cX12_layTold 197 = .ok (.iload_n 3, 1) := by decide +kernel
theorem dX12_layTold_198 : decode cX12_layTold 198 = .ok (.iadd, 1) := by decide +kernel
theorem dX12_layTold_199 : decode cX12_layTold 199 = .ok (.iload 5, 2) := by decide +kernel
theorem dX12_layTold_201 : decode cX12_layTold 201 = .ok (.iastore, 1) := by decide +kernel
theorem dX12_layTold_202 : decode cX12_layTold 202 = .ok (.iinc 3 1, 3) := by decide +kernel
theorem dX12_layTold_205 : decode cX12_layTold 205 = .ok (.goto (-139), 3) := by decide +kernel
theorem dX12_layTold_208 : decode cX12_layTold 208 = .ok (.iinc 1 (-1), 3) := by decide +kernel
theorem dX12_layTold_211 : decode cX12_layTold 211 = .ok (.goto (-157), 3) := by decide +kernel
theorem dX12_layTold_214 : decode cX12_layTold 214 = .ok (.aload_n 0, 1) := by decide +kernel
theorem dX12_layTold_215 : decode cX12_layTold 215 = .ok (.getfield 56, 3) := by decide +kernel
theorem dX12_layTold_218 : decode cX12_layTold 218 = .ok (.iconst 0, 1) := by decide +kernel
theorem dX12_layTold_219 : decode cX12_layTold 219 = .ok (.iaload, 1) := by decide +kernel
theorem dX12_layTold_220 : decode cX12_layTold 220 = .ok (.ireturn, 1) := by decide +kernel
set_option maxRecDepth 20000 in
theorem ggX12_told_X12_in : GoodIn wsX12_told wsX12_in := goodIn_r _ [8] (by decide +kernel) (by decide +kernel)
set_option maxRecDepth 20000 in
theorem gX12_told_X12_in : GoodIn wsX12_told (va_wsS RX12 72 yX12_in wsX12_in) := goodIn_app (goodIn_of _ (by decide +kernel)) ggX12_told_X12_in
set_option maxRecDepth 20000 in
theorem ggX12_told_X12_layTold : GoodIn wsX12_told wsX12_layTold := goodIn_r _ [12, 4, 3, 13, 14, 15, 16, 7, 17, 18, 19, 20, 21, 22, 23, 24, 25, 26, 27, 28, 29, 30, 31, 32, 33, 34, 35, 36, 37, 38, 39, 40, 41, 42, 43, 44, 45, 46, 47, 48, 49, 50, 51, 52, 53, 54, 55, 56, 57, 58, 59, 60, 61, 62, 63, 64, 65] (by decide +kernel) (by decide +kernel)
set_option maxRecDepth 20000 in
theorem gX12_told_X12_layTold : GoodIn wsX12_told (wsV RX12 207 RX12 yX12_layTold wsX12_layTold) := goodIn_app (goodIn_of _ (by decide +kernel)) ggX12_told_X12_layTold
set_option maxRecDepth 20000 in
theorem ggX12_told_X12_fitFor : GoodIn wsX12_told wsX12_fitFor := goodIn_r _ [17, 3, 18, 19, 20, 7, 21, 22, 23, 24, 25, 26, 27, 28, 35, 36, 37, 38, 39, 40, 41, 42, 43, 44, 45, 46, 47, 48, 49, 50, 51, 52, 53, 54, 55, 56, 57, 58, 59, 60, 61, 62, 63, 64, 65] (by decide +kernel) (by decide +kernel)
set_option maxRecDepth 20000 in
theorem gX12_told_X12_fitFor : GoodIn wsX12_told (wsV RX12 196 RX12 yX12_fitFor wsX12_fitFor) := goodIn_app (goodIn_of _ (by decide +kernel)) ggX12_told_X12_fitFor
set_option maxRecDepth 20000 in
theorem ggX12_told_X12_hasBit : GoodIn wsX12_told wsX12_hasBit := goodIn_r _ [31] (by decide +kernel) (by decide +kernel)
set_option maxRecDepth 20000 in
theorem gX12_told_X12_hasBit : GoodIn wsX12_told (va_wsS RX12 199 yX12_hasBit wsX12_hasBit) := goodIn_app (goodIn_of _ (by decide +kernel)) ggX12_told_X12_hasBit
theorem dX12_told_0 : decode cX12_told 0 = .ok (.aload_n 0, 1) := by decide +kernel
theorem dX12_told_1 : decode cX12_told 1 = .ok (.iconst 0, 1) := by decide +kernel
theorem dX12_told_2 : decode cX12_told 2 = .ok (.putfield 65, 3) := by decide +kernel
theorem dX12_told_5 : decode cX12_told 5 = .ok (.iload_n 1, 1) := by decide +kernel
theorem dX12_told_6 : decode cX12_told 6 = .ok (.i2l, 1) := by decide +kernel
theorem dX12_told_7 : decode cX12_told 7 = .ok (.ldc2_w 205, 3) := by decide +kernel
theorem dX12_told_10 : decode cX12_told 10 = .ok (.aload_n 0, 1) := by decide +kernel
theorem dX12_told_11 : decode cX12_told 11 = .ok (.getfield 69, 3) := by decide +kernel
theorem dX12_told_14 : decode cX12_told 14 = .ok (.iconst 1, 1) := by decide +kernel
theorem dX12_told_15 : decode cX12_told 15 = .ok (.isub, 1) := by decide +kernel
theorem dX12_told_16 : decode cX12_told 16 = .ok (.i2l, 1) := by decide +kernel
theorem dX12_told_17 : decode cX12_told 17 = .ok (.invokestatic 72, 3) := by decide +kernel
theorem dX12_told_20 : decode cX12_told 20 = .ok (.ifCond .ne 5, 3) := by decide +kernel
theorem dX12_told_23 : decode cX12_told 23 = .ok (.iconst (-1), 1) := by decide +kernel
theorem dX12_told_24 : decode cX12_told 24 = .ok (.ireturn, 1) := by decide +kernel
theorem dX12_told_25 : decode cX12_told 25 = .ok (.aload_n 0, 1) := by decide +kernel
theorem dX12_told_26 : decode cX12_told 26 = .ok (.invokevirtual 207, 3) := by decide +kernel
theorem dX12_told_29 : decode cX12_told 29 = .ok (.istore_n 2, 1) := by decide +kernel
theorem dX12_told_30 : decode cX12_told 30 = .ok (.iload_n 1, 1) := by decide +kernel
theorem dX12_told_31 : decode cX12_told 31 = .ok (.ifCond .ge 5, 3) := by decide +kernel
theorem dX12_told_34 : decode cX12_told 34 = .ok (.iload_n 2, 1) := by decide +kernel
theorem dX12_told_35 : decode cX12_told 35 = .ok (.ireturn, 1) := by decide +kernel
theorem dX12_told_36 : decode cX12_told 36 = .ok (.iconst 0, 1) := by decide +kernel
theorem dX12_told_37 : decode cX12_told 37 = .ok (.istore_n 3, 1) := by decide +kernel
theorem dX12_told_38 : decode cX12_told 38 = .ok (.bipush 9, 2) := by decide +kernel
theorem dX12_told_40 : decode cX12_told 40 = .ok (.istore 4, 2) := by decide +kernel
theorem dX12_told_42 : decode cX12_told 42 = .ok (.iconst 0, 1) := by decide +kernel
theorem dX12_told_43 : decode cX12_told 43 = .ok (.istore 5, 2) := by decide +kernel
theorem dX12_told_45 : decode cX12_told 45 = .ok (.iload 5, 2) := by decide +kernel
theorem dX12_told_47 : decode cX12_told 47 = .ok (.iload_n 1, 1) := by decide +kernel
theorem dX12_told_48 : decode cX12_told 48 = .ok (.if_icmp .gt 125, 3) := by decide +kernel
theorem dX12_told_51 : decode cX12_told 51 = .ok (.aload_n 0, 1) := by decide +kernel
theorem dX12_told_52 : decode cX12_told 52 = .ok (.getfield 56, 3) := by decide +kernel
theorem dX12_told_55 : decode cX12_told 55 = .ok (.sipush 128, 3) := by decide +kernel
theorem dX12_told_58 : decode cX12_told 58 = .ok (.iload 5, 2) := by decide +kernel
theorem dX12_told_60 : decode cX12_told 60 = .ok (.imul, 1) := by decide +kernel
theorem dX12_told_61 : decode cX12_told 61 = .ok (.iload_n 3, 1) := by decide +kernel
theorem dX12_told_62 : decode cX12_told 62 = .ok (.iadd, 1) := by decide +kernel
theorem dX12_told_63 : decode cX12_told 63 = .ok (.iaload, 1) := by decide +kernel
theorem dX12_told_64 : decode cX12_told 64 = .ok (.istore 6, 2) := by decide +kernel
theorem dX12_told_66 : decode cX12_told 66 = .ok (.bipush 9, 2) := by decide +kernel
theorem dX12_told_68 : decode cX12_told 68 = .ok (.istore 4, 2) := by decide +kernel
theorem dX12_told_70 : decode cX12_told 70 = .ok (.aload_n 0, 1) := by decide +kernel
theorem dX12_told_71 : decode cX12_told 71 = .ok (.getfield 69, 3) := by decide +kernel
theorem dX12_told_74 : decode cX12_told 74 = .ok (.iconst 1, 1) := by decide +kernel
theorem dX12_told_75 : decode cX12_told 75 = .ok (.isub, 1) := by decide +kernel
theorem dX12_told_76 : decode cX12_told 76 = .ok (.istore 7, 2) := by decide +kernel
theorem dX12_told_78 : decode cX12_told 78 = .ok (.iload 7, 2) := by decide +kernel
theorem dX12_told_80 : decode cX12_told 80 = .ok (.ifCond .lt 69, 3) := by decide +kernel
theorem dX12_told_83 : decode cX12_told 83 = .ok (.aload_n 0, 1) := by decide +kernel
theorem dX12_told_84 : decode cX12_told 84 = .ok (.iload 5, 2) := by decide +kernel
theorem dX12_told_86 : decode cX12_told 86 = .ok (.invokevirtual 196, 3) := by decide +kernel
theorem dX12_told_89 : decode cX12_told 89 = .ok (.iload_n 3, 1) := by decide +kernel
theorem dX12_told_90 : decode cX12_told 90 = .ok (.iconst (-1), 1) := by decide +kernel
theorem dX12_told_91 : decode cX12_told 91 = .ok (.ixor, 1) := by decide +kernel
theorem dX12_told_92 : decode cX12_told 92 = .ok (.iand, 1) := by decide +kernel
theorem dX12_told_93 : decode cX12_told 93 = .ok (.iload 7, 2) := by decide +kernel
theorem dX12_told_95 : decode cX12_told 95 = .ok (.invokestatic 199, 3) := by decide +kernel
theorem dX12_told_98 : decode cX12_told 98 = .ok (.istore 8, 2) := by decide +kernel
theorem dX12_told_100 : decode cX12_told 100 = .ok (.iload 8, 2) := by decide +kernel
theorem dX12_told_102 : decode cX12_told 102 = .ok (.ifCond .eq 37, 3) := by decide +kernel
theorem dX12_told_105 : decode cX12_told 105 = .ok (.aload_n 0, 1) := by decide +kernel
theorem dX12_told_106 : decode cX12_told 106 = .ok (.getfield 56, 3) := by decide +kernel
theorem dX12_told_109 : decode cX12_told 109 = .ok (.sipush 128, 3) := by decide +kernel
theorem dX12_told_112 : decode cX12_told 112 = .ok (.iload 5, 2) := by decide +kernel
theorem dX12_told_114 : decode cX12_told 114 = .ok (.imul, 1) := by decide +kernel
theorem dX12_told_115 : decode cX12_told 115 = .ok (.sipush 128, 3) := by decide +kernel
theorem dX12_told_118 : decode cX12_told 118 = .ok (.iadd, 1) := by decide +kernel
theorem dX12_told_119 : decode cX12_told 119 = .ok (.iload_n 3, 1) := by decide +kernel
theorem dX12_told_120 : decode cX12_told 120 = .ok (.iconst 1, 1) := by decide +kernel
theorem dX12_told_121 : decode cX12_told 121 = .ok (.iload 7, 2) := by decide +kernel
theorem dX12_told_123 : decode cX12_told 123 = .ok (.ishl, 1) := by decide +kernel
theorem dX12_told_124 : decode cX12_told 124 = .ok (.ior, 1) := by decide +kernel
theorem dX12_told_125 : decode cX12_told 125 = .ok (.iadd, 1) := by decide +kernel
theorem dX12_told_126 : decode cX12_told 126 = .ok (.iaload, 1) := by decide +kernel
theorem dX12_told_127 : decode cX12_told 127 = .ok (.iconst 1, 1) := by decide +kernel
theorem dX12_told_128 : decode cX12_told 128 = .ok (.iadd, 1) := by decide +kernel
theorem dX12_told_129 : decode cX12_told 129 = .ok (.iload 6, 2) := by decide +kernel
theorem dX12_told_131 : decode cX12_told 131 = .ok (.if_icmp .ne 8, 3) := by decide +kernel
theorem dX12_told_134 : decode cX12_told 134 = .ok (.iload 7, 2) := by decide +kernel
theorem dX12_told_136 : decode cX12_told 136 = .ok (.goto 5, 3) := by decide +kernel
theorem dX12_told_139 : decode cX12_told 139 = .ok (.iload 4, 2) := by decide +kernel
theorem dX12_told_141 : decode cX12_told 141 = .ok (.istore 4, 2) := by decide +kernel
theorem dX12_told_143 : decode cX12_told 143 = .ok (.iinc 7 (-1), 3) := by decide +kernel
theorem dX12_told_146 : decode cX12_told 146 = .ok (.goto (-68), 3) := by decide +kernel
theorem dX12_told_149 : decode cX12_told 149 = .ok (.iload_n 3, 1) := by decide +kernel
theorem dX12_told_150 : decode cX12_told 150 = .ok (.iload 4, 2) := by decide +kernel
theorem dX12_told_152 : decode cX12_told 152 = .ok (.bipush 9, 2) := by decide +kernel
theorem dX12_told_154 : decode cX12_told 154 = .ok (.if_icmp .ne 7, 3) := by decide +kernel
theorem dX12_told_157 : decode cX12_told 157 = .ok (.iconst 0, 1) := by decide +kernel
theorem dX12_told_158 : decode cX12_told 158 = .ok (.goto 7, 3) := by decide +kernel
theorem dX12_told_161 : decode cX12_told 161 = .ok (.iconst 1, 1) := by decide +kernel
theorem dX12_told_162 : decode cX12_told 162 = .ok (.iload 4, 2) := by decide +kernel
theorem dX12_told_164 : decode cX12_told 164 = .ok (.ishl, 1) := by decide +kernel
theorem dX12_told_165 : decode cX12_told 165 = .ok (.ior, 1) := by decide +kernel
theorem dX12_told_166 : decode cX12_told 166 = .ok (.istore_n 3, 1) := by decide +kernel
theorem dX12_told_167 : decode cX12_told 167 = .ok (.iinc 5 1, 3) := by decide +kernel
theorem dX12_told_170 : decode cX12_told 170 = .ok (.goto (-125), 3) := by decide +kernel
theorem dX12_told_173 : decode cX12_told 173 = .ok (.iload 4, 2) := by decide +kernel
theorem dX12_told_175 : decode cX12_told 175 = .ok (.ireturn, 1) := by decide +kernel
set_option maxRecDepth 20000 in
theorem ggX12_rings_X12_layTold : GoodIn wsX12_rings wsX12_layTold := goodIn_r _ [7, 8, 9, 2, 10, 11, 12, 6, 13, 14, 15, 16, 17, 18, 19, 20, 21, 22, 23, 24, 25, 26, 27, 28, 29, 30, 31, 32, 33, 34, 35, 36, 37, 38, 39, 40, 41, 42, 43, 44, 45, 46, 47, 48, 49, 50, 51, 52, 53, 54, 55, 56, 57, 58, 59, 60, 61] (by decide +kernel) (by decide +kernel)
set_option maxRecDepth 20000 in
theorem gX12_rings_X12_layTold : GoodIn wsX12_rings (wsV RX12 207 RX12 yX12_layTold wsX12_layTold) := goodIn_app (goodIn_of _ (by decide +kernel)) ggX12_rings_X12_layTold
theorem dX12_rings_0 : decode cX12_rings 0 = .ok (.aload_n 0, 1) := by decide +kernel
theorem dX12_rings_1 : decode cX12_rings 1 = .ok (.iconst 0, 1) := by decide +kernel
theorem dX12_rings_2 : decode cX12_rings 2 = .ok (.putfield 65, 3) := by decide +kernel
theorem dX12_rings_5 : decode cX12_rings 5 = .ok (.aload_n 0, 1) := by decide +kernel
theorem dX12_rings_6 : decode cX12_rings 6 = .ok (.invokevirtual 207, 3) := by decide +kernel
theorem dX12_rings_9 : decode cX12_rings 9 = .ok (.pop, 1) := by decide +kernel
theorem dX12_rings_10 : decode cX12_rings 10 = .ok (.aload_n 0, 1) := by decide +kernel
theorem dX12_rings_11 : decode cX12_rings 11 = .ok (.getfield 59, 3) := by decide +kernel
theorem dX12_rings_14 : decode cX12_rings 14 = .ok (.iconst 0, 1) := by decide +kernel
theorem dX12_rings_15 : decode cX12_rings 15 = .ok (.iaload, 1) := by decide +kernel
theorem dX12_rings_16 : decode cX12_rings 16 = .ok (.ireturn, 1) := by decide +kernel
set_option maxRecDepth 20000 in
theorem ggX12_nobodyBits_X12_fitFor : GoodIn wsX12_nobodyBits wsX12_fitFor := goodIn_r _ [6, 1, 7, 8, 9, 5, 10, 11, 12, 13, 14, 15, 16, 17, 18, 19, 20, 21, 22, 23, 24, 25, 26, 27, 28, 29, 30, 31, 32, 33, 34, 35, 36, 37, 38, 39, 40, 41, 42, 43, 44, 45, 46, 47, 48] (by decide +kernel) (by decide +kernel)
set_option maxRecDepth 20000 in
theorem gX12_nobodyBits_X12_fitFor : GoodIn wsX12_nobodyBits (wsV RX12 196 RX12 yX12_fitFor wsX12_fitFor) := goodIn_app (goodIn_of _ (by decide +kernel)) ggX12_nobodyBits_X12_fitFor
theorem dX12_nobodyBits_0 : decode cX12_nobodyBits 0 = .ok (.iconst 0, 1) := by decide +kernel
theorem dX12_nobodyBits_1 : decode cX12_nobodyBits 1 = .ok (.istore_n 1, 1) := by decide +kernel
theorem dX12_nobodyBits_2 : decode cX12_nobodyBits 2 = .ok (.iconst 0, 1) := by decide +kernel
theorem dX12_nobodyBits_3 : decode cX12_nobodyBits 3 = .ok (.istore_n 2, 1) := by decide +kernel
theorem dX12_nobodyBits_4 : decode cX12_nobodyBits 4 = .ok (.iload_n 2, 1) := by decide +kernel
theorem dX12_nobodyBits_5 : decode cX12_nobodyBits 5 = .ok (.aload_n 0, 1) := by decide +kernel
theorem dX12_nobodyBits_6 : decode cX12_nobodyBits 6 = .ok (.getfield 69, 3) := by decide +kernel
theorem dX12_nobodyBits_9 : decode cX12_nobodyBits 9 = .ok (.if_icmp .ge 27, 3) := by decide +kernel
theorem dX12_nobodyBits_12 : decode cX12_nobodyBits 12 = .ok (.iload_n 1, 1) := by decide +kernel
theorem dX12_nobodyBits_13 : decode cX12_nobodyBits 13 = .ok (.aload_n 0, 1) := by decide +kernel
theorem dX12_nobodyBits_14 : decode cX12_nobodyBits 14 = .ok (.iload_n 2, 1) := by decide +kernel
theorem dX12_nobodyBits_15 : decode cX12_nobodyBits 15 = .ok (.invokevirtual 196, 3) := by decide +kernel
theorem dX12_nobodyBits_18 : decode cX12_nobodyBits 18 = .ok (.ifCond .ne 9, 3) := by decide +kernel
theorem dX12_nobodyBits_21 : decode cX12_nobodyBits 21 = .ok (.iconst 1, 1) := by decide +kernel
theorem dX12_nobodyBits_22 : decode cX12_nobodyBits 22 = .ok (.iload_n 2, 1) := by decide +kernel
theorem dX12_nobodyBits_23 : decode cX12_nobodyBits 23 = .ok (.ishl, 1) := by decide +kernel
theorem dX12_nobodyBits_24 : decode cX12_nobodyBits 24 = .ok (.goto 4, 3) := by decide +kernel
theorem dX12_nobodyBits_27 : decode cX12_nobodyBits 27 = .ok (.iconst 0, 1) := by decide +kernel
theorem dX12_nobodyBits_28 : decode cX12_nobodyBits 28 = .ok (.ior, 1) := by decide +kernel
theorem dX12_nobodyBits_29 : decode cX12_nobodyBits 29 = .ok (.istore_n 1, 1) := by decide +kernel
theorem dX12_nobodyBits_30 : decode cX12_nobodyBits 30 = .ok (.iinc 2 1, 3) := by decide +kernel
theorem dX12_nobodyBits_33 : decode cX12_nobodyBits 33 = .ok (.goto (-29), 3) := by decide +kernel
theorem dX12_nobodyBits_36 : decode cX12_nobodyBits 36 = .ok (.iload_n 1, 1) := by decide +kernel
theorem dX12_nobodyBits_37 : decode cX12_nobodyBits 37 = .ok (.ireturn, 1) := by decide +kernel
set_option maxRecDepth 20000 in
theorem ggX12_nobody_X12_nobodyBits : GoodIn wsX12_nobody wsX12_nobodyBits := goodIn_r _ [6, 7, 8, 9, 10, 5, 11, 12, 13, 14, 15, 16, 17, 18, 19, 20, 21, 22, 23, 24, 25, 26, 27, 28, 29, 30, 31, 32, 33, 34, 35, 36, 37, 38, 39, 40, 41, 42, 43, 44, 45, 46, 47, 48, 49, 50, 51, 52, 53] (by decide +kernel) (by decide +kernel)
set_option maxRecDepth 20000 in
theorem gX12_nobody_X12_nobodyBits : GoodIn wsX12_nobody (wsV RX12 210 RX12 yX12_nobodyBits wsX12_nobodyBits) := goodIn_app (goodIn_of _ (by decide +kernel)) ggX12_nobody_X12_nobodyBits
theorem dX12_nobody_0 : decode cX12_nobody 0 = .ok (.aload_n 0, 1) := by decide +kernel
theorem dX12_nobody_1 : decode cX12_nobody 1 = .ok (.iconst 0, 1) := by decide +kernel
theorem dX12_nobody_2 : decode cX12_nobody 2 = .ok (.putfield 65, 3) := by decide +kernel
theorem dX12_nobody_5 : decode cX12_nobody 5 = .ok (.aload_n 0, 1) := by decide +kernel
theorem dX12_nobody_6 : decode cX12_nobody 6 = .ok (.invokevirtual 210, 3) := by decide +kernel
theorem dX12_nobody_9 : decode cX12_nobody 9 = .ok (.ireturn, 1) := by decide +kernel
set_option maxRecDepth 20000 in
theorem ggX12_swaps_X12_in : GoodIn wsX12_swaps wsX12_in := goodIn_r _ [6] (by decide +kernel) (by decide +kernel)
set_option maxRecDepth 20000 in
theorem gX12_swaps_X12_in : GoodIn wsX12_swaps (va_wsS RX12 72 yX12_in wsX12_in) := goodIn_app (goodIn_of _ (by decide +kernel)) ggX12_swaps_X12_in
set_option maxRecDepth 20000 in
theorem ggX12_swaps_X12_mayTurn : GoodIn wsX12_swaps wsX12_mayTurn := goodIn_r _ [10, 11, 12, 13, 14, 15, 5, 16, 17, 18, 19, 20, 21, 22, 23, 24, 25, 26, 27, 28, 29, 30, 31, 32, 33, 34, 35, 36, 37, 38, 39, 40, 41, 42, 43, 44, 45, 46, 47, 48] (by decide +kernel) (by decide +kernel)
set_option maxRecDepth 20000 in
theorem gX12_swaps_X12_mayTurn : GoodIn wsX12_swaps (wsV RX12 101 RX12 yX12_mayTurn wsX12_mayTurn) := goodIn_app (goodIn_of _ (by decide +kernel)) ggX12_swaps_X12_mayTurn
theorem dX12_swaps_0 : decode cX12_swaps 0 = .ok (.aload_n 0, 1) := by decide +kernel
theorem dX12_swaps_1 : decode cX12_swaps 1 = .ok (.iconst 0, 1) := by decide +kernel
theorem dX12_swaps_2 : decode cX12_swaps 2 = .ok (.putfield 65, 3) := by decide +kernel
theorem dX12_swaps_5 : decode cX12_swaps 5 = .ok (.iload_n 1, 1) := by decide +kernel
theorem dX12_swaps_6 : decode cX12_swaps 6 = .ok (.i2l, 1) := by decide +kernel
theorem dX12_swaps_7 : decode cX12_swaps 7 = .ok (.lconst 0, 1) := by decide +kernel
theorem dX12_swaps_8 : decode cX12_swaps 8 = .ok (.lconst 1, 1) := by decide +kernel
theorem dX12_swaps_9 : decode cX12_swaps 9 = .ok (.invokestatic 72, 3) := by decide +kernel
theorem dX12_swaps_12 : decode cX12_swaps 12 = .ok (.ifCond .ne 5, 3) := by decide +kernel
theorem dX12_swaps_15 : decode cX12_swaps 15 = .ok (.iconst (-1), 1) := by decide +kernel
theorem dX12_swaps_16 : decode cX12_swaps 16 = .ok (.ireturn, 1) := by decide +kernel
theorem dX12_swaps_17 : decode cX12_swaps 17 = .ok (.iconst 0, 1) := by decide +kernel
theorem dX12_swaps_18 : decode cX12_swaps 18 = .ok (.istore_n 2, 1) := by decide +kernel
theorem dX12_swaps_19 : decode cX12_swaps 19 = .ok (.bipush (-4), 2) := by decide +kernel
theorem dX12_swaps_21 : decode cX12_swaps 21 = .ok (.istore_n 3, 1) := by decide +kernel
theorem dX12_swaps_22 : decode cX12_swaps 22 = .ok (.aload_n 0, 1) := by decide +kernel
theorem dX12_swaps_23 : decode cX12_swaps 23 = .ok (.getfield 69, 3) := by decide +kernel
theorem dX12_swaps_26 : decode cX12_swaps 26 = .ok (.iconst 1, 1) := by decide +kernel
theorem dX12_swaps_27 : decode cX12_swaps 27 = .ok (.isub, 1) := by decide +kernel
theorem dX12_swaps_28 : decode cX12_swaps 28 = .ok (.istore 4, 2) := by decide +kernel
theorem dX12_swaps_30 : decode cX12_swaps 30 = .ok (.iload 4, 2) := by decide +kernel
theorem dX12_swaps_32 : decode cX12_swaps 32 = .ok (.ifCond .lt 90, 3) := by decide +kernel
theorem dX12_swaps_35 : decode cX12_swaps 35 = .ok (.aload_n 0, 1) := by decide +kernel
theorem dX12_swaps_36 : decode cX12_swaps 36 = .ok (.getfield 69, 3) := by decide +kernel
theorem dX12_swaps_39 : decode cX12_swaps 39 = .ok (.iconst 1, 1) := by decide +kernel
theorem dX12_swaps_40 : decode cX12_swaps 40 = .ok (.isub, 1) := by decide +kernel
theorem dX12_swaps_41 : decode cX12_swaps 41 = .ok (.istore 5, 2) := by decide +kernel
theorem dX12_swaps_43 : decode cX12_swaps 43 = .ok (.iload 5, 2) := by decide +kernel
theorem dX12_swaps_45 : decode cX12_swaps 45 = .ok (.iload 4, 2) := by decide +kernel
theorem dX12_swaps_47 : decode cX12_swaps 47 = .ok (.if_icmp .le 69, 3) := by decide +kernel
theorem dX12_swaps_50 : decode cX12_swaps 50 = .ok (.aload_n 0, 1) := by decide +kernel
theorem dX12_swaps_51 : decode cX12_swaps 51 = .ok (.iload 4, 2) := by decide +kernel
theorem dX12_swaps_53 : decode cX12_swaps 53 = .ok (.iload 5, 2) := by decide +kernel
theorem dX12_swaps_55 : decode cX12_swaps 55 = .ok (.invokevirtual 101, 3) := by decide +kernel
theorem dX12_swaps_58 : decode cX12_swaps 58 = .ok (.ifCond .eq 18, 3) := by decide +kernel
theorem dX12_swaps_61 : decode cX12_swaps 61 = .ok (.aload_n 0, 1) := by decide +kernel
theorem dX12_swaps_62 : decode cX12_swaps 62 = .ok (.iload 5, 2) := by decide +kernel
theorem dX12_swaps_64 : decode cX12_swaps 64 = .ok (.iload 4, 2) := by decide +kernel
theorem dX12_swaps_66 : decode cX12_swaps 66 = .ok (.invokevirtual 101, 3) := by decide +kernel
theorem dX12_swaps_69 : decode cX12_swaps 69 = .ok (.ifCond .eq 7, 3) := by decide +kernel
theorem dX12_swaps_72 : decode cX12_swaps 72 = .ok (.iconst 1, 1) := by decide +kernel
theorem dX12_swaps_73 : decode cX12_swaps 73 = .ok (.goto 4, 3) := by decide +kernel
theorem dX12_swaps_76 : decode cX12_swaps 76 = .ok (.iconst 0, 1) := by decide +kernel
theorem dX12_swaps_77 : decode cX12_swaps 77 = .ok (.istore 6, 2) := by decide +kernel
theorem dX12_swaps_79 : decode cX12_swaps 79 = .ok (.iload_n 2, 1) := by decide +kernel
theorem dX12_swaps_80 : decode cX12_swaps 80 = .ok (.iload 6, 2) := by decide +kernel
theorem dX12_swaps_82 : decode cX12_swaps 82 = .ok (.ifCond .eq 7, 3) := by decide +kernel
theorem dX12_swaps_85 : decode cX12_swaps 85 = .ok (.iconst 1, 1) := by decide +kernel
theorem dX12_swaps_86 : decode cX12_swaps 86 = .ok (.goto 4, 3) := by decide +kernel
theorem dX12_swaps_89 : decode cX12_swaps 89 = .ok (.iconst 0, 1) := by decide +kernel
theorem dX12_swaps_90 : decode cX12_swaps 90 = .ok (.iadd, 1) := by decide +kernel
theorem dX12_swaps_91 : decode cX12_swaps 91 = .ok (.istore_n 2, 1) := by decide +kernel
theorem dX12_swaps_92 : decode cX12_swaps 92 = .ok (.iload 6, 2) := by decide +kernel
theorem dX12_swaps_94 : decode cX12_swaps 94 = .ok (.ifCond .eq 14, 3) := by decide +kernel
theorem dX12_swaps_97 : decode cX12_swaps 97 = .ok (.bipush 10, 2) := by decide +kernel
theorem dX12_swaps_99 : decode cX12_swaps 99 = .ok (.iload 4, 2) := by decide +kernel
theorem dX12_swaps_101 : decode cX12_swaps 101 = .ok (.imul, 1) := by decide +kernel
theorem dX12_swaps_102 : decode cX12_swaps 102 = .ok (.iload 5, 2) := by decide +kernel
theorem dX12_swaps_104 : decode cX12_swaps 104 = .ok (.iadd, 1) := by decide +kernel
theorem dX12_swaps_105 : decode cX12_swaps 105 = .ok (.goto 4, 3) := by decide +kernel
theorem dX12_swaps_108 : decode cX12_swaps 108 = .ok (.iload_n 3, 1) := by decide +kernel
theorem dX12_swaps_109 : decode cX12_swaps 109 = .ok (.istore_n 3, 1) := by decide +kernel
theorem dX12_swaps_110 : decode cX12_swaps 110 = .ok (.iinc 5 (-1), 3) := by decide +kernel
theorem dX12_swaps_113 : decode cX12_swaps 113 = .ok (.goto (-70), 3) := by decide +kernel
theorem dX12_swaps_116 : decode cX12_swaps 116 = .ok (.iinc 4 (-1), 3) := by decide +kernel
theorem dX12_swaps_119 : decode cX12_swaps 119 = .ok (.goto (-89), 3) := by decide +kernel
theorem dX12_swaps_122 : decode cX12_swaps 122 = .ok (.iload_n 1, 1) := by decide +kernel
theorem dX12_swaps_123 : decode cX12_swaps 123 = .ok (.ifCond .ne 7, 3) := by decide +kernel
theorem dX12_swaps_126 : decode cX12_swaps 126 = .ok (.iload_n 2, 1) := by decide +kernel
theorem dX12_swaps_127 : decode cX12_swaps 127 = .ok (.goto 4, 3) := by decide +kernel
theorem dX12_swaps_130 : decode cX12_swaps 130 = .ok (.iload_n 3, 1) := by decide +kernel
theorem dX12_swaps_131 : decode cX12_swaps 131 = .ok (.ireturn, 1) := by decide +kernel
set_option maxRecDepth 20000 in
theorem ggX12_lastsFor_X12_bearsOf : GoodIn wsX12_lastsFor wsX12_bearsOf := goodIn_r _ [7, 8, 17, 18, 19, 20, 21, 22, 23, 24, 25, 26, 27, 28, 29, 30, 31, 32, 33, 34, 35, 36, 37, 38, 39, 40, 41, 42, 43, 44, 45, 46, 47] (by decide +kernel) (by decide +kernel)
set_option maxRecDepth 20000 in
theorem gX12_lastsFor_X12_bearsOf : GoodIn wsX12_lastsFor (wsV RX12 80 RX12 yX12_bearsOf wsX12_bearsOf) := goodIn_app (goodIn_of _ (by decide +kernel)) ggX12_lastsFor_X12_bearsOf
set_option maxRecDepth 20000 in
theorem ggX12_lastsFor_X12_growsOf : GoodIn wsX12_lastsFor wsX12_growsOf := goodIn_r _ [12, 13, 8, 17, 18, 19, 20, 21, 22, 23, 24, 25, 26, 27, 28, 29, 30, 31, 32, 33, 34, 35, 36, 37, 38, 39, 40, 41, 42, 43, 44, 45, 46, 47] (by decide +kernel) (by decide +kernel)
set_option maxRecDepth 20000 in
theorem gX12_lastsFor_X12_growsOf : GoodIn wsX12_lastsFor (wsV RX12 87 RX12 yX12_growsOf wsX12_growsOf) := goodIn_app (goodIn_of _ (by decide +kernel)) ggX12_lastsFor_X12_growsOf
set_option maxRecDepth 20000 in
theorem ggX12_lastsFor_X12_lesser : GoodIn wsX12_lastsFor wsX12_lesser := goodIn_r _ [16] (by decide +kernel) (by decide +kernel)
set_option maxRecDepth 20000 in
theorem gX12_lastsFor_X12_lesser : GoodIn wsX12_lastsFor (va_wsS RX12 90 yX12_lesser wsX12_lesser) := goodIn_app (goodIn_of _ (by decide +kernel)) ggX12_lastsFor_X12_lesser
theorem dX12_lastsFor_0 : decode cX12_lastsFor 0 = .ok (.aload_n 0, 1) := by decide +kernel
theorem dX12_lastsFor_1 : decode cX12_lastsFor 1 = .ok (.getfield 19, 3) := by decide +kernel
theorem dX12_lastsFor_4 : decode cX12_lastsFor 4 = .ok (.bipush 7, 2) := by decide +kernel
theorem dX12_lastsFor_6 : decode cX12_lastsFor 6 = .ok (.iload_n 1, 1) := by decide +kernel
theorem dX12_lastsFor_7 : decode cX12_lastsFor 7 = .ok (.imul, 1) := by decide +kernel
theorem dX12_lastsFor_8 : decode cX12_lastsFor 8 = .ok (.iload_n 2, 1) := by decide +kernel
theorem dX12_lastsFor_9 : decode cX12_lastsFor 9 = .ok (.iadd, 1) := by decide +kernel
theorem dX12_lastsFor_10 : decode cX12_lastsFor 10 = .ok (.iaload, 1) := by decide +kernel
theorem dX12_lastsFor_11 : decode cX12_lastsFor 11 = .ok (.istore_n 3, 1) := by decide +kernel
theorem dX12_lastsFor_12 : decode cX12_lastsFor 12 = .ok (.iconst 0, 1) := by decide +kernel
theorem dX12_lastsFor_13 : decode cX12_lastsFor 13 = .ok (.istore 4, 2) := by decide +kernel
theorem dX12_lastsFor_15 : decode cX12_lastsFor 15 = .ok (.iload 4, 2) := by decide +kernel
theorem dX12_lastsFor_17 : decode cX12_lastsFor 17 = .ok (.bipush 99, 2) := by decide +kernel
theorem dX12_lastsFor_19 : decode cX12_lastsFor 19 = .ok (.if_icmp .ge 36, 3) := by decide +kernel
theorem dX12_lastsFor_22 : decode cX12_lastsFor 22 = .ok (.iload_n 3, 1) := by decide +kernel
theorem dX12_lastsFor_23 : decode cX12_lastsFor 23 = .ok (.aload_n 0, 1) := by decide +kernel
theorem dX12_lastsFor_24 : decode cX12_lastsFor 24 = .ok (.iload_n 1, 1) := by decide +kernel
theorem dX12_lastsFor_25 : decode cX12_lastsFor 25 = .ok (.invokevirtual 80, 3) := by decide +kernel
theorem dX12_lastsFor_28 : decode cX12_lastsFor 28 = .ok (.aload_n 0, 1) := by decide +kernel
theorem dX12_lastsFor_29 : decode cX12_lastsFor 29 = .ok (.getfield 84, 3) := by decide +kernel
theorem dX12_lastsFor_32 : decode cX12_lastsFor 32 = .ok (.iadd, 1) := by decide +kernel
theorem dX12_lastsFor_33 : decode cX12_lastsFor 33 = .ok (.if_icmp .gt 22, 3) := by decide +kernel
theorem dX12_lastsFor_36 : decode cX12_lastsFor 36 = .ok (.bipush 9, 2) := by decide +kernel
theorem dX12_lastsFor_38 : decode cX12_lastsFor 38 = .ok (.iload_n 3, 1) := by decide +kernel
theorem dX12_lastsFor_39 : decode cX12_lastsFor 39 = .ok (.aload_n 0, 1) := by decide +kernel
theorem dX12_lastsFor_40 : decode cX12_lastsFor 40 = .ok (.iload_n 1, 1) := by decide +kernel
theorem dX12_lastsFor_41 : decode cX12_lastsFor 41 = .ok (.invokevirtual 87, 3) := by decide +kernel
theorem dX12_lastsFor_44 : decode cX12_lastsFor 44 = .ok (.iadd, 1) := by decide +kernel
theorem dX12_lastsFor_45 : decode cX12_lastsFor 45 = .ok (.invokestatic 90, 3) := by decide +kernel
theorem dX12_lastsFor_48 : decode cX12_lastsFor 48 = .ok (.istore_n 3, 1) := by decide +kernel
theorem dX12_lastsFor_49 : decode cX12_lastsFor 49 = .ok (.iinc 4 1, 3) := by decide +kernel
theorem dX12_lastsFor_52 : decode cX12_lastsFor 52 = .ok (.goto (-37), 3) := by decide +kernel
theorem dX12_lastsFor_55 : decode cX12_lastsFor 55 = .ok (.iload 4, 2) := by decide +kernel
theorem dX12_lastsFor_57 : decode cX12_lastsFor 57 = .ok (.ireturn, 1) := by decide +kernel
set_option maxRecDepth 20000 in
theorem ggX12_lasts_X12_areTwo : GoodIn wsX12_lasts wsX12_areTwo := goodIn_r _ [6, 7, 8, 9, 5, 10, 11, 12, 13, 14, 34, 35, 36, 37, 38, 39, 40, 41, 42, 43, 44, 45, 46, 47, 48, 49, 50, 51, 52, 53, 54, 55, 56, 57, 58, 59, 60, 61, 62, 63, 64] (by decide +kernel) (by decide +kernel)
set_option maxRecDepth 20000 in
theorem gX12_lasts_X12_areTwo : GoodIn wsX12_lasts (wsV RX12 135 RX12 yX12_areTwo wsX12_areTwo) := goodIn_app (goodIn_of _ (by decide +kernel)) ggX12_lasts_X12_areTwo
set_option maxRecDepth 20000 in
theorem ggX12_lasts_X12_lastsFor : GoodIn wsX12_lasts wsX12_lastsFor := goodIn_r _ [18, 19, 20, 21, 22, 23, 5, 24, 25, 26, 27, 28, 29, 30, 31, 32, 33, 34, 35, 36, 37, 38, 39, 40, 41, 42, 43, 44, 45, 46, 47, 48, 49, 50, 51, 52, 53, 54, 55, 56, 57, 58, 59, 60, 61, 62, 63, 64] (by decide +kernel) (by decide +kernel)
set_option maxRecDepth 20000 in
theorem gX12_lasts_X12_lastsFor : GoodIn wsX12_lasts (wsV RX12 213 RX12 yX12_lastsFor wsX12_lastsFor) := goodIn_app (goodIn_of _ (by decide +kernel)) ggX12_lasts_X12_lastsFor
theorem dX12_lasts_0 : decode cX12_lasts 0 = .ok (.aload_n 0, 1) := by decide +kernel
theorem dX12_lasts_1 : decode cX12_lasts 1 = .ok (.iconst 0, 1) := by decide +kernel
theorem dX12_lasts_2 : decode cX12_lasts 2 = .ok (.putfield 65, 3) := by decide +kernel
theorem dX12_lasts_5 : decode cX12_lasts 5 = .ok (.aload_n 0, 1) := by decide +kernel
theorem dX12_lasts_6 : decode cX12_lasts 6 = .ok (.iload_n 1, 1) := by decide +kernel
theorem dX12_lasts_7 : decode cX12_lasts 7 = .ok (.iload_n 2, 1) := by decide +kernel
theorem dX12_lasts_8 : decode cX12_lasts 8 = .ok (.invokevirtual 135, 3) := by decide +kernel
theorem dX12_lasts_11 : decode cX12_lasts 11 = .ok (.ifCond .eq 12, 3) := by decide +kernel
theorem dX12_lasts_14 : decode cX12_lasts 14 = .ok (.aload_n 0, 1) := by decide +kernel
theorem dX12_lasts_15 : decode cX12_lasts 15 = .ok (.iload_n 1, 1) := by decide +kernel
theorem dX12_lasts_16 : decode cX12_lasts 16 = .ok (.iload_n 2, 1) := by decide +kernel
theorem dX12_lasts_17 : decode cX12_lasts 17 = .ok (.invokevirtual 213, 3) := by decide +kernel
theorem dX12_lasts_20 : decode cX12_lasts 20 = .ok (.goto 4, 3) := by decide +kernel
theorem dX12_lasts_23 : decode cX12_lasts 23 = .ok (.iconst (-1), 1) := by decide +kernel
theorem dX12_lasts_24 : decode cX12_lasts 24 = .ok (.ireturn, 1) := by decide +kernel
set_option maxRecDepth 20000 in
theorem ggX12_soonest_X12_isOne : GoodIn wsX12_soonest wsX12_isOne := goodIn_r _ [8, 3, 9, 10, 7, 11, 39, 40, 41, 42, 43, 44, 45, 46, 47, 48, 49, 50, 51, 52, 53, 54, 55, 56, 57, 58, 59, 60, 61, 62, 63, 64, 65, 66, 67, 68, 69] (by decide +kernel) (by decide +kernel)
set_option maxRecDepth 20000 in
theorem gX12_soonest_X12_isOne : GoodIn wsX12_soonest (wsV RX12 76 RX12 yX12_isOne wsX12_isOne) := goodIn_app (goodIn_of _ (by decide +kernel)) ggX12_soonest_X12_isOne
set_option maxRecDepth 20000 in
theorem ggX12_soonest_X12_in : GoodIn wsX12_soonest wsX12_in := goodIn_r _ [11] (by decide +kernel) (by decide +kernel)
set_option maxRecDepth 20000 in
theorem gX12_soonest_X12_in : GoodIn wsX12_soonest (va_wsS RX12 72 yX12_in wsX12_in) := goodIn_app (goodIn_of _ (by decide +kernel)) ggX12_soonest_X12_in
set_option maxRecDepth 20000 in
theorem ggX12_soonest_X12_mayTurn : GoodIn wsX12_soonest wsX12_mayTurn := goodIn_r _ [15, 16, 17, 18, 19, 20, 7, 21, 22, 39, 40, 41, 42, 43, 44, 45, 46, 47, 48, 49, 50, 51, 52, 53, 54, 55, 56, 57, 58, 59, 60, 61, 62, 63, 64, 65, 66, 67, 68, 69] (by decide +kernel) (by decide +kernel)
set_option maxRecDepth 20000 in
theorem gX12_soonest_X12_mayTurn : GoodIn wsX12_soonest (wsV RX12 101 RX12 yX12_mayTurn wsX12_mayTurn) := goodIn_app (goodIn_of _ (by decide +kernel)) ggX12_soonest_X12_mayTurn
set_option maxRecDepth 20000 in
theorem ggX12_soonest_X12_turnsOf : GoodIn wsX12_soonest wsX12_turnsOf := goodIn_r _ [26, 22, 27, 39, 40, 41, 42, 43, 44, 45, 46, 47, 48, 49, 50, 51, 52, 53, 54, 55, 56, 57, 58, 59, 60, 61, 62, 63, 64, 65, 66, 67, 68, 69] (by decide +kernel) (by decide +kernel)
set_option maxRecDepth 20000 in
theorem gX12_soonest_X12_turnsOf : GoodIn wsX12_soonest (wsV RX12 94 RX12 yX12_turnsOf wsX12_turnsOf) := goodIn_app (goodIn_of _ (by decide +kernel)) ggX12_soonest_X12_turnsOf
set_option maxRecDepth 20000 in
theorem ggX12_soonest_X12_lastsFor : GoodIn wsX12_soonest wsX12_lastsFor := goodIn_r _ [31, 16, 17, 18, 19, 20, 7, 21, 22, 32, 33, 34, 35, 27, 36, 37, 38, 39, 40, 41, 42, 43, 44, 45, 46, 47, 48, 49, 50, 51, 52, 53, 54, 55, 56, 57, 58, 59, 60, 61, 62, 63, 64, 65, 66, 67, 68, 69] (by decide +kernel) (by decide +kernel)
set_option maxRecDepth 20000 in
theorem gX12_soonest_X12_lastsFor : GoodIn wsX12_soonest (wsV RX12 213 RX12 yX12_lastsFor wsX12_lastsFor) := goodIn_app (goodIn_of _ (by decide +kernel)) ggX12_soonest_X12_lastsFor
theorem dX12_soonest_0 : decode cX12_soonest 0 = .ok (.aload_n 0, 1) := by decide +kernel
theorem dX12_soonest_1 : decode cX12_soonest 1 = .ok (.iconst 0, 1) := by decide +kernel
theorem dX12_soonest_2 : decode cX12_soonest 2 = .ok (.putfield 65, 3) := by decide +kernel
theorem dX12_soonest_5 : decode cX12_soonest 5 = .ok (.aload_n 0, 1) := by decide +kernel
theorem dX12_soonest_6 : decode cX12_soonest 6 = .ok (.iload_n 1, 1) := by decide +kernel
theorem dX12_soonest_7 : decode cX12_soonest 7 = .ok (.invokevirtual 76, 3) := by decide +kernel
theorem dX12_soonest_10 : decode cX12_soonest 10 = .ok (.ifCond .eq 13, 3) := by decide +kernel
theorem dX12_soonest_13 : decode cX12_soonest 13 = .ok (.iload_n 2, 1) := by decide +kernel
theorem dX12_soonest_14 : decode cX12_soonest 14 = .ok (.i2l, 1) := by decide +kernel
theorem dX12_soonest_15 : decode cX12_soonest 15 = .ok (.lconst 0, 1) := by decide +kernel
theorem dX12_soonest_16 : decode cX12_soonest 16 = .ok (.lconst 1, 1) := by decide +kernel
theorem dX12_soonest_17 : decode cX12_soonest 17 = .ok (.invokestatic 72, 3) := by decide +kernel
theorem dX12_soonest_20 : decode cX12_soonest 20 = .ok (.ifCond .ne 5, 3) := by decide +kernel
theorem dX12_soonest_23 : decode cX12_soonest 23 = .ok (.iconst (-1), 1) := by decide +kernel
theorem dX12_soonest_24 : decode cX12_soonest 24 = .ok (.ireturn, 1) := by decide +kernel
theorem dX12_soonest_25 : decode cX12_soonest 25 = .ok (.bipush 9, 2) := by decide +kernel
theorem dX12_soonest_27 : decode cX12_soonest 27 = .ok (.aload_n 0, 1) := by decide +kernel
theorem dX12_soonest_28 : decode cX12_soonest 28 = .ok (.getfield 16, 3) := by decide +kernel
theorem dX12_soonest_31 : decode cX12_soonest 31 = .ok (.iload_n 1, 1) := by decide +kernel
theorem dX12_soonest_32 : decode cX12_soonest 32 = .ok (.iaload, 1) := by decide +kernel
theorem dX12_soonest_33 : decode cX12_soonest 33 = .ok (.isub, 1) := by decide +kernel
theorem dX12_soonest_34 : decode cX12_soonest 34 = .ok (.istore_n 3, 1) := by decide +kernel
theorem dX12_soonest_35 : decode cX12_soonest 35 = .ok (.iconst 0, 1) := by decide +kernel
theorem dX12_soonest_36 : decode cX12_soonest 36 = .ok (.istore 4, 2) := by decide +kernel
theorem dX12_soonest_38 : decode cX12_soonest 38 = .ok (.bipush (-4), 2) := by decide +kernel
theorem dX12_soonest_40 : decode cX12_soonest 40 = .ok (.istore 5, 2) := by decide +kernel
theorem dX12_soonest_42 : decode cX12_soonest 42 = .ok (.iload_n 3, 1) := by decide +kernel
theorem dX12_soonest_43 : decode cX12_soonest 43 = .ok (.ifCond .le 7, 3) := by decide +kernel
theorem dX12_soonest_46 : decode cX12_soonest 46 = .ok (.iconst 1, 1) := by decide +kernel
theorem dX12_soonest_47 : decode cX12_soonest 47 = .ok (.goto 4, 3) := by decide +kernel
theorem dX12_soonest_50 : decode cX12_soonest 50 = .ok (.iconst 0, 1) := by decide +kernel
theorem dX12_soonest_51 : decode cX12_soonest 51 = .ok (.istore 6, 2) := by decide +kernel
theorem dX12_soonest_53 : decode cX12_soonest 53 = .ok (.iconst 5, 1) := by decide +kernel
theorem dX12_soonest_54 : decode cX12_soonest 54 = .ok (.istore 7, 2) := by decide +kernel
theorem dX12_soonest_56 : decode cX12_soonest 56 = .ok (.iload 7, 2) := by decide +kernel
theorem dX12_soonest_58 : decode cX12_soonest 58 = .ok (.ifCond .le 99, 3) := by decide +kernel
theorem dX12_soonest_61 : decode cX12_soonest 61 = .ok (.iconst 0, 1) := by decide +kernel
theorem dX12_soonest_62 : decode cX12_soonest 62 = .ok (.istore 8, 2) := by decide +kernel
theorem dX12_soonest_64 : decode cX12_soonest 64 = .ok (.iload 8, 2) := by decide +kernel
theorem dX12_soonest_66 : decode cX12_soonest 66 = .ok (.aload_n 0, 1) := by decide +kernel
theorem dX12_soonest_67 : decode cX12_soonest 67 = .ok (.getfield 69, 3) := by decide +kernel
theorem dX12_soonest_70 : decode cX12_soonest 70 = .ok (.if_icmp .ge 81, 3) := by decide +kernel
theorem dX12_soonest_73 : decode cX12_soonest 73 = .ok (.aload_n 0, 1) := by decide +kernel
theorem dX12_soonest_74 : decode cX12_soonest 74 = .ok (.iload 8, 2) := by decide +kernel
theorem dX12_soonest_76 : decode cX12_soonest 76 = .ok (.iload_n 1, 1) := by decide +kernel
theorem dX12_soonest_77 : decode cX12_soonest 77 = .ok (.invokevirtual 101, 3) := by decide +kernel
theorem dX12_soonest_80 : decode cX12_soonest 80 = .ok (.ifCond .eq 65, 3) := by decide +kernel
theorem dX12_soonest_83 : decode cX12_soonest 83 = .ok (.aload_n 0, 1) := by decide +kernel
theorem dX12_soonest_84 : decode cX12_soonest 84 = .ok (.iload 8, 2) := by decide +kernel
theorem dX12_soonest_86 : decode cX12_soonest 86 = .ok (.invokevirtual 94, 3) := by decide +kernel
theorem dX12_soonest_89 : decode cX12_soonest 89 = .ok (.iload 7, 2) := by decide +kernel
theorem dX12_soonest_91 : decode cX12_soonest 91 = .ok (.if_icmp .ne 54, 3) := by decide +kernel
theorem dX12_soonest_94 : decode cX12_soonest 94 = .ok (.iload 5, 2) := by decide +kernel
theorem dX12_soonest_96 : decode cX12_soonest 96 = .ok (.ifCond .ge 13, 3) := by decide +kernel
theorem dX12_soonest_99 : decode cX12_soonest 99 = .ok (.iload 6, 2) := by decide +kernel
theorem dX12_soonest_101 : decode cX12_soonest 101 = .ok (.ifCond .eq 8, 3) := by decide +kernel
theorem dX12_soonest_104 : decode cX12_soonest 104 = .ok (.iload 8, 2) := by decide +kernel
theorem dX12_soonest_106 : decode cX12_soonest 106 = .ok (.goto 5, 3) := by decide +kernel
theorem dX12_soonest_109 : decode cX12_soonest 109 = .ok (.iload 5, 2) := by decide +kernel
theorem dX12_soonest_111 : decode cX12_soonest 111 = .ok (.istore 5, 2) := by decide +kernel
theorem dX12_soonest_113 : decode cX12_soonest 113 = .ok (.aload_n 0, 1) := by decide +kernel
theorem dX12_soonest_114 : decode cX12_soonest 114 = .ok (.iload 8, 2) := by decide +kernel
theorem dX12_soonest_116 : decode cX12_soonest 116 = .ok (.iload_n 1, 1) := by decide +kernel
theorem dX12_soonest_117 : decode cX12_soonest 117 = .ok (.invokevirtual 213, 3) := by decide +kernel
theorem dX12_soonest_120 : decode cX12_soonest 120 = .ok (.istore 9, 2) := by decide +kernel
theorem dX12_soonest_122 : decode cX12_soonest 122 = .ok (.iload 9, 2) := by decide +kernel
theorem dX12_soonest_124 : decode cX12_soonest 124 = .ok (.ifCond .le 21, 3) := by decide +kernel
theorem dX12_soonest_127 : decode cX12_soonest 127 = .ok (.iload_n 3, 1) := by decide +kernel
theorem dX12_soonest_128 : decode cX12_soonest 128 = .ok (.ifCond .le 17, 3) := by decide +kernel
theorem dX12_soonest_131 : decode cX12_soonest 131 = .ok (.iload_n 3, 1) := by decide +kernel
theorem dX12_soonest_132 : decode cX12_soonest 132 = .ok (.iload 7, 2) := by decide +kernel
theorem dX12_soonest_134 : decode cX12_soonest 134 = .ok (.isub, 1) := by decide +kernel
theorem dX12_soonest_135 : decode cX12_soonest 135 = .ok (.istore_n 3, 1) := by decide +kernel
theorem dX12_soonest_136 : decode cX12_soonest 136 = .ok (.iinc 4 1, 3) := by decide +kernel
theorem dX12_soonest_139 : decode cX12_soonest 139 = .ok (.iinc 9 (-1), 3) := by decide +kernel
theorem dX12_soonest_142 : decode cX12_soonest 142 = .ok (.goto (-20), 3) := by decide +kernel
theorem dX12_soonest_145 : decode cX12_soonest 145 = .ok (.iinc 8 1, 3) := by decide +kernel
theorem dX12_soonest_148 : decode cX12_soonest 148 = .ok (.goto (-84), 3) := by decide +kernel
theorem dX12_soonest_151 : decode cX12_soonest 151 = .ok (.iinc 7 (-1), 3) := by decide +kernel
theorem dX12_soonest_154 : decode cX12_soonest 154 = .ok (.goto (-98), 3) := by decide +kernel
theorem dX12_soonest_157 : decode cX12_soonest 157 = .ok (.iload_n 3, 1) := by decide +kernel
theorem dX12_soonest_158 : decode cX12_soonest 158 = .ok (.ifCond .le 8, 3) := by decide +kernel
theorem dX12_soonest_161 : decode cX12_soonest 161 = .ok (.bipush (-4), 2) := by decide +kernel
theorem dX12_soonest_163 : decode cX12_soonest 163 = .ok (.goto 14, 3) := by decide +kernel
theorem dX12_soonest_166 : decode cX12_soonest 166 = .ok (.iload_n 2, 1) := by decide +kernel
theorem dX12_soonest_167 : decode cX12_soonest 167 = .ok (.ifCond .ne 8, 3) := by decide +kernel
theorem dX12_soonest_170 : decode cX12_soonest 170 = .ok (.iload 4, 2) := by decide +kernel
theorem dX12_soonest_172 : decode cX12_soonest 172 = .ok (.goto 5, 3) := by decide +kernel
theorem dX12_soonest_175 : decode cX12_soonest 175 = .ok (.iload 5, 2) := by decide +kernel
theorem dX12_soonest_177 : decode cX12_soonest 177 = .ok (.ireturn, 1) := by decide +kernel
set_option maxRecDepth 20000 in
theorem ggX12_hide_X12_isOne : GoodIn wsX12_hide wsX12_isOne := goodIn_r _ [7, 2, 8, 9, 6, 10, 34, 35, 36, 37, 38, 39, 40, 41, 42, 43, 44, 45, 46, 47, 48, 49, 50, 51, 52, 53, 54, 55, 56, 57, 58, 59, 60, 61, 62, 63, 64] (by decide +kernel) (by decide +kernel)
set_option maxRecDepth 20000 in
theorem gX12_hide_X12_isOne : GoodIn wsX12_hide (wsV RX12 76 RX12 yX12_isOne wsX12_isOne) := goodIn_app (goodIn_of _ (by decide +kernel)) ggX12_hide_X12_isOne
set_option maxRecDepth 20000 in
theorem ggX12_hide_X12_mayTurn : GoodIn wsX12_hide wsX12_mayTurn := goodIn_r _ [14, 15, 16, 17, 18, 19, 6, 20, 21, 34, 35, 36, 37, 38, 39, 40, 41, 42, 43, 44, 45, 46, 47, 48, 49, 50, 51, 52, 53, 54, 55, 56, 57, 58, 59, 60, 61, 62, 63, 64] (by decide +kernel) (by decide +kernel)
set_option maxRecDepth 20000 in
theorem gX12_hide_X12_mayTurn : GoodIn wsX12_hide (wsV RX12 101 RX12 yX12_mayTurn wsX12_mayTurn) := goodIn_app (goodIn_of _ (by decide +kernel)) ggX12_hide_X12_mayTurn
set_option maxRecDepth 20000 in
theorem ggX12_hide_X12_lastsFor : GoodIn wsX12_hide wsX12_lastsFor := goodIn_r _ [25, 15, 16, 17, 18, 19, 6, 20, 21, 26, 27, 28, 29, 30, 31, 32, 33, 34, 35, 36, 37, 38, 39, 40, 41, 42, 43, 44, 45, 46, 47, 48, 49, 50, 51, 52, 53, 54, 55, 56, 57, 58, 59, 60, 61, 62, 63, 64] (by decide +kernel) (by decide +kernel)
set_option maxRecDepth 20000 in
theorem gX12_hide_X12_lastsFor : GoodIn wsX12_hide (wsV RX12 213 RX12 yX12_lastsFor wsX12_lastsFor) := goodIn_app (goodIn_of _ (by decide +kernel)) ggX12_hide_X12_lastsFor
theorem dX12_hide_0 : decode cX12_hide 0 = .ok (.aload_n 0, 1) := by decide +kernel
theorem dX12_hide_1 : decode cX12_hide 1 = .ok (.iconst 0, 1) := by decide +kernel
theorem dX12_hide_2 : decode cX12_hide 2 = .ok (.putfield 65, 3) := by decide +kernel
theorem dX12_hide_5 : decode cX12_hide 5 = .ok (.aload_n 0, 1) := by decide +kernel
theorem dX12_hide_6 : decode cX12_hide 6 = .ok (.iload_n 1, 1) := by decide +kernel
theorem dX12_hide_7 : decode cX12_hide 7 = .ok (.invokevirtual 76, 3) := by decide +kernel
theorem dX12_hide_10 : decode cX12_hide 10 = .ok (.ifCond .ne 5, 3) := by decide +kernel
theorem dX12_hide_13 : decode cX12_hide 13 = .ok (.iconst (-1), 1) := by decide +kernel
theorem dX12_hide_14 : decode cX12_hide 14 = .ok (.ireturn, 1) := by decide +kernel
theorem dX12_hide_15 : decode cX12_hide 15 = .ok (.iconst 0, 1) := by decide +kernel
theorem dX12_hide_16 : decode cX12_hide 16 = .ok (.istore_n 2, 1) := by decide +kernel
theorem dX12_hide_17 : decode cX12_hide 17 = .ok (.iconst 0, 1) := by decide +kernel
theorem dX12_hide_18 : decode cX12_hide 18 = .ok (.istore_n 3, 1) := by decide +kernel
theorem dX12_hide_19 : decode cX12_hide 19 = .ok (.iload_n 3, 1) := by decide +kernel
theorem dX12_hide_20 : decode cX12_hide 20 = .ok (.aload_n 0, 1) := by decide +kernel
theorem dX12_hide_21 : decode cX12_hide 21 = .ok (.getfield 69, 3) := by decide +kernel
theorem dX12_hide_24 : decode cX12_hide 24 = .ok (.if_icmp .ge 41, 3) := by decide +kernel
theorem dX12_hide_27 : decode cX12_hide 27 = .ok (.aload_n 0, 1) := by decide +kernel
theorem dX12_hide_28 : decode cX12_hide 28 = .ok (.iload_n 3, 1) := by decide +kernel
theorem dX12_hide_29 : decode cX12_hide 29 = .ok (.iload_n 1, 1) := by decide +kernel
theorem dX12_hide_30 : decode cX12_hide 30 = .ok (.invokevirtual 101, 3) := by decide +kernel
theorem dX12_hide_33 : decode cX12_hide 33 = .ok (.ifCond .eq 26, 3) := by decide +kernel
theorem dX12_hide_36 : decode cX12_hide 36 = .ok (.aload_n 0, 1) := by decide +kernel
theorem dX12_hide_37 : decode cX12_hide 37 = .ok (.iload_n 3, 1) := by decide +kernel
theorem dX12_hide_38 : decode cX12_hide 38 = .ok (.iload_n 1, 1) := by decide +kernel
theorem dX12_hide_39 : decode cX12_hide 39 = .ok (.invokevirtual 213, 3) := by decide +kernel
theorem dX12_hide_42 : decode cX12_hide 42 = .ok (.istore 4, 2) := by decide +kernel
theorem dX12_hide_44 : decode cX12_hide 44 = .ok (.iload 4, 2) := by decide +kernel
theorem dX12_hide_46 : decode cX12_hide 46 = .ok (.bipush 99, 2) := by decide +kernel
theorem dX12_hide_48 : decode cX12_hide 48 = .ok (.if_icmp .ne 6, 3) := by decide +kernel
theorem dX12_hide_51 : decode cX12_hide 51 = .ok (.bipush (-4), 2) := by decide +kernel
theorem dX12_hide_53 : decode cX12_hide 53 = .ok (.ireturn, 1) := by decide +kernel
theorem dX12_hide_54 : decode cX12_hide 54 = .ok (.iload_n 2, 1) := by decide +kernel
theorem dX12_hide_55 : decode cX12_hide 55 = .ok (.iload 4, 2) := by decide +kernel
theorem dX12_hide_57 : decode cX12_hide 57 = .ok (.iadd, 1) := by decide +kernel
theorem dX12_hide_58 : decode cX12_hide 58 = .ok (.istore_n 2, 1) := by decide +kernel
theorem dX12_hide_59 : decode cX12_hide 59 = .ok (.iinc 3 1, 3) := by decide +kernel
theorem dX12_hide_62 : decode cX12_hide 62 = .ok (.goto (-43), 3) := by decide +kernel
theorem dX12_hide_65 : decode cX12_hide 65 = .ok (.iload_n 2, 1) := by decide +kernel
theorem dX12_hide_66 : decode cX12_hide 66 = .ok (.ireturn, 1) := by decide +kernel
set_option maxRecDepth 20000 in
theorem ggX12_keeps_X12_areTwo : GoodIn wsX12_keeps wsX12_areTwo := goodIn_r _ [8, 9, 10, 11, 7, 12, 13, 14, 15, 16, 34, 35, 36, 37, 38, 39, 40, 41, 42, 43, 44, 45, 46, 47, 48, 49, 50, 51, 52, 53, 54, 55, 56, 57, 58, 59, 60, 61, 62, 63, 64] (by decide +kernel) (by decide +kernel)
set_option maxRecDepth 20000 in
theorem gX12_keeps_X12_areTwo : GoodIn wsX12_keeps (wsV RX12 135 RX12 yX12_areTwo wsX12_areTwo) := goodIn_app (goodIn_of _ (by decide +kernel)) ggX12_keeps_X12_areTwo
set_option maxRecDepth 20000 in
theorem ggX12_keeps_X12_mayTurn : GoodIn wsX12_keeps wsX12_mayTurn := goodIn_r _ [20, 2, 3, 21, 22, 23, 7, 24, 25, 34, 35, 36, 37, 38, 39, 40, 41, 42, 43, 44, 45, 46, 47, 48, 49, 50, 51, 52, 53, 54, 55, 56, 57, 58, 59, 60, 61, 62, 63, 64] (by decide +kernel) (by decide +kernel)
set_option maxRecDepth 20000 in
theorem gX12_keeps_X12_mayTurn : GoodIn wsX12_keeps (wsV RX12 101 RX12 yX12_mayTurn wsX12_mayTurn) := goodIn_app (goodIn_of _ (by decide +kernel)) ggX12_keeps_X12_mayTurn
set_option maxRecDepth 20000 in
theorem ggX12_keeps_X12_growsOf : GoodIn wsX12_keeps wsX12_growsOf := goodIn_r _ [29, 30, 25, 34, 35, 36, 37, 38, 39, 40, 41, 42, 43, 44, 45, 46, 47, 48, 49, 50, 51, 52, 53, 54, 55, 56, 57, 58, 59, 60, 61, 62, 63, 64] (by decide +kernel) (by decide +kernel)
set_option maxRecDepth 20000 in
theorem gX12_keeps_X12_growsOf : GoodIn wsX12_keeps (wsV RX12 87 RX12 yX12_growsOf wsX12_growsOf) := goodIn_app (goodIn_of _ (by decide +kernel)) ggX12_keeps_X12_growsOf
set_option maxRecDepth 20000 in
theorem ggX12_keeps_X12_lesser : GoodIn wsX12_keeps wsX12_lesser := goodIn_r _ [33] (by decide +kernel) (by decide +kernel)
set_option maxRecDepth 20000 in
theorem gX12_keeps_X12_lesser : GoodIn wsX12_keeps (va_wsS RX12 90 yX12_lesser wsX12_lesser) := goodIn_app (goodIn_of _ (by decide +kernel)) ggX12_keeps_X12_lesser
set_option maxRecDepth 20000 in
theorem ggX12_keeps_X12_bearsOf : GoodIn wsX12_keeps wsX12_bearsOf := goodIn_r _ [24, 25, 34, 35, 36, 37, 38, 39, 40, 41, 42, 43, 44, 45, 46, 47, 48, 49, 50, 51, 52, 53, 54, 55, 56, 57, 58, 59, 60, 61, 62, 63, 64] (by decide +kernel) (by decide +kernel)
set_option maxRecDepth 20000 in
theorem gX12_keeps_X12_bearsOf : GoodIn wsX12_keeps (wsV RX12 80 RX12 yX12_bearsOf wsX12_bearsOf) := goodIn_app (goodIn_of _ (by decide +kernel)) ggX12_keeps_X12_bearsOf
theorem dX12_keeps_0 : decode cX12_keeps 0 = .ok (.aload_n 0, 1) := by decide +kernel
theorem dX12_keeps_1 : decode cX12_keeps 1 = .ok (.iconst 0, 1) := by decide +kernel
theorem dX12_keeps_2 : decode cX12_keeps 2 = .ok (.putfield 65, 3) := by decide +kernel
theorem dX12_keeps_5 : decode cX12_keeps 5 = .ok (.aload_n 0, 1) := by decide +kernel
theorem dX12_keeps_6 : decode cX12_keeps 6 = .ok (.iload_n 1, 1) := by decide +kernel
theorem dX12_keeps_7 : decode cX12_keeps 7 = .ok (.iload_n 2, 1) := by decide +kernel
theorem dX12_keeps_8 : decode cX12_keeps 8 = .ok (.invokevirtual 135, 3) := by decide +kernel
theorem dX12_keeps_11 : decode cX12_keeps 11 = .ok (.ifCond .ne 5, 3) := by decide +kernel
theorem dX12_keeps_14 : decode cX12_keeps 14 = .ok (.iconst (-1), 1) := by decide +kernel
theorem dX12_keeps_15 : decode cX12_keeps 15 = .ok (.ireturn, 1) := by decide +kernel
theorem dX12_keeps_16 : decode cX12_keeps 16 = .ok (.aload_n 0, 1) := by decide +kernel
theorem dX12_keeps_17 : decode cX12_keeps 17 = .ok (.iload_n 1, 1) := by decide +kernel
theorem dX12_keeps_18 : decode cX12_keeps 18 = .ok (.iload_n 2, 1) := by decide +kernel
theorem dX12_keeps_19 : decode cX12_keeps 19 = .ok (.invokevirtual 101, 3) := by decide +kernel
theorem dX12_keeps_22 : decode cX12_keeps 22 = .ok (.ifCond .ne 6, 3) := by decide +kernel
theorem dX12_keeps_25 : decode cX12_keeps 25 = .ok (.bipush (-3), 2) := by decide +kernel
theorem dX12_keeps_27 : decode cX12_keeps 27 = .ok (.ireturn, 1) := by decide +kernel
theorem dX12_keeps_28 : decode cX12_keeps 28 = .ok (.bipush 9, 2) := by decide +kernel
theorem dX12_keeps_30 : decode cX12_keeps 30 = .ok (.aload_n 0, 1) := by decide +kernel
theorem dX12_keeps_31 : decode cX12_keeps 31 = .ok (.getfield 19, 3) := by decide +kernel
theorem dX12_keeps_34 : decode cX12_keeps 34 = .ok (.bipush 7, 2) := by decide +kernel
theorem dX12_keeps_36 : decode cX12_keeps 36 = .ok (.iload_n 1, 1) := by decide +kernel
theorem dX12_keeps_37 : decode cX12_keeps 37 = .ok (.imul, 1) := by decide +kernel
theorem dX12_keeps_38 : decode cX12_keeps 38 = .ok (.iload_n 2, 1) := by decide +kernel
theorem dX12_keeps_39 : decode cX12_keeps 39 = .ok (.iadd, 1) := by decide +kernel
theorem dX12_keeps_40 : decode cX12_keeps 40 = .ok (.iaload, 1) := by decide +kernel
theorem dX12_keeps_41 : decode cX12_keeps 41 = .ok (.aload_n 0, 1) := by decide +kernel
theorem dX12_keeps_42 : decode cX12_keeps 42 = .ok (.iload_n 1, 1) := by decide +kernel
theorem dX12_keeps_43 : decode cX12_keeps 43 = .ok (.invokevirtual 87, 3) := by decide +kernel
theorem dX12_keeps_46 : decode cX12_keeps 46 = .ok (.iadd, 1) := by decide +kernel
theorem dX12_keeps_47 : decode cX12_keeps 47 = .ok (.invokestatic 90, 3) := by decide +kernel
theorem dX12_keeps_50 : decode cX12_keeps 50 = .ok (.istore_n 3, 1) := by decide +kernel
theorem dX12_keeps_51 : decode cX12_keeps 51 = .ok (.iconst 0, 1) := by decide +kernel
theorem dX12_keeps_52 : decode cX12_keeps 52 = .ok (.istore 4, 2) := by decide +kernel
theorem dX12_keeps_54 : decode cX12_keeps 54 = .ok (.iload 4, 2) := by decide +kernel
theorem dX12_keeps_56 : decode cX12_keeps 56 = .ok (.bipush 99, 2) := by decide +kernel
theorem dX12_keeps_58 : decode cX12_keeps 58 = .ok (.if_icmp .ge 36, 3) := by decide +kernel
theorem dX12_keeps_61 : decode cX12_keeps 61 = .ok (.iload_n 3, 1) := by decide +kernel
theorem dX12_keeps_62 : decode cX12_keeps 62 = .ok (.aload_n 0, 1) := by decide +kernel
theorem dX12_keeps_63 : decode cX12_keeps 63 = .ok (.iload_n 1, 1) := by decide +kernel
theorem dX12_keeps_64 : decode cX12_keeps 64 = .ok (.invokevirtual 80, 3) := by decide +kernel
theorem dX12_keeps_67 : decode cX12_keeps 67 = .ok (.aload_n 0, 1) := by decide +kernel
theorem dX12_keeps_68 : decode cX12_keeps 68 = .ok (.getfield 84, 3) := by decide +kernel
theorem dX12_keeps_71 : decode cX12_keeps 71 = .ok (.iadd, 1) := by decide +kernel
theorem dX12_keeps_72 : decode cX12_keeps 72 = .ok (.if_icmp .gt 22, 3) := by decide +kernel
theorem dX12_keeps_75 : decode cX12_keeps 75 = .ok (.bipush 9, 2) := by decide +kernel
theorem dX12_keeps_77 : decode cX12_keeps 77 = .ok (.iload_n 3, 1) := by decide +kernel
theorem dX12_keeps_78 : decode cX12_keeps 78 = .ok (.aload_n 0, 1) := by decide +kernel
theorem dX12_keeps_79 : decode cX12_keeps 79 = .ok (.iload_n 1, 1) := by decide +kernel
theorem dX12_keeps_80 : decode cX12_keeps 80 = .ok (.invokevirtual 87, 3) := by decide +kernel
theorem dX12_keeps_83 : decode cX12_keeps 83 = .ok (.iadd, 1) := by decide +kernel
theorem dX12_keeps_84 : decode cX12_keeps 84 = .ok (.invokestatic 90, 3) := by decide +kernel
theorem dX12_keeps_87 : decode cX12_keeps 87 = .ok (.istore_n 3, 1) := by decide +kernel
theorem dX12_keeps_88 : decode cX12_keeps 88 = .ok (.iinc 4 1, 3) := by decide +kernel
theorem dX12_keeps_91 : decode cX12_keeps 91 = .ok (.goto (-37), 3) := by decide +kernel
theorem dX12_keeps_94 : decode cX12_keeps 94 = .ok (.iload 4, 2) := by decide +kernel
theorem dX12_keeps_96 : decode cX12_keeps 96 = .ok (.ireturn, 1) := by decide +kernel
set_option maxRecDepth 20000 in
theorem ggX12_enough_X12_in : GoodIn wsX12_enough wsX12_in := goodIn_r _ [7] (by decide +kernel) (by decide +kernel)
set_option maxRecDepth 20000 in
theorem gX12_enough_X12_in : GoodIn wsX12_enough (va_wsS RX12 72 yX12_in wsX12_in) := goodIn_app (goodIn_of _ (by decide +kernel)) ggX12_enough_X12_in
set_option maxRecDepth 20000 in
theorem ggX12_enough_X12_layTold : GoodIn wsX12_enough wsX12_layTold := goodIn_r _ [11, 12, 3, 13, 14, 15, 16, 6, 17, 18, 19, 20, 21, 22, 2, 23, 24, 25, 26, 27, 28, 29, 30, 31, 32, 33, 38, 39, 40, 41, 42, 43, 44, 45, 46, 47, 48, 49, 50, 51, 52, 53, 54, 55, 56, 57, 58, 59, 60, 61, 62, 63, 64, 65, 66, 67, 68] (by decide +kernel) (by decide +kernel)
set_option maxRecDepth 20000 in
theorem gX12_enough_X12_layTold : GoodIn wsX12_enough (wsV RX12 207 RX12 yX12_layTold wsX12_layTold) := goodIn_app (goodIn_of _ (by decide +kernel)) ggX12_enough_X12_layTold
set_option maxRecDepth 20000 in
theorem ggX12_enough_X12_nobodyBits : GoodIn wsX12_enough wsX12_nobodyBits := goodIn_r _ [37, 3, 14, 15, 16, 6, 17, 18, 19, 20, 21, 22, 2, 23, 24, 25, 26, 27, 38, 39, 40, 41, 42, 43, 44, 45, 46, 47, 48, 49, 50, 51, 52, 53, 54, 55, 56, 57, 58, 59, 60, 61, 62, 63, 64, 65, 66, 67, 68] (by decide +kernel) (by decide +kernel)
set_option maxRecDepth 20000 in
theorem gX12_enough_X12_nobodyBits : GoodIn wsX12_enough (wsV RX12 210 RX12 yX12_nobodyBits wsX12_nobodyBits) := goodIn_app (goodIn_of _ (by decide +kernel)) ggX12_enough_X12_nobodyBits
theorem dX12_enough_0 : decode cX12_enough 0 = .ok (.aload_n 0, 1) := by decide +kernel
theorem dX12_enough_1 : decode cX12_enough 1 = .ok (.iconst 0, 1) := by decide +kernel
theorem dX12_enough_2 : decode cX12_enough 2 = .ok (.putfield 65, 3) := by decide +kernel
theorem dX12_enough_5 : decode cX12_enough 5 = .ok (.iload_n 1, 1) := by decide +kernel
theorem dX12_enough_6 : decode cX12_enough 6 = .ok (.i2l, 1) := by decide +kernel
theorem dX12_enough_7 : decode cX12_enough 7 = .ok (.lconst 0, 1) := by decide +kernel
theorem dX12_enough_8 : decode cX12_enough 8 = .ok (.lconst 1, 1) := by decide +kernel
theorem dX12_enough_9 : decode cX12_enough 9 = .ok (.invokestatic 72, 3) := by decide +kernel
theorem dX12_enough_12 : decode cX12_enough 12 = .ok (.ifCond .ne 5, 3) := by decide +kernel
theorem dX12_enough_15 : decode cX12_enough 15 = .ok (.iconst (-1), 1) := by decide +kernel
theorem dX12_enough_16 : decode cX12_enough 16 = .ok (.ireturn, 1) := by decide +kernel
theorem dX12_enough_17 : decode cX12_enough 17 = .ok (.aload_n 0, 1) := by decide +kernel
theorem dX12_enough_18 : decode cX12_enough 18 = .ok (.getfield 84, 3) := by decide +kernel
theorem dX12_enough_21 : decode cX12_enough 21 = .ok (.istore_n 2, 1) := by decide +kernel
theorem dX12_enough_22 : decode cX12_enough 22 = .ok (.bipush (-4), 2) := by decide +kernel
theorem dX12_enough_24 : decode cX12_enough 24 = .ok (.istore_n 3, 1) := by decide +kernel
theorem dX12_enough_25 : decode cX12_enough 25 = .ok (.bipush 9, 2) := by decide +kernel
theorem dX12_enough_27 : decode cX12_enough 27 = .ok (.istore 4, 2) := by decide +kernel
theorem dX12_enough_29 : decode cX12_enough 29 = .ok (.iload 4, 2) := by decide +kernel
theorem dX12_enough_31 : decode cX12_enough 31 = .ok (.ifCond .lt 64, 3) := by decide +kernel
theorem dX12_enough_34 : decode cX12_enough 34 = .ok (.aload_n 0, 1) := by decide +kernel
theorem dX12_enough_35 : decode cX12_enough 35 = .ok (.iload 4, 2) := by decide +kernel
theorem dX12_enough_37 : decode cX12_enough 37 = .ok (.putfield 84, 3) := by decide +kernel
theorem dX12_enough_40 : decode cX12_enough 40 = .ok (.iload_n 1, 1) := by decide +kernel
theorem dX12_enough_41 : decode cX12_enough 41 = .ok (.ifCond .ne 22, 3) := by decide +kernel
theorem dX12_enough_44 : decode cX12_enough 44 = .ok (.aload_n 0, 1) := by decide +kernel
theorem dX12_enough_45 : decode cX12_enough 45 = .ok (.invokevirtual 207, 3) := by decide +kernel
theorem dX12_enough_48 : decode cX12_enough 48 = .ok (.aload_n 0, 1) := by decide +kernel
theorem dX12_enough_49 : decode cX12_enough 49 = .ok (.getfield 69, 3) := by decide +kernel
theorem dX12_enough_52 : decode cX12_enough 52 = .ok (.if_icmp .ne 7, 3) := by decide +kernel
theorem dX12_enough_55 : decode cX12_enough 55 = .ok (.iconst 1, 1) := by decide +kernel
theorem dX12_enough_56 : decode cX12_enough 56 = .ok (.goto 19, 3) := by decide +kernel
theorem dX12_enough_59 : decode cX12_enough 59 = .ok (.iconst 0, 1) := by decide +kernel
theorem dX12_enough_60 : decode cX12_enough 60 = .ok (.goto 15, 3) := by decide +kernel
theorem dX12_enough_63 : decode cX12_enough 63 = .ok (.aload_n 0, 1) := by decide +kernel
theorem dX12_enough_64 : decode cX12_enough 64 = .ok (.invokevirtual 210, 3) := by decide +kernel
theorem dX12_enough_67 : decode cX12_enough 67 = .ok (.ifCond .ne 7, 3) := by decide +kernel
theorem dX12_enough_70 : decode cX12_enough 70 = .ok (.iconst 1, 1) := by decide +kernel
theorem dX12_enough_71 : decode cX12_enough 71 = .ok (.goto 4, 3) := by decide +kernel
theorem dX12_enough_74 : decode cX12_enough 74 = .ok (.iconst 0, 1) := by decide +kernel
theorem dX12_enough_75 : decode cX12_enough 75 = .ok (.istore 5, 2) := by decide +kernel
theorem dX12_enough_77 : decode cX12_enough 77 = .ok (.iload 5, 2) := by decide +kernel
theorem dX12_enough_79 : decode cX12_enough 79 = .ok (.ifCond .eq 8, 3) := by decide +kernel
theorem dX12_enough_82 : decode cX12_enough 82 = .ok (.iload 4, 2) := by decide +kernel
theorem dX12_enough_84 : decode cX12_enough 84 = .ok (.goto 4, 3) := by decide +kernel
theorem dX12_enough_87 : decode cX12_enough 87 = .ok (.iload_n 3, 1) := by decide +kernel
theorem dX12_enough_88 : decode cX12_enough 88 = .ok (.istore_n 3, 1) := by decide +kernel
theorem dX12_enough_89 : decode cX12_enough 89 = .ok (.iinc 4 (-1), 3) := by decide +kernel
theorem dX12_enough_92 : decode cX12_enough 92 = .ok (.goto (-63), 3) := by decide +kernel
theorem dX12_enough_95 : decode cX12_enough 95 = .ok (.aload_n 0, 1) := by decide +kernel
theorem dX12_enough_96 : decode cX12_enough 96 = .ok (.iload_n 2, 1) := by decide +kernel
theorem dX12_enough_97 : decode cX12_enough 97 = .ok (.putfield 84, 3) := by decide +kernel
theorem dX12_enough_100 : decode cX12_enough 100 = .ok (.iload_n 3, 1) := by decide +kernel
theorem dX12_enough_101 : decode cX12_enough 101 = .ok (.ireturn, 1) := by decide +kernel
theorem dX12_lovedBy_0 : decode cX12_lovedBy 0 = .ok (.iconst 0, 1) := by decide +kernel
theorem dX12_lovedBy_1 : decode cX12_lovedBy 1 = .ok (.istore_n 2, 1) := by decide +kernel
theorem dX12_lovedBy_2 : decode cX12_lovedBy 2 = .ok (.iconst 0, 1) := by decide +kernel
theorem dX12_lovedBy_3 : decode cX12_lovedBy 3 = .ok (.istore_n 3, 1) := by decide +kernel
theorem dX12_lovedBy_4 : decode cX12_lovedBy 4 = .ok (.iload_n 3, 1) := by decide +kernel
theorem dX12_lovedBy_5 : decode cX12_lovedBy 5 = .ok (.aload_n 0, 1) := by decide +kernel
theorem dX12_lovedBy_6 : decode cX12_lovedBy 6 = .ok (.getfield 69, 3) := by decide +kernel
theorem dX12_lovedBy_9 : decode cX12_lovedBy 9 = .ok (.if_icmp .ge 32, 3) := by decide +kernel
theorem dX12_lovedBy_12 : decode cX12_lovedBy 12 = .ok (.iload_n 2, 1) := by decide +kernel
theorem dX12_lovedBy_13 : decode cX12_lovedBy 13 = .ok (.iload_n 3, 1) := by decide +kernel
theorem dX12_lovedBy_14 : decode cX12_lovedBy 14 = .ok (.iload_n 1, 1) := by decide +kernel
theorem dX12_lovedBy_15 : decode cX12_lovedBy 15 = .ok (.if_icmp .ne 7, 3) := by decide +kernel
theorem dX12_lovedBy_18 : decode cX12_lovedBy 18 = .ok (.iconst 0, 1) := by decide +kernel
theorem dX12_lovedBy_19 : decode cX12_lovedBy 19 = .ok (.goto 14, 3) := by decide +kernel
theorem dX12_lovedBy_22 : decode cX12_lovedBy 22 = .ok (.aload_n 0, 1) := by decide +kernel
theorem dX12_lovedBy_23 : decode cX12_lovedBy 23 = .ok (.getfield 19, 3) := by decide +kernel
theorem dX12_lovedBy_26 : decode cX12_lovedBy 26 = .ok (.bipush 7, 2) := by decide +kernel
theorem dX12_lovedBy_28 : decode cX12_lovedBy 28 = .ok (.iload_n 3, 1) := by decide +kernel
theorem dX12_lovedBy_29 : decode cX12_lovedBy 29 = .ok (.imul, 1) := by decide +kernel
theorem dX12_lovedBy_30 : decode cX12_lovedBy 30 = .ok (.iload_n 1, 1) := by decide +kernel
theorem dX12_lovedBy_31 : decode cX12_lovedBy 31 = .ok (.iadd, 1) := by decide +kernel
theorem dX12_lovedBy_32 : decode cX12_lovedBy 32 = .ok (.iaload, 1) := by decide +kernel
theorem dX12_lovedBy_33 : decode cX12_lovedBy 33 = .ok (.iadd, 1) := by decide +kernel
theorem dX12_lovedBy_34 : decode cX12_lovedBy 34 = .ok (.istore_n 2, 1) := by decide +kernel
theorem dX12_lovedBy_35 : decode cX12_lovedBy 35 = .ok (.iinc 3 1, 3) := by decide +kernel
theorem dX12_lovedBy_38 : decode cX12_lovedBy 38 = .ok (.goto (-34), 3) := by decide +kernel
theorem dX12_lovedBy_41 : decode cX12_lovedBy 41 = .ok (.iload_n 2, 1) := by decide +kernel
theorem dX12_lovedBy_42 : decode cX12_lovedBy 42 = .ok (.ireturn, 1) := by decide +kernel
set_option maxRecDepth 20000 in
theorem ggX12_loved_X12_in : GoodIn wsX12_loved wsX12_in := goodIn_r _ [6] (by decide +kernel) (by decide +kernel)
set_option maxRecDepth 20000 in
theorem gX12_loved_X12_in : GoodIn wsX12_loved (va_wsS RX12 72 yX12_in wsX12_in) := goodIn_app (goodIn_of _ (by decide +kernel)) ggX12_loved_X12_in
set_option maxRecDepth 20000 in
theorem ggX12_loved_X12_lovedBy : GoodIn wsX12_loved wsX12_lovedBy := goodIn_r _ [10, 2, 11, 12, 13, 14, 15, 16, 17, 18, 19, 20, 21, 22, 23, 24, 25, 26, 27, 28, 29, 30, 31, 32, 33, 34, 35, 36, 37, 38, 39, 40, 41, 42] (by decide +kernel) (by decide +kernel)
set_option maxRecDepth 20000 in
theorem gX12_loved_X12_lovedBy : GoodIn wsX12_loved (wsV RX12 216 RX12 yX12_lovedBy wsX12_lovedBy) := goodIn_app (goodIn_of _ (by decide +kernel)) ggX12_loved_X12_lovedBy
theorem dX12_loved_0 : decode cX12_loved 0 = .ok (.aload_n 0, 1) := by decide +kernel
theorem dX12_loved_1 : decode cX12_loved 1 = .ok (.iconst 0, 1) := by decide +kernel
theorem dX12_loved_2 : decode cX12_loved 2 = .ok (.putfield 65, 3) := by decide +kernel
theorem dX12_loved_5 : decode cX12_loved 5 = .ok (.iload_n 1, 1) := by decide +kernel
theorem dX12_loved_6 : decode cX12_loved 6 = .ok (.i2l, 1) := by decide +kernel
theorem dX12_loved_7 : decode cX12_loved 7 = .ok (.lconst 0, 1) := by decide +kernel
theorem dX12_loved_8 : decode cX12_loved 8 = .ok (.lconst 1, 1) := by decide +kernel
theorem dX12_loved_9 : decode cX12_loved 9 = .ok (.invokestatic 72, 3) := by decide +kernel
theorem dX12_loved_12 : decode cX12_loved 12 = .ok (.ifCond .ne 5, 3) := by decide +kernel
theorem dX12_loved_15 : decode cX12_loved 15 = .ok (.iconst (-1), 1) := by decide +kernel
theorem dX12_loved_16 : decode cX12_loved 16 = .ok (.ireturn, 1) := by decide +kernel
theorem dX12_loved_17 : decode cX12_loved 17 = .ok (.bipush (-4), 2) := by decide +kernel
theorem dX12_loved_19 : decode cX12_loved 19 = .ok (.istore_n 2, 1) := by decide +kernel
theorem dX12_loved_20 : decode cX12_loved 20 = .ok (.iconst 0, 1) := by decide +kernel
theorem dX12_loved_21 : decode cX12_loved 21 = .ok (.istore_n 3, 1) := by decide +kernel
theorem dX12_loved_22 : decode cX12_loved 22 = .ok (.iload_n 3, 1) := by decide +kernel
theorem dX12_loved_23 : decode cX12_loved 23 = .ok (.aload_n 0, 1) := by decide +kernel
theorem dX12_loved_24 : decode cX12_loved 24 = .ok (.getfield 69, 3) := by decide +kernel
theorem dX12_loved_27 : decode cX12_loved 27 = .ok (.if_icmp .ge 32, 3) := by decide +kernel
theorem dX12_loved_30 : decode cX12_loved 30 = .ok (.iload_n 2, 1) := by decide +kernel
theorem dX12_loved_31 : decode cX12_loved 31 = .ok (.ifCond .lt 16, 3) := by decide +kernel
theorem dX12_loved_34 : decode cX12_loved 34 = .ok (.aload_n 0, 1) := by decide +kernel
theorem dX12_loved_35 : decode cX12_loved 35 = .ok (.iload_n 3, 1) := by decide +kernel
theorem dX12_loved_36 : decode cX12_loved 36 = .ok (.invokevirtual 216, 3) := by decide +kernel
theorem dX12_loved_39 : decode cX12_loved 39 = .ok (.aload_n 0, 1) := by decide +kernel
theorem dX12_loved_40 : decode cX12_loved 40 = .ok (.iload_n 2, 1) := by decide +kernel
theorem dX12_loved_41 : decode cX12_loved 41 = .ok (.invokevirtual 216, 3) := by decide +kernel
theorem dX12_loved_44 : decode cX12_loved 44 = .ok (.if_icmp .le 7, 3) := by decide +kernel
theorem dX12_loved_47 : decode cX12_loved 47 = .ok (.iload_n 3, 1) := by decide +kernel
theorem dX12_loved_48 : decode cX12_loved 48 = .ok (.goto 4, 3) := by decide +kernel
theorem dX12_loved_51 : decode cX12_loved 51 = .ok (.iload_n 2, 1) := by decide +kernel
theorem dX12_loved_52 : decode cX12_loved 52 = .ok (.istore_n 2, 1) := by decide +kernel
theorem dX12_loved_53 : decode cX12_loved 53 = .ok (.iinc 3 1, 3) := by decide +kernel
theorem dX12_loved_56 : decode cX12_loved 56 = .ok (.goto (-34), 3) := by decide +kernel
theorem dX12_loved_59 : decode cX12_loved 59 = .ok (.iload_n 2, 1) := by decide +kernel
theorem dX12_loved_60 : decode cX12_loved 60 = .ok (.ifCond .lt 7, 3) := by decide +kernel
theorem dX12_loved_63 : decode cX12_loved 63 = .ok (.iload_n 1, 1) := by decide +kernel
theorem dX12_loved_64 : decode cX12_loved 64 = .ok (.ifCond .ne 7, 3) := by decide +kernel
theorem dX12_loved_67 : decode cX12_loved 67 = .ok (.iload_n 2, 1) := by decide +kernel
theorem dX12_loved_68 : decode cX12_loved 68 = .ok (.goto 8, 3) := by decide +kernel
theorem dX12_loved_71 : decode cX12_loved 71 = .ok (.aload_n 0, 1) := by decide +kernel
theorem dX12_loved_72 : decode cX12_loved 72 = .ok (.iload_n 2, 1) := by decide +kernel
theorem dX12_loved_73 : decode cX12_loved 73 = .ok (.invokevirtual 216, 3) := by decide +kernel
theorem dX12_loved_76 : decode cX12_loved 76 = .ok (.ireturn, 1) := by decide +kernel
theorem dX12_warmest_0 : decode cX12_warmest 0 = .ok (.aload_n 0, 1) := by decide +kernel
theorem dX12_warmest_1 : decode cX12_warmest 1 = .ok (.iconst 0, 1) := by decide +kernel
theorem dX12_warmest_2 : decode cX12_warmest 2 = .ok (.putfield 65, 3) := by decide +kernel
theorem dX12_warmest_5 : decode cX12_warmest 5 = .ok (.bipush (-4), 2) := by decide +kernel
theorem dX12_warmest_7 : decode cX12_warmest 7 = .ok (.istore_n 1, 1) := by decide +kernel
theorem dX12_warmest_8 : decode cX12_warmest 8 = .ok (.iconst (-1), 1) := by decide +kernel
theorem dX12_warmest_9 : decode cX12_warmest 9 = .ok (.istore_n 2, 1) := by decide +kernel
theorem dX12_warmest_10 : decode cX12_warmest 10 = .ok (.iconst 0, 1) := by decide +kernel
theorem dX12_warmest_11 : decode cX12_warmest 11 = .ok (.istore_n 3, 1) := by decide +kernel
theorem dX12_warmest_12 : decode cX12_warmest 12 = .ok (.iload_n 3, 1) := by decide +kernel
theorem dX12_warmest_13 : decode cX12_warmest 13 = .ok (.aload_n 0, 1) := by decide +kernel
theorem dX12_warmest_14 : decode cX12_warmest 14 = .ok (.getfield 69, 3) := by decide +kernel
theorem dX12_warmest_17 : decode cX12_warmest 17 = .ok (.if_icmp .ge 95, 3) := by decide +kernel
theorem dX12_warmest_20 : decode cX12_warmest 20 = .ok (.iconst 0, 1) := by decide +kernel
theorem dX12_warmest_21 : decode cX12_warmest 21 = .ok (.istore 4, 2) := by decide +kernel
theorem dX12_warmest_23 : decode cX12_warmest 23 = .ok (.iload 4, 2) := by decide +kernel
theorem dX12_warmest_25 : decode cX12_warmest 25 = .ok (.aload_n 0, 1) := by decide +kernel
theorem dX12_warmest_26 : decode cX12_warmest 26 = .ok (.getfield 69, 3) := by decide +kernel
theorem dX12_warmest_29 : decode cX12_warmest 29 = .ok (.if_icmp .ge 77, 3) := by decide +kernel
theorem dX12_warmest_32 : decode cX12_warmest 32 = .ok (.iload_n 3, 1) := by decide +kernel
theorem dX12_warmest_33 : decode cX12_warmest 33 = .ok (.iload 4, 2) := by decide +kernel
theorem dX12_warmest_35 : decode cX12_warmest 35 = .ok (.if_icmp .eq 23, 3) := by decide +kernel
theorem dX12_warmest_38 : decode cX12_warmest 38 = .ok (.aload_n 0, 1) := by decide +kernel
theorem dX12_warmest_39 : decode cX12_warmest 39 = .ok (.getfield 19, 3) := by decide +kernel
theorem dX12_warmest_42 : decode cX12_warmest 42 = .ok (.bipush 7, 2) := by decide +kernel
theorem dX12_warmest_44 : decode cX12_warmest 44 = .ok (.iload_n 3, 1) := by decide +kernel
theorem dX12_warmest_45 : decode cX12_warmest 45 = .ok (.imul, 1) := by decide +kernel
theorem dX12_warmest_46 : decode cX12_warmest 46 = .ok (.iload 4, 2) := by decide +kernel
theorem dX12_warmest_48 : decode cX12_warmest 48 = .ok (.iadd, 1) := by decide +kernel
theorem dX12_warmest_49 : decode cX12_warmest 49 = .ok (.iaload, 1) := by decide +kernel
theorem dX12_warmest_50 : decode cX12_warmest 50 = .ok (.iload_n 2, 1) := by decide +kernel
theorem dX12_warmest_51 : decode cX12_warmest 51 = .ok (.if_icmp .le 7, 3) := by decide +kernel
theorem dX12_warmest_54 : decode cX12_warmest 54 = .ok (.iconst 1, 1) := by decide +kernel
theorem dX12_warmest_55 : decode cX12_warmest 55 = .ok (.goto 4, 3) := by decide +kernel
theorem dX12_warmest_58 : decode cX12_warmest 58 = .ok (.iconst 0, 1) := by decide +kernel
theorem dX12_warmest_59 : decode cX12_warmest 59 = .ok (.istore 5, 2) := by decide +kernel
theorem dX12_warmest_61 : decode cX12_warmest 61 = .ok (.iload 5, 2) := by decide +kernel
theorem dX12_warmest_63 : decode cX12_warmest 63 = .ok (.ifCond .eq 13, 3) := by decide +kernel
theorem dX12_warmest_66 : decode cX12_warmest 66 = .ok (.bipush 10, 2) := by decide +kernel
theorem dX12_warmest_68 : decode cX12_warmest 68 = .ok (.iload_n 3, 1) := by decide +kernel
theorem dX12_warmest_69 : decode cX12_warmest 69 = .ok (.imul, 1) := by decide +kernel
theorem dX12_warmest_70 : decode cX12_warmest 70 = .ok (.iload 4, 2) := by decide +kernel
theorem dX12_warmest_72 : decode cX12_warmest 72 = .ok (.iadd, 1) := by decide +kernel
theorem dX12_warmest_73 : decode cX12_warmest 73 = .ok (.goto 4, 3) := by decide +kernel
theorem dX12_warmest_76 : decode cX12_warmest 76 = .ok (.iload_n 1, 1) := by decide +kernel
theorem dX12_warmest_77 : decode cX12_warmest 77 = .ok (.istore_n 1, 1) := by decide +kernel
theorem dX12_warmest_78 : decode cX12_warmest 78 = .ok (.iload 5, 2) := by decide +kernel
theorem dX12_warmest_80 : decode cX12_warmest 80 = .ok (.ifCond .eq 18, 3) := by decide +kernel
theorem dX12_warmest_83 : decode cX12_warmest 83 = .ok (.aload_n 0, 1) := by decide +kernel
theorem dX12_warmest_84 : decode cX12_warmest 84 = .ok (.getfield 19, 3) := by decide +kernel
theorem dX12_warmest_87 : decode cX12_warmest 87 = .ok (.bipush 7, 2) := by decide +kernel
theorem dX12_warmest_89 : decode cX12_warmest 89 = .ok (.iload_n 3, 1) := by decide +kernel
theorem dX12_warmest_90 : decode cX12_warmest 90 = .ok (.imul, 1) := by decide +kernel
theorem dX12_warmest_91 : decode cX12_warmest 91 = .ok (.iload 4, 2) := by decide +kernel
theorem dX12_warmest_93 : decode cX12_warmest 93 = .ok (.iadd, 1) := by decide +kernel
theorem dX12_warmest_94 : decode cX12_warmest 94 = .ok (.iaload, 1) := by decide +kernel
theorem dX12_warmest_95 : decode cX12_warmest 95 = .ok (.goto 4, 3) := by decide +kernel
theorem dX12_warmest_98 : decode cX12_warmest 98 = .ok (.iload_n 2, 1) := by decide +kernel
theorem dX12_warmest_99 : decode cX12_warmest 99 = .ok (.istore_n 2, 1) := by decide +kernel
theorem dX12_warmest_100 : decode cX12_warmest 100 = .ok (.iinc 4 1, 3) := by decide +kernel
theorem dX12_warmest_103 : decode cX12_warmest 103 = .ok (.goto (-80), 3) := by decide +kernel
theorem dX12_warmest_106 : decode cX12_warmest 106 = .ok (.iinc 3 1, 3) := by decide +kernel
theorem dX12_warmest_109 : decode cX12_warmest 109 = .ok (.goto (-97), 3) := by decide +kernel
theorem dX12_warmest_112 : decode cX12_warmest 112 = .ok (.iload_n 1, 1) := by decide +kernel
theorem dX12_warmest_113 : decode cX12_warmest 113 = .ok (.ireturn, 1) := by decide +kernel
set_option maxRecDepth 20000 in
theorem ggX12_orders_X12_isOne : GoodIn wsX12_orders wsX12_isOne := goodIn_r _ [8, 9, 10, 11, 7, 12, 13, 14, 15, 16, 17, 18, 19, 20, 21, 22, 23, 24, 25, 26, 27, 28, 29, 30, 31, 32, 33, 34, 35, 36, 37, 38, 39, 40, 41, 42, 43] (by decide +kernel) (by decide +kernel)
set_option maxRecDepth 20000 in
theorem gX12_orders_X12_isOne : GoodIn wsX12_orders (wsV RX12 76 RX12 yX12_isOne wsX12_isOne) := goodIn_app (goodIn_of _ (by decide +kernel)) ggX12_orders_X12_isOne
theorem dX12_orders_0 : decode cX12_orders 0 = .ok (.aload_n 0, 1) := by decide +kernel
theorem dX12_orders_1 : decode cX12_orders 1 = .ok (.iconst 0, 1) := by decide +kernel
theorem dX12_orders_2 : decode cX12_orders 2 = .ok (.putfield 65, 3) := by decide +kernel
theorem dX12_orders_5 : decode cX12_orders 5 = .ok (.aload_n 0, 1) := by decide +kernel
theorem dX12_orders_6 : decode cX12_orders 6 = .ok (.iload_n 1, 1) := by decide +kernel
theorem dX12_orders_7 : decode cX12_orders 7 = .ok (.invokevirtual 76, 3) := by decide +kernel
theorem dX12_orders_10 : decode cX12_orders 10 = .ok (.ifCond .ne 7, 3) := by decide +kernel
theorem dX12_orders_13 : decode cX12_orders 13 = .ok (.ldc2_w 219, 3) := by decide +kernel
theorem dX12_orders_16 : decode cX12_orders 16 = .ok (.lreturn, 1) := by decide +kernel
theorem dX12_orders_17 : decode cX12_orders 17 = .ok (.lconst 1, 1) := by decide +kernel
theorem dX12_orders_18 : decode cX12_orders 18 = .ok (.lstore_n 2, 1) := by decide +kernel
theorem dX12_orders_19 : decode cX12_orders 19 = .ok (.iconst 2, 1) := by decide +kernel
theorem dX12_orders_20 : decode cX12_orders 20 = .ok (.istore 4, 2) := by decide +kernel
theorem dX12_orders_22 : decode cX12_orders 22 = .ok (.iload 4, 2) := by decide +kernel
theorem dX12_orders_24 : decode cX12_orders 24 = .ok (.bipush 9, 2) := by decide +kernel
theorem dX12_orders_26 : decode cX12_orders 26 = .ok (.aload_n 0, 1) := by decide +kernel
theorem dX12_orders_27 : decode cX12_orders 27 = .ok (.getfield 16, 3) := by decide +kernel
theorem dX12_orders_30 : decode cX12_orders 30 = .ok (.iload_n 1, 1) := by decide +kernel
theorem dX12_orders_31 : decode cX12_orders 31 = .ok (.iaload, 1) := by decide +kernel
theorem dX12_orders_32 : decode cX12_orders 32 = .ok (.isub, 1) := by decide +kernel
theorem dX12_orders_33 : decode cX12_orders 33 = .ok (.if_icmp .gt 15, 3) := by decide +kernel
theorem dX12_orders_36 : decode cX12_orders 36 = .ok (.lload_n 2, 1) := by decide +kernel
theorem dX12_orders_37 : decode cX12_orders 37 = .ok (.iload 4, 2) := by decide +kernel
theorem dX12_orders_39 : decode cX12_orders 39 = .ok (.i2l, 1) := by decide +kernel
theorem dX12_orders_40 : decode cX12_orders 40 = .ok (.lmul, 1) := by decide +kernel
theorem dX12_orders_41 : decode cX12_orders 41 = .ok (.lstore_n 2, 1) := by decide +kernel
theorem dX12_orders_42 : decode cX12_orders 42 = .ok (.iinc 4 1, 3) := by decide +kernel
theorem dX12_orders_45 : decode cX12_orders 45 = .ok (.goto (-23), 3) := by decide +kernel
theorem dX12_orders_48 : decode cX12_orders 48 = .ok (.lload_n 2, 1) := by decide +kernel
theorem dX12_orders_49 : decode cX12_orders 49 = .ok (.lreturn, 1) := by decide +kernel
theorem dX12_divisor_0 : decode cX12_divisor 0 = .ok (.lload_n 0, 1) := by decide +kernel
theorem dX12_divisor_1 : decode cX12_divisor 1 = .ok (.lstore 4, 2) := by decide +kernel
theorem dX12_divisor_3 : decode cX12_divisor 3 = .ok (.lload_n 2, 1) := by decide +kernel
theorem dX12_divisor_4 : decode cX12_divisor 4 = .ok (.lstore 6, 2) := by decide +kernel
theorem dX12_divisor_6 : decode cX12_divisor 6 = .ok (.lload 6, 2) := by decide +kernel
theorem dX12_divisor_8 : decode cX12_divisor 8 = .ok (.lconst 0, 1) := by decide +kernel
theorem dX12_divisor_9 : decode cX12_divisor 9 = .ok (.lcmp, 1) := by decide +kernel
theorem dX12_divisor_10 : decode cX12_divisor 10 = .ok (.ifCond .eq 21, 3) := by decide +kernel
theorem dX12_divisor_13 : decode cX12_divisor 13 = .ok (.lload 4, 2) := by decide +kernel
theorem dX12_divisor_15 : decode cX12_divisor 15 = .ok (.lload 6, 2) := by decide +kernel
theorem dX12_divisor_17 : decode cX12_divisor 17 = .ok (.lrem, 1) := by decide +kernel
theorem dX12_divisor_18 : decode cX12_divisor 18 = .ok (.lstore 8, 2) := by decide +kernel
theorem dX12_divisor_20 : decode cX12_divisor 20 = .ok (.lload 6, 2) := by decide +kernel
theorem dX12_divisor_22 : decode cX12_divisor 22 = .ok (.lstore 4, 2) := by decide +kernel
theorem dX12_divisor_24 : decode cX12_divisor 24 = .ok (.lload 8, 2) := by decide +kernel
theorem dX12_divisor_26 : decode cX12_divisor 26 = .ok (.lstore 6, 2) := by decide +kernel
theorem dX12_divisor_28 : decode cX12_divisor 28 = .ok (.goto (-22), 3) := by decide +kernel
theorem dX12_divisor_31 : decode cX12_divisor 31 = .ok (.lload 4, 2) := by decide +kernel
theorem dX12_divisor_33 : decode cX12_divisor 33 = .ok (.lreturn, 1) := by decide +kernel
set_option maxRecDepth 20000 in
theorem ggX12_partOf_X12_divisor : GoodIn wsX12_partOf wsX12_divisor := goodIn_r _ [4] (by decide +kernel) (by decide +kernel)
set_option maxRecDepth 20000 in
theorem gX12_partOf_X12_divisor : GoodIn wsX12_partOf (va_wsS RX12 221 yX12_divisor wsX12_divisor) := goodIn_app (goodIn_of _ (by decide +kernel)) ggX12_partOf_X12_divisor
theorem dX12_partOf_0 : decode cX12_partOf 0 = .ok (.lload_n 0, 1) := by decide +kernel
theorem dX12_partOf_1 : decode cX12_partOf 1 = .ok (.lconst 0, 1) := by decide +kernel
theorem dX12_partOf_2 : decode cX12_partOf 2 = .ok (.lcmp, 1) := by decide +kernel
theorem dX12_partOf_3 : decode cX12_partOf 3 = .ok (.ifCond .ne 7, 3) := by decide +kernel
theorem dX12_partOf_6 : decode cX12_partOf 6 = .ok (.iload 4, 2) := by decide +kernel
theorem dX12_partOf_8 : decode cX12_partOf 8 = .ok (.i2l, 1) := by decide +kernel
theorem dX12_partOf_9 : decode cX12_partOf 9 = .ok (.lreturn, 1) := by decide +kernel
theorem dX12_partOf_10 : decode cX12_partOf 10 = .ok (.lload_n 0, 1) := by decide +kernel
theorem dX12_partOf_11 : decode cX12_partOf 11 = .ok (.lload_n 2, 1) := by decide +kernel
theorem dX12_partOf_12 : decode cX12_partOf 12 = .ok (.invokestatic 221, 3) := by decide +kernel
theorem dX12_partOf_15 : decode cX12_partOf 15 = .ok (.lstore 5, 2) := by decide +kernel
theorem dX12_partOf_17 : decode cX12_partOf 17 = .ok (.iload 4, 2) := by decide +kernel
theorem dX12_partOf_19 : decode cX12_partOf 19 = .ok (.ifCond .ne 10, 3) := by decide +kernel
theorem dX12_partOf_22 : decode cX12_partOf 22 = .ok (.lload_n 0, 1) := by decide +kernel
theorem dX12_partOf_23 : decode cX12_partOf 23 = .ok (.lload 5, 2) := by decide +kernel
theorem dX12_partOf_25 : decode cX12_partOf 25 = .ok (.ldiv, 1) := by decide +kernel
theorem dX12_partOf_26 : decode cX12_partOf 26 = .ok (.goto 7, 3) := by decide +kernel
theorem dX12_partOf_29 : decode cX12_partOf 29 = .ok (.lload_n 2, 1) := by decide +kernel
theorem dX12_partOf_30 : decode cX12_partOf 30 = .ok (.lload 5, 2) := by decide +kernel
theorem dX12_partOf_32 : decode cX12_partOf 32 = .ok (.ldiv, 1) := by decide +kernel
theorem dX12_partOf_33 : decode cX12_partOf 33 = .ok (.lreturn, 1) := by decide +kernel
set_option maxRecDepth 20000 in
theorem ggX12_drawn_X12_areTwo : GoodIn wsX12_drawn wsX12_areTwo := goodIn_r _ [8, 9, 10, 11, 7, 12, 13, 14, 15, 16, 32, 33, 34, 35, 36, 37, 38, 39, 40, 41, 42, 43, 44, 45, 46, 47, 48, 49, 50, 51, 52, 53, 54, 55, 56, 57, 58, 59, 60, 61, 62] (by decide +kernel) (by decide +kernel)
set_option maxRecDepth 20000 in
theorem gX12_drawn_X12_areTwo : GoodIn wsX12_drawn (wsV RX12 135 RX12 yX12_areTwo wsX12_areTwo) := goodIn_app (goodIn_of _ (by decide +kernel)) ggX12_drawn_X12_areTwo
set_option maxRecDepth 20000 in
theorem ggX12_drawn_X12_in : GoodIn wsX12_drawn wsX12_in := goodIn_r _ [16] (by decide +kernel) (by decide +kernel)
set_option maxRecDepth 20000 in
theorem gX12_drawn_X12_in : GoodIn wsX12_drawn (va_wsS RX12 72 yX12_in wsX12_in) := goodIn_app (goodIn_of _ (by decide +kernel)) ggX12_drawn_X12_in
set_option maxRecDepth 20000 in
theorem ggX12_drawn_X12_turnsOf : GoodIn wsX12_drawn wsX12_turnsOf := goodIn_r _ [20, 21, 22, 32, 33, 34, 35, 36, 37, 38, 39, 40, 41, 42, 43, 44, 45, 46, 47, 48, 49, 50, 51, 52, 53, 54, 55, 56, 57, 58, 59, 60, 61, 62] (by decide +kernel) (by decide +kernel)
set_option maxRecDepth 20000 in
theorem gX12_drawn_X12_turnsOf : GoodIn wsX12_drawn (wsV RX12 94 RX12 yX12_turnsOf wsX12_turnsOf) := goodIn_app (goodIn_of _ (by decide +kernel)) ggX12_drawn_X12_turnsOf
set_option maxRecDepth 20000 in
theorem ggX12_drawn_X12_lesser : GoodIn wsX12_drawn wsX12_lesser := goodIn_r _ [25] (by decide +kernel) (by decide +kernel)
set_option maxRecDepth 20000 in
theorem gX12_drawn_X12_lesser : GoodIn wsX12_drawn (va_wsS RX12 90 yX12_lesser wsX12_lesser) := goodIn_app (goodIn_of _ (by decide +kernel)) ggX12_drawn_X12_lesser
set_option maxRecDepth 20000 in
theorem ggX12_drawn_X12_partOf : GoodIn wsX12_drawn wsX12_partOf := goodIn_r _ [28, 29, 30, 7, 31] (by decide +kernel) (by decide +kernel)
set_option maxRecDepth 20000 in
theorem gX12_drawn_X12_partOf : GoodIn wsX12_drawn (va_wsS RX12 225 yX12_partOf wsX12_partOf) := goodIn_app (goodIn_of _ (by decide +kernel)) ggX12_drawn_X12_partOf
theorem dX12_drawn_0 : decode cX12_drawn 0 = .ok (.aload_n 0, 1) := by decide +kernel
theorem dX12_drawn_1 : decode cX12_drawn 1 = .ok (.iconst 0, 1) := by decide +kernel
theorem dX12_drawn_2 : decode cX12_drawn 2 = .ok (.putfield 65, 3) := by decide +kernel
theorem dX12_drawn_5 : decode cX12_drawn 5 = .ok (.aload_n 0, 1) := by decide +kernel
theorem dX12_drawn_6 : decode cX12_drawn 6 = .ok (.iload_n 1, 1) := by decide +kernel
theorem dX12_drawn_7 : decode cX12_drawn 7 = .ok (.iload_n 2, 1) := by decide +kernel
theorem dX12_drawn_8 : decode cX12_drawn 8 = .ok (.invokevirtual 135, 3) := by decide +kernel
theorem dX12_drawn_11 : decode cX12_drawn 11 = .ok (.ifCond .eq 13, 3) := by decide +kernel
theorem dX12_drawn_14 : decode cX12_drawn 14 = .ok (.iload_n 3, 1) := by decide +kernel
theorem dX12_drawn_15 : decode cX12_drawn 15 = .ok (.i2l, 1) := by decide +kernel
theorem dX12_drawn_16 : decode cX12_drawn 16 = .ok (.lconst 0, 1) := by decide +kernel
theorem dX12_drawn_17 : decode cX12_drawn 17 = .ok (.lconst 1, 1) := by decide +kernel
theorem dX12_drawn_18 : decode cX12_drawn 18 = .ok (.invokestatic 72, 3) := by decide +kernel
theorem dX12_drawn_21 : decode cX12_drawn 21 = .ok (.ifCond .ne 7, 3) := by decide +kernel
theorem dX12_drawn_24 : decode cX12_drawn 24 = .ok (.ldc2_w 219, 3) := by decide +kernel
theorem dX12_drawn_27 : decode cX12_drawn 27 = .ok (.lreturn, 1) := by decide +kernel
theorem dX12_drawn_28 : decode cX12_drawn 28 = .ok (.bipush 9, 2) := by decide +kernel
theorem dX12_drawn_30 : decode cX12_drawn 30 = .ok (.aload_n 0, 1) := by decide +kernel
theorem dX12_drawn_31 : decode cX12_drawn 31 = .ok (.getfield 16, 3) := by decide +kernel
theorem dX12_drawn_34 : decode cX12_drawn 34 = .ok (.iload_n 2, 1) := by decide +kernel
theorem dX12_drawn_35 : decode cX12_drawn 35 = .ok (.iaload, 1) := by decide +kernel
theorem dX12_drawn_36 : decode cX12_drawn 36 = .ok (.isub, 1) := by decide +kernel
theorem dX12_drawn_37 : decode cX12_drawn 37 = .ok (.istore 4, 2) := by decide +kernel
theorem dX12_drawn_39 : decode cX12_drawn 39 = .ok (.aload_n 0, 1) := by decide +kernel
theorem dX12_drawn_40 : decode cX12_drawn 40 = .ok (.iload_n 1, 1) := by decide +kernel
theorem dX12_drawn_41 : decode cX12_drawn 41 = .ok (.invokevirtual 94, 3) := by decide +kernel
theorem dX12_drawn_44 : decode cX12_drawn 44 = .ok (.iload 4, 2) := by decide +kernel
theorem dX12_drawn_46 : decode cX12_drawn 46 = .ok (.invokestatic 90, 3) := by decide +kernel
theorem dX12_drawn_49 : decode cX12_drawn 49 = .ok (.i2l, 1) := by decide +kernel
theorem dX12_drawn_50 : decode cX12_drawn 50 = .ok (.iload 4, 2) := by decide +kernel
theorem dX12_drawn_52 : decode cX12_drawn 52 = .ok (.i2l, 1) := by decide +kernel
theorem dX12_drawn_53 : decode cX12_drawn 53 = .ok (.iload_n 3, 1) := by decide +kernel
theorem dX12_drawn_54 : decode cX12_drawn 54 = .ok (.invokestatic 225, 3) := by decide +kernel
theorem dX12_drawn_57 : decode cX12_drawn 57 = .ok (.lreturn, 1) := by decide +kernel
set_option maxRecDepth 20000 in
theorem ggX12_await_X12_in : GoodIn wsX12_await wsX12_in := goodIn_r _ [8] (by decide +kernel) (by decide +kernel)
set_option maxRecDepth 20000 in
theorem gX12_await_X12_in : GoodIn wsX12_await (va_wsS RX12 72 yX12_in wsX12_in) := goodIn_app (goodIn_of _ (by decide +kernel)) ggX12_await_X12_in
set_option maxRecDepth 20000 in
theorem ggX12_await_X12_partOf : GoodIn wsX12_await wsX12_partOf := goodIn_r _ [11, 12, 13, 7, 14] (by decide +kernel) (by decide +kernel)
set_option maxRecDepth 20000 in
theorem gX12_await_X12_partOf : GoodIn wsX12_await (va_wsS RX12 225 yX12_partOf wsX12_partOf) := goodIn_app (goodIn_of _ (by decide +kernel)) ggX12_await_X12_partOf
theorem dX12_await_0 : decode cX12_await 0 = .ok (.aload_n 0, 1) := by decide +kernel
theorem dX12_await_1 : decode cX12_await 1 = .ok (.iconst 0, 1) := by decide +kernel
theorem dX12_await_2 : decode cX12_await 2 = .ok (.putfield 65, 3) := by decide +kernel
theorem dX12_await_5 : decode cX12_await 5 = .ok (.iload_n 1, 1) := by decide +kernel
theorem dX12_await_6 : decode cX12_await 6 = .ok (.i2l, 1) := by decide +kernel
theorem dX12_await_7 : decode cX12_await 7 = .ok (.lconst 0, 1) := by decide +kernel
theorem dX12_await_8 : decode cX12_await 8 = .ok (.ldc2_w 229, 3) := by decide +kernel
theorem dX12_await_11 : decode cX12_await 11 = .ok (.invokestatic 72, 3) := by decide +kernel
theorem dX12_await_14 : decode cX12_await 14 = .ok (.ifCond .eq 25, 3) := by decide +kernel
theorem dX12_await_17 : decode cX12_await 17 = .ok (.iload_n 2, 1) := by decide +kernel
theorem dX12_await_18 : decode cX12_await 18 = .ok (.i2l, 1) := by decide +kernel
theorem dX12_await_19 : decode cX12_await 19 = .ok (.lconst 0, 1) := by decide +kernel
theorem dX12_await_20 : decode cX12_await 20 = .ok (.ldc2_w 231, 3) := by decide +kernel
theorem dX12_await_23 : decode cX12_await 23 = .ok (.invokestatic 72, 3) := by decide +kernel
theorem dX12_await_26 : decode cX12_await 26 = .ok (.ifCond .eq 13, 3) := by decide +kernel
theorem dX12_await_29 : decode cX12_await 29 = .ok (.iload_n 3, 1) := by decide +kernel
theorem dX12_await_30 : decode cX12_await 30 = .ok (.i2l, 1) := by decide +kernel
theorem dX12_await_31 : decode cX12_await 31 = .ok (.lconst 0, 1) := by decide +kernel
theorem dX12_await_32 : decode cX12_await 32 = .ok (.lconst 1, 1) := by decide +kernel
theorem dX12_await_33 : decode cX12_await 33 = .ok (.invokestatic 72, 3) := by decide +kernel
theorem dX12_await_36 : decode cX12_await 36 = .ok (.ifCond .ne 7, 3) := by decide +kernel
theorem dX12_await_39 : decode cX12_await 39 = .ok (.ldc2_w 219, 3) := by decide +kernel
theorem dX12_await_42 : decode cX12_await 42 = .ok (.lreturn, 1) := by decide +kernel
theorem dX12_await_43 : decode cX12_await 43 = .ok (.lconst 1, 1) := by decide +kernel
theorem dX12_await_44 : decode cX12_await 44 = .ok (.lstore 4, 2) := by decide +kernel
theorem dX12_await_46 : decode cX12_await 46 = .ok (.lconst 1, 1) := by decide +kernel
theorem dX12_await_47 : decode cX12_await 47 = .ok (.lstore 6, 2) := by decide +kernel
theorem dX12_await_49 : decode cX12_await 49 = .ok (.iconst 0, 1) := by decide +kernel
theorem dX12_await_50 : decode cX12_await 50 = .ok (.istore 8, 2) := by decide +kernel
theorem dX12_await_52 : decode cX12_await 52 = .ok (.iload 8, 2) := by decide +kernel
theorem dX12_await_54 : decode cX12_await 54 = .ok (.iload_n 2, 1) := by decide +kernel
theorem dX12_await_55 : decode cX12_await 55 = .ok (.if_icmp .ge 27, 3) := by decide +kernel
theorem dX12_await_58 : decode cX12_await 58 = .ok (.lload 4, 2) := by decide +kernel
theorem dX12_await_60 : decode cX12_await 60 = .ok (.bipush 10, 2) := by decide +kernel
theorem dX12_await_62 : decode cX12_await 62 = .ok (.iload_n 1, 1) := by decide +kernel
theorem dX12_await_63 : decode cX12_await 63 = .ok (.isub, 1) := by decide +kernel
theorem dX12_await_64 : decode cX12_await 64 = .ok (.i2l, 1) := by decide +kernel
theorem dX12_await_65 : decode cX12_await 65 = .ok (.lmul, 1) := by decide +kernel
theorem dX12_await_66 : decode cX12_await 66 = .ok (.lstore 4, 2) := by decide +kernel
theorem dX12_await_68 : decode cX12_await 68 = .ok (.lload 6, 2) := by decide +kernel
theorem dX12_await_70 : decode cX12_await 70 = .ok (.ldc2_w 229, 3) := by decide +kernel
theorem dX12_await_73 : decode cX12_await 73 = .ok (.lmul, 1) := by decide +kernel
theorem dX12_await_74 : decode cX12_await 74 = .ok (.lstore 6, 2) := by decide +kernel
theorem dX12_await_76 : decode cX12_await 76 = .ok (.iinc 8 1, 3) := by decide +kernel
theorem dX12_await_79 : decode cX12_await 79 = .ok (.goto (-27), 3) := by decide +kernel
theorem dX12_await_82 : decode cX12_await 82 = .ok (.lload 6, 2) := by decide +kernel
theorem dX12_await_84 : decode cX12_await 84 = .ok (.lload 4, 2) := by decide +kernel
theorem dX12_await_86 : decode cX12_await 86 = .ok (.lsub, 1) := by decide +kernel
theorem dX12_await_87 : decode cX12_await 87 = .ok (.lload 6, 2) := by decide +kernel
theorem dX12_await_89 : decode cX12_await 89 = .ok (.iload_n 3, 1) := by decide +kernel
theorem dX12_await_90 : decode cX12_await 90 = .ok (.invokestatic 225, 3) := by decide +kernel
theorem dX12_await_93 : decode cX12_await 93 = .ok (.lreturn, 1) := by decide +kernel
set_option maxRecDepth 20000 in
theorem ggX12_daysFor_X12_in : GoodIn wsX12_daysFor wsX12_in := goodIn_r _ [7] (by decide +kernel) (by decide +kernel)
set_option maxRecDepth 20000 in
theorem gX12_daysFor_X12_in : GoodIn wsX12_daysFor (va_wsS RX12 72 yX12_in wsX12_in) := goodIn_app (goodIn_of _ (by decide +kernel)) ggX12_daysFor_X12_in
theorem dX12_daysFor_0 : decode cX12_daysFor 0 = .ok (.aload_n 0, 1) := by decide +kernel
theorem dX12_daysFor_1 : decode cX12_daysFor 1 = .ok (.iconst 0, 1) := by decide +kernel
theorem dX12_daysFor_2 : decode cX12_daysFor 2 = .ok (.putfield 65, 3) := by decide +kernel
theorem dX12_daysFor_5 : decode cX12_daysFor 5 = .ok (.iload_n 1, 1) := by decide +kernel
theorem dX12_daysFor_6 : decode cX12_daysFor 6 = .ok (.i2l, 1) := by decide +kernel
theorem dX12_daysFor_7 : decode cX12_daysFor 7 = .ok (.lconst 0, 1) := by decide +kernel
theorem dX12_daysFor_8 : decode cX12_daysFor 8 = .ok (.ldc2_w 229, 3) := by decide +kernel
theorem dX12_daysFor_11 : decode cX12_daysFor 11 = .ok (.invokestatic 72, 3) := by decide +kernel
theorem dX12_daysFor_14 : decode cX12_daysFor 14 = .ok (.ifCond .ne 5, 3) := by decide +kernel
theorem dX12_daysFor_17 : decode cX12_daysFor 17 = .ok (.iconst (-1), 1) := by decide +kernel
theorem dX12_daysFor_18 : decode cX12_daysFor 18 = .ok (.ireturn, 1) := by decide +kernel
theorem dX12_daysFor_19 : decode cX12_daysFor 19 = .ok (.lconst 1, 1) := by decide +kernel
theorem dX12_daysFor_20 : decode cX12_daysFor 20 = .ok (.lstore_n 2, 1) := by decide +kernel
theorem dX12_daysFor_21 : decode cX12_daysFor 21 = .ok (.lconst 1, 1) := by decide +kernel
theorem dX12_daysFor_22 : decode cX12_daysFor 22 = .ok (.lstore 4, 2) := by decide +kernel
theorem dX12_daysFor_24 : decode cX12_daysFor 24 = .ok (.iconst 0, 1) := by decide +kernel
theorem dX12_daysFor_25 : decode cX12_daysFor 25 = .ok (.istore 6, 2) := by decide +kernel
theorem dX12_daysFor_27 : decode cX12_daysFor 27 = .ok (.iload 6, 2) := by decide +kernel
theorem dX12_daysFor_29 : decode cX12_daysFor 29 = .ok (.bipush 12, 2) := by decide +kernel
theorem dX12_daysFor_31 : decode cX12_daysFor 31 = .ok (.if_icmp .gt 42, 3) := by decide +kernel
theorem dX12_daysFor_34 : decode cX12_daysFor 34 = .ok (.ldc2_w 233, 3) := by decide +kernel
theorem dX12_daysFor_37 : decode cX12_daysFor 37 = .ok (.lload 4, 2) := by decide +kernel
theorem dX12_daysFor_39 : decode cX12_daysFor 39 = .ok (.lload_n 2, 1) := by decide +kernel
theorem dX12_daysFor_40 : decode cX12_daysFor 40 = .ok (.lsub, 1) := by decide +kernel
theorem dX12_daysFor_41 : decode cX12_daysFor 41 = .ok (.lmul, 1) := by decide +kernel
theorem dX12_daysFor_42 : decode cX12_daysFor 42 = .ok (.lload 4, 2) := by decide +kernel
theorem dX12_daysFor_44 : decode cX12_daysFor 44 = .ok (.lcmp, 1) := by decide +kernel
theorem dX12_daysFor_45 : decode cX12_daysFor 45 = .ok (.ifCond .lt 6, 3) := by decide +kernel
theorem dX12_daysFor_48 : decode cX12_daysFor 48 = .ok (.iload 6, 2) := by decide +kernel
theorem dX12_daysFor_50 : decode cX12_daysFor 50 = .ok (.ireturn, 1) := by decide +kernel
theorem dX12_daysFor_51 : decode cX12_daysFor 51 = .ok (.lload_n 2, 1) := by decide +kernel
theorem dX12_daysFor_52 : decode cX12_daysFor 52 = .ok (.bipush 10, 2) := by decide +kernel
theorem dX12_daysFor_54 : decode cX12_daysFor 54 = .ok (.iload_n 1, 1) := by decide +kernel
theorem dX12_daysFor_55 : decode cX12_daysFor 55 = .ok (.isub, 1) := by decide +kernel
theorem dX12_daysFor_56 : decode cX12_daysFor 56 = .ok (.i2l, 1) := by decide +kernel
theorem dX12_daysFor_57 : decode cX12_daysFor 57 = .ok (.lmul, 1) := by decide +kernel
theorem dX12_daysFor_58 : decode cX12_daysFor 58 = .ok (.lstore_n 2, 1) := by decide +kernel
theorem dX12_daysFor_59 : decode cX12_daysFor 59 = .ok (.lload 4, 2) := by decide +kernel
theorem dX12_daysFor_61 : decode cX12_daysFor 61 = .ok (.ldc2_w 229, 3) := by decide +kernel
theorem dX12_daysFor_64 : decode cX12_daysFor 64 = .ok (.lmul, 1) := by decide +kernel
theorem dX12_daysFor_65 : decode cX12_daysFor 65 = .ok (.lstore 4, 2) := by decide +kernel
theorem dX12_daysFor_67 : decode cX12_daysFor 67 = .ok (.iinc 6 1, 3) := by decide +kernel
theorem dX12_daysFor_70 : decode cX12_daysFor 70 = .ok (.goto (-43), 3) := by decide +kernel
theorem dX12_daysFor_73 : decode cX12_daysFor 73 = .ok (.bipush (-4), 2) := by decide +kernel
theorem dX12_daysFor_75 : decode cX12_daysFor 75 = .ok (.ireturn, 1) := by decide +kernel
set_option maxRecDepth 20000 in
theorem ggX12_fitInAll_X12_fitFor : GoodIn wsX12_fitInAll wsX12_fitFor := goodIn_r _ [6, 1, 7, 8, 9, 5, 10, 11, 12, 13, 14, 15, 16, 17, 21, 22, 23, 24, 25, 26, 27, 28, 29, 30, 31, 32, 33, 34, 35, 36, 37, 38, 39, 40, 41, 42, 43, 44, 45, 46, 47, 48, 49, 50, 51] (by decide +kernel) (by decide +kernel)
set_option maxRecDepth 20000 in
theorem gX12_fitInAll_X12_fitFor : GoodIn wsX12_fitInAll (wsV RX12 196 RX12 yX12_fitFor wsX12_fitFor) := goodIn_app (goodIn_of _ (by decide +kernel)) ggX12_fitInAll_X12_fitFor
set_option maxRecDepth 20000 in
theorem ggX12_fitInAll_X12_onesOf : GoodIn wsX12_fitInAll wsX12_onesOf := goodIn_r _ [20] (by decide +kernel) (by decide +kernel)
set_option maxRecDepth 20000 in
theorem gX12_fitInAll_X12_onesOf : GoodIn wsX12_fitInAll (va_wsS RX12 235 yX12_onesOf wsX12_onesOf) := goodIn_app (goodIn_of _ (by decide +kernel)) ggX12_fitInAll_X12_onesOf
theorem dX12_fitInAll_0 : decode cX12_fitInAll 0 = .ok (.iconst 0, 1) := by decide +kernel
theorem dX12_fitInAll_1 : decode cX12_fitInAll 1 = .ok (.istore_n 1, 1) := by decide +kernel
theorem dX12_fitInAll_2 : decode cX12_fitInAll 2 = .ok (.iconst 0, 1) := by decide +kernel
theorem dX12_fitInAll_3 : decode cX12_fitInAll 3 = .ok (.istore_n 2, 1) := by decide +kernel
theorem dX12_fitInAll_4 : decode cX12_fitInAll 4 = .ok (.iload_n 2, 1) := by decide +kernel
theorem dX12_fitInAll_5 : decode cX12_fitInAll 5 = .ok (.aload_n 0, 1) := by decide +kernel
theorem dX12_fitInAll_6 : decode cX12_fitInAll 6 = .ok (.getfield 69, 3) := by decide +kernel
theorem dX12_fitInAll_9 : decode cX12_fitInAll 9 = .ok (.if_icmp .ge 20, 3) := by decide +kernel
theorem dX12_fitInAll_12 : decode cX12_fitInAll 12 = .ok (.iload_n 1, 1) := by decide +kernel
theorem dX12_fitInAll_13 : decode cX12_fitInAll 13 = .ok (.aload_n 0, 1) := by decide +kernel
theorem dX12_fitInAll_14 : decode cX12_fitInAll 14 = .ok (.iload_n 2, 1) := by decide +kernel
theorem dX12_fitInAll_15 : decode cX12_fitInAll 15 = .ok (.invokevirtual 196, 3) := by decide +kernel
theorem dX12_fitInAll_18 : decode cX12_fitInAll 18 = .ok (.invokestatic 235, 3) := by decide +kernel
theorem dX12_fitInAll_21 : decode cX12_fitInAll 21 = .ok (.iadd, 1) := by decide +kernel
theorem dX12_fitInAll_22 : decode cX12_fitInAll 22 = .ok (.istore_n 1, 1) := by decide +kernel
theorem dX12_fitInAll_23 : decode cX12_fitInAll 23 = .ok (.iinc 2 1, 3) := by decide +kernel
theorem dX12_fitInAll_26 : decode cX12_fitInAll 26 = .ok (.goto (-22), 3) := by decide +kernel
theorem dX12_fitInAll_29 : decode cX12_fitInAll 29 = .ok (.iload_n 1, 1) := by decide +kernel
theorem dX12_fitInAll_30 : decode cX12_fitInAll 30 = .ok (.ireturn, 1) := by decide +kernel
set_option maxRecDepth 20000 in
theorem ggX12_ask_X12_isOne : GoodIn wsX12_ask wsX12_isOne := goodIn_r _ [9, 3, 10, 11, 8, 12, 49, 50, 51, 52, 53, 54, 55, 56, 57, 58, 59, 60, 61, 62, 63, 64, 65, 66, 67, 68, 69, 70, 71, 72, 73, 74, 75, 76, 77, 78, 79] (by decide +kernel) (by decide +kernel)
set_option maxRecDepth 20000 in
theorem gX12_ask_X12_isOne : GoodIn wsX12_ask (wsV RX12 76 RX12 yX12_isOne wsX12_isOne) := goodIn_app (goodIn_of _ (by decide +kernel)) ggX12_ask_X12_isOne
set_option maxRecDepth 20000 in
theorem ggX12_ask_X12_mayTurn : GoodIn wsX12_ask wsX12_mayTurn := goodIn_r _ [16, 4, 17, 18, 19, 20, 8, 21, 22, 49, 50, 51, 52, 53, 54, 55, 56, 57, 58, 59, 60, 61, 62, 63, 64, 65, 66, 67, 68, 69, 70, 71, 72, 73, 74, 75, 76, 77, 78, 79] (by decide +kernel) (by decide +kernel)
set_option maxRecDepth 20000 in
theorem gX12_ask_X12_mayTurn : GoodIn wsX12_ask (wsV RX12 101 RX12 yX12_mayTurn wsX12_mayTurn) := goodIn_app (goodIn_of _ (by decide +kernel)) ggX12_ask_X12_mayTurn
set_option maxRecDepth 20000 in
theorem ggX12_ask_X12_grow : GoodIn wsX12_ask wsX12_grow := goodIn_r _ [26, 4, 27, 28, 29, 8, 30, 31, 22, 32, 33, 34, 49, 50, 51, 52, 53, 54, 55, 56, 57, 58, 59, 60, 61, 62, 63, 64, 65, 66, 67, 68, 69, 70, 71, 72, 73, 74, 75, 76, 77, 78, 79] (by decide +kernel) (by decide +kernel)
set_option maxRecDepth 20000 in
theorem gX12_ask_X12_grow : GoodIn wsX12_ask (wsV RX12 97 RX12 yX12_grow wsX12_grow) := goodIn_app (goodIn_of _ (by decide +kernel)) ggX12_ask_X12_grow
set_option maxRecDepth 20000 in
theorem ggX12_ask_X12_fitInAll : GoodIn wsX12_ask wsX12_fitInAll := goodIn_r _ [38, 3, 39, 40, 41, 8, 42, 13, 14, 15, 16, 4, 17, 18, 19, 20, 21, 22, 43, 44, 45, 49, 50, 51, 52, 53, 54, 55, 56, 57, 58, 59, 60, 61, 62, 63, 64, 65, 66, 67, 68, 69, 70, 71, 72, 73, 74, 75, 76, 77, 78, 79] (by decide +kernel) (by decide +kernel)
set_option maxRecDepth 20000 in
theorem gX12_ask_X12_fitInAll : GoodIn wsX12_ask (wsV RX12 238 RX12 yX12_fitInAll wsX12_fitInAll) := goodIn_app (goodIn_of _ (by decide +kernel)) ggX12_ask_X12_fitInAll
set_option maxRecDepth 20000 in
theorem ggX12_ask_X12_greater : GoodIn wsX12_ask wsX12_greater := goodIn_r _ [48] (by decide +kernel) (by decide +kernel)
set_option maxRecDepth 20000 in
theorem gX12_ask_X12_greater : GoodIn wsX12_ask (va_wsS RX12 202 yX12_greater wsX12_greater) := goodIn_app (goodIn_of _ (by decide +kernel)) ggX12_ask_X12_greater
theorem dX12_ask_0 : decode cX12_ask 0 = .ok (.aload_n 0, 1) := by decide +kernel
theorem dX12_ask_1 : decode cX12_ask 1 = .ok (.iconst 0, 1) := by decide +kernel
theorem dX12_ask_2 : decode cX12_ask 2 = .ok (.putfield 65, 3) := by decide +kernel
theorem dX12_ask_5 : decode cX12_ask 5 = .ok (.aload_n 0, 1) := by decide +kernel
theorem dX12_ask_6 : decode cX12_ask 6 = .ok (.iload_n 1, 1) := by decide +kernel
theorem dX12_ask_7 : decode cX12_ask 7 = .ok (.invokevirtual 76, 3) := by decide +kernel
theorem dX12_ask_10 : decode cX12_ask 10 = .ok (.ifCond .ne 5, 3) := by decide +kernel
theorem dX12_ask_13 : decode cX12_ask 13 = .ok (.iconst (-1), 1) := by decide +kernel
theorem dX12_ask_14 : decode cX12_ask 14 = .ok (.ireturn, 1) := by decide +kernel
theorem dX12_ask_15 : decode cX12_ask 15 = .ok (.aload_n 0, 1) := by decide +kernel
theorem dX12_ask_16 : decode cX12_ask 16 = .ok (.getfield 16, 3) := by decide +kernel
theorem dX12_ask_19 : decode cX12_ask 19 = .ok (.iload_n 1, 1) := by decide +kernel
theorem dX12_ask_20 : decode cX12_ask 20 = .ok (.iaload, 1) := by decide +kernel
theorem dX12_ask_21 : decode cX12_ask 21 = .ok (.bipush 9, 2) := by decide +kernel
theorem dX12_ask_23 : decode cX12_ask 23 = .ok (.if_icmp .ne 6, 3) := by decide +kernel
theorem dX12_ask_26 : decode cX12_ask 26 = .ok (.bipush (-3), 2) := by decide +kernel
theorem dX12_ask_28 : decode cX12_ask 28 = .ok (.ireturn, 1) := by decide +kernel
theorem dX12_ask_29 : decode cX12_ask 29 = .ok (.bipush (-4), 2) := by decide +kernel
theorem dX12_ask_31 : decode cX12_ask 31 = .ok (.istore_n 2, 1) := by decide +kernel
theorem dX12_ask_32 : decode cX12_ask 32 = .ok (.iconst (-1), 1) := by decide +kernel
theorem dX12_ask_33 : decode cX12_ask 33 = .ok (.istore_n 3, 1) := by decide +kernel
theorem dX12_ask_34 : decode cX12_ask 34 = .ok (.iconst 0, 1) := by decide +kernel
theorem dX12_ask_35 : decode cX12_ask 35 = .ok (.istore 4, 2) := by decide +kernel
theorem dX12_ask_37 : decode cX12_ask 37 = .ok (.iload 4, 2) := by decide +kernel
theorem dX12_ask_39 : decode cX12_ask 39 = .ok (.aload_n 0, 1) := by decide +kernel
theorem dX12_ask_40 : decode cX12_ask 40 = .ok (.getfield 69, 3) := by decide +kernel
theorem dX12_ask_43 : decode cX12_ask 43 = .ok (.if_icmp .ge 80, 3) := by decide +kernel
theorem dX12_ask_46 : decode cX12_ask 46 = .ok (.aload_n 0, 1) := by decide +kernel
theorem dX12_ask_47 : decode cX12_ask 47 = .ok (.iload 4, 2) := by decide +kernel
theorem dX12_ask_49 : decode cX12_ask 49 = .ok (.iload_n 1, 1) := by decide +kernel
theorem dX12_ask_50 : decode cX12_ask 50 = .ok (.invokevirtual 101, 3) := by decide +kernel
theorem dX12_ask_53 : decode cX12_ask 53 = .ok (.ifCond .eq 64, 3) := by decide +kernel
theorem dX12_ask_56 : decode cX12_ask 56 = .ok (.aload_n 0, 1) := by decide +kernel
theorem dX12_ask_57 : decode cX12_ask 57 = .ok (.getfield 19, 3) := by decide +kernel
theorem dX12_ask_60 : decode cX12_ask 60 = .ok (.bipush 7, 2) := by decide +kernel
theorem dX12_ask_62 : decode cX12_ask 62 = .ok (.iload 4, 2) := by decide +kernel
theorem dX12_ask_64 : decode cX12_ask 64 = .ok (.imul, 1) := by decide +kernel
theorem dX12_ask_65 : decode cX12_ask 65 = .ok (.iload_n 1, 1) := by decide +kernel
theorem dX12_ask_66 : decode cX12_ask 66 = .ok (.iadd, 1) := by decide +kernel
theorem dX12_ask_67 : decode cX12_ask 67 = .ok (.iaload, 1) := by decide +kernel
theorem dX12_ask_68 : decode cX12_ask 68 = .ok (.istore 5, 2) := by decide +kernel
theorem dX12_ask_70 : decode cX12_ask 70 = .ok (.aload_n 0, 1) := by decide +kernel
theorem dX12_ask_71 : decode cX12_ask 71 = .ok (.iload 4, 2) := by decide +kernel
theorem dX12_ask_73 : decode cX12_ask 73 = .ok (.iload_n 1, 1) := by decide +kernel
theorem dX12_ask_74 : decode cX12_ask 74 = .ok (.invokevirtual 97, 3) := by decide +kernel
theorem dX12_ask_77 : decode cX12_ask 77 = .ok (.aload_n 0, 1) := by decide +kernel
theorem dX12_ask_78 : decode cX12_ask 78 = .ok (.invokevirtual 238, 3) := by decide +kernel
theorem dX12_ask_81 : decode cX12_ask 81 = .ok (.istore 6, 2) := by decide +kernel
theorem dX12_ask_83 : decode cX12_ask 83 = .ok (.aload_n 0, 1) := by decide +kernel
theorem dX12_ask_84 : decode cX12_ask 84 = .ok (.getfield 19, 3) := by decide +kernel
theorem dX12_ask_87 : decode cX12_ask 87 = .ok (.bipush 7, 2) := by decide +kernel
theorem dX12_ask_89 : decode cX12_ask 89 = .ok (.iload 4, 2) := by decide +kernel
theorem dX12_ask_91 : decode cX12_ask 91 = .ok (.imul, 1) := by decide +kernel
theorem dX12_ask_92 : decode cX12_ask 92 = .ok (.iload_n 1, 1) := by decide +kernel
theorem dX12_ask_93 : decode cX12_ask 93 = .ok (.iadd, 1) := by decide +kernel
theorem dX12_ask_94 : decode cX12_ask 94 = .ok (.iload 5, 2) := by decide +kernel
theorem dX12_ask_96 : decode cX12_ask 96 = .ok (.iastore, 1) := by decide +kernel
theorem dX12_ask_97 : decode cX12_ask 97 = .ok (.iload 6, 2) := by decide +kernel
theorem dX12_ask_99 : decode cX12_ask 99 = .ok (.iload_n 3, 1) := by decide +kernel
theorem dX12_ask_100 : decode cX12_ask 100 = .ok (.if_icmp .le 8, 3) := by decide +kernel
theorem dX12_ask_103 : decode cX12_ask 103 = .ok (.iload 4, 2) := by decide +kernel
theorem dX12_ask_105 : decode cX12_ask 105 = .ok (.goto 4, 3) := by decide +kernel
theorem dX12_ask_108 : decode cX12_ask 108 = .ok (.iload_n 2, 1) := by decide +kernel
theorem dX12_ask_109 : decode cX12_ask 109 = .ok (.istore_n 2, 1) := by decide +kernel
theorem dX12_ask_110 : decode cX12_ask 110 = .ok (.iload_n 3, 1) := by decide +kernel
theorem dX12_ask_111 : decode cX12_ask 111 = .ok (.iload 6, 2) := by decide +kernel
theorem dX12_ask_113 : decode cX12_ask 113 = .ok (.invokestatic 202, 3) := by decide +kernel
theorem dX12_ask_116 : decode cX12_ask 116 = .ok (.istore_n 3, 1) := by decide +kernel
theorem dX12_ask_117 : decode cX12_ask 117 = .ok (.iinc 4 1, 3) := by decide +kernel
theorem dX12_ask_120 : decode cX12_ask 120 = .ok (.goto (-83), 3) := by decide +kernel
theorem dX12_ask_123 : decode cX12_ask 123 = .ok (.iload_n 2, 1) := by decide +kernel
theorem dX12_ask_124 : decode cX12_ask 124 = .ok (.ireturn, 1) := by decide +kernel
set_option maxRecDepth 20000 in
theorem ggX12_wins_X12_growsOf : GoodIn wsX12_wins wsX12_growsOf := goodIn_r _ [5, 6, 7, 8, 9, 10, 11, 12, 13, 14, 15, 16, 17, 18, 19, 20, 21, 22, 23, 24, 25, 26, 27, 28, 29, 30, 31, 32, 33, 34, 35, 36, 37, 38] (by decide +kernel) (by decide +kernel)
set_option maxRecDepth 20000 in
theorem gX12_wins_X12_growsOf : GoodIn wsX12_wins (wsV RX12 87 RX12 yX12_growsOf wsX12_growsOf) := goodIn_app (goodIn_of _ (by decide +kernel)) ggX12_wins_X12_growsOf
theorem dX12_wins_0 : decode cX12_wins 0 = .ok (.iconst 3, 1) := by decide +kernel
theorem dX12_wins_1 : decode cX12_wins 1 = .ok (.iload_n 3, 1) := by decide +kernel
theorem dX12_wins_2 : decode cX12_wins 2 = .ok (.imul, 1) := by decide +kernel
theorem dX12_wins_3 : decode cX12_wins 3 = .ok (.aload_n 0, 1) := by decide +kernel
theorem dX12_wins_4 : decode cX12_wins 4 = .ok (.iload_n 1, 1) := by decide +kernel
theorem dX12_wins_5 : decode cX12_wins 5 = .ok (.invokevirtual 87, 3) := by decide +kernel
theorem dX12_wins_8 : decode cX12_wins 8 = .ok (.iload_n 2, 1) := by decide +kernel
theorem dX12_wins_9 : decode cX12_wins 9 = .ok (.imul, 1) := by decide +kernel
theorem dX12_wins_10 : decode cX12_wins 10 = .ok (.isub, 1) := by decide +kernel
theorem dX12_wins_11 : decode cX12_wins 11 = .ok (.iconst 2, 1) := by decide +kernel
theorem dX12_wins_12 : decode cX12_wins 12 = .ok (.iload_n 2, 1) := by decide +kernel
theorem dX12_wins_13 : decode cX12_wins 13 = .ok (.imul, 1) := by decide +kernel
theorem dX12_wins_14 : decode cX12_wins 14 = .ok (.iload_n 3, 1) := by decide +kernel
theorem dX12_wins_15 : decode cX12_wins 15 = .ok (.imul, 1) := by decide +kernel
theorem dX12_wins_16 : decode cX12_wins 16 = .ok (.iadd, 1) := by decide +kernel
theorem dX12_wins_17 : decode cX12_wins 17 = .ok (.ireturn, 1) := by decide +kernel
set_option maxRecDepth 20000 in
theorem ggX12_rests_X12_mayTurn : GoodIn wsX12_rests wsX12_mayTurn := goodIn_r _ [5, 6, 7, 8, 9, 10, 4, 11, 12, 22, 23, 24, 25, 26, 27, 28, 29, 30, 31, 32, 33, 34, 35, 36, 37, 38, 39, 40, 41, 42, 43, 44, 45, 46, 47, 48, 49, 50, 51, 52] (by decide +kernel) (by decide +kernel)
set_option maxRecDepth 20000 in
theorem gX12_rests_X12_mayTurn : GoodIn wsX12_rests (wsV RX12 101 RX12 yX12_mayTurn wsX12_mayTurn) := goodIn_app (goodIn_of _ (by decide +kernel)) ggX12_rests_X12_mayTurn
set_option maxRecDepth 20000 in
theorem ggX12_rests_X12_wins : GoodIn wsX12_rests wsX12_wins := goodIn_r _ [16, 17, 18, 19, 4, 20, 21, 12, 22, 23, 24, 25, 26, 27, 28, 29, 30, 31, 32, 33, 34, 35, 36, 37, 38, 39, 40, 41, 42, 43, 44, 45, 46, 47, 48, 49, 50, 51, 52] (by decide +kernel) (by decide +kernel)
set_option maxRecDepth 20000 in
theorem gX12_rests_X12_wins : GoodIn wsX12_rests (wsV RX12 241 RX12 yX12_wins wsX12_wins) := goodIn_app (goodIn_of _ (by decide +kernel)) ggX12_rests_X12_wins
theorem dX12_rests_0 : decode cX12_rests 0 = .ok (.iconst 1, 1) := by decide +kernel
theorem dX12_rests_1 : decode cX12_rests 1 = .ok (.iload_n 3, 1) := by decide +kernel
theorem dX12_rests_2 : decode cX12_rests 2 = .ok (.isub, 1) := by decide +kernel
theorem dX12_rests_3 : decode cX12_rests 3 = .ok (.istore 5, 2) := by decide +kernel
theorem dX12_rests_5 : decode cX12_rests 5 = .ok (.iload 5, 2) := by decide +kernel
theorem dX12_rests_7 : decode cX12_rests 7 = .ok (.ifCond .eq 12, 3) := by decide +kernel
theorem dX12_rests_10 : decode cX12_rests 10 = .ok (.aload_n 0, 1) := by decide +kernel
theorem dX12_rests_11 : decode cX12_rests 11 = .ok (.iload_n 1, 1) := by decide +kernel
theorem dX12_rests_12 : decode cX12_rests 12 = .ok (.iload_n 2, 1) := by decide +kernel
theorem dX12_rests_13 : decode cX12_rests 13 = .ok (.invokevirtual 101, 3) := by decide +kernel
theorem dX12_rests_16 : decode cX12_rests 16 = .ok (.ifCond .eq 7, 3) := by decide +kernel
theorem dX12_rests_19 : decode cX12_rests 19 = .ok (.iconst 1, 1) := by decide +kernel
theorem dX12_rests_20 : decode cX12_rests 20 = .ok (.goto 4, 3) := by decide +kernel
theorem dX12_rests_23 : decode cX12_rests 23 = .ok (.iconst 0, 1) := by decide +kernel
theorem dX12_rests_24 : decode cX12_rests 24 = .ok (.istore 6, 2) := by decide +kernel
theorem dX12_rests_26 : decode cX12_rests 26 = .ok (.iload 6, 2) := by decide +kernel
theorem dX12_rests_28 : decode cX12_rests 28 = .ok (.ifCond .eq 23, 3) := by decide +kernel
theorem dX12_rests_31 : decode cX12_rests 31 = .ok (.aload_n 0, 1) := by decide +kernel
theorem dX12_rests_32 : decode cX12_rests 32 = .ok (.iload_n 1, 1) := by decide +kernel
theorem dX12_rests_33 : decode cX12_rests 33 = .ok (.iload 5, 2) := by decide +kernel
theorem dX12_rests_35 : decode cX12_rests 35 = .ok (.iload 4, 2) := by decide +kernel
theorem dX12_rests_37 : decode cX12_rests 37 = .ok (.invokevirtual 241, 3) := by decide +kernel
theorem dX12_rests_40 : decode cX12_rests 40 = .ok (.aload_n 0, 1) := by decide +kernel
theorem dX12_rests_41 : decode cX12_rests 41 = .ok (.iload_n 1, 1) := by decide +kernel
theorem dX12_rests_42 : decode cX12_rests 42 = .ok (.iload_n 3, 1) := by decide +kernel
theorem dX12_rests_43 : decode cX12_rests 43 = .ok (.iload 4, 2) := by decide +kernel
theorem dX12_rests_45 : decode cX12_rests 45 = .ok (.invokevirtual 241, 3) := by decide +kernel
theorem dX12_rests_48 : decode cX12_rests 48 = .ok (.if_icmp .gt 7, 3) := by decide +kernel
theorem dX12_rests_51 : decode cX12_rests 51 = .ok (.iconst 1, 1) := by decide +kernel
theorem dX12_rests_52 : decode cX12_rests 52 = .ok (.goto 4, 3) := by decide +kernel
theorem dX12_rests_55 : decode cX12_rests 55 = .ok (.iconst 0, 1) := by decide +kernel
theorem dX12_rests_56 : decode cX12_rests 56 = .ok (.ireturn, 1) := by decide +kernel
set_option maxRecDepth 20000 in
theorem ggX12_game_X12_areTwo : GoodIn wsX12_game wsX12_areTwo := goodIn_r _ [6, 7, 8, 9, 5, 10, 11, 12, 13, 14, 39, 40, 41, 42, 43, 44, 45, 46, 47, 48, 49, 50, 51, 52, 53, 54, 55, 56, 57, 58, 59, 60, 61, 62, 63, 64, 65, 66, 67, 68, 69] (by decide +kernel) (by decide +kernel)
set_option maxRecDepth 20000 in
theorem gX12_game_X12_areTwo : GoodIn wsX12_game (wsV RX12 135 RX12 yX12_areTwo wsX12_areTwo) := goodIn_app (goodIn_of _ (by decide +kernel)) ggX12_game_X12_areTwo
set_option maxRecDepth 20000 in
theorem ggX12_game_X12_mayTurn : GoodIn wsX12_game wsX12_mayTurn := goodIn_r _ [18, 19, 20, 21, 22, 23, 5, 24, 25, 39, 40, 41, 42, 43, 44, 45, 46, 47, 48, 49, 50, 51, 52, 53, 54, 55, 56, 57, 58, 59, 60, 61, 62, 63, 64, 65, 66, 67, 68, 69] (by decide +kernel) (by decide +kernel)
set_option maxRecDepth 20000 in
theorem gX12_game_X12_mayTurn : GoodIn wsX12_game (wsV RX12 101 RX12 yX12_mayTurn wsX12_mayTurn) := goodIn_app (goodIn_of _ (by decide +kernel)) ggX12_game_X12_mayTurn
set_option maxRecDepth 20000 in
theorem ggX12_game_X12_rests : GoodIn wsX12_game wsX12_rests := goodIn_r _ [29, 15, 16, 17, 5, 18, 19, 20, 21, 22, 23, 24, 25, 30, 31, 32, 33, 34, 35, 36, 37, 38, 39, 40, 41, 42, 43, 44, 45, 46, 47, 48, 49, 50, 51, 52, 53, 54, 55, 56, 57, 58, 59, 60, 61, 62, 63, 64, 65, 66, 67, 68, 69] (by decide +kernel) (by decide +kernel)
set_option maxRecDepth 20000 in
theorem gX12_game_X12_rests : GoodIn wsX12_game (wsV RX12 245 RX12 yX12_rests wsX12_rests) := goodIn_app (goodIn_of _ (by decide +kernel)) ggX12_game_X12_rests
theorem dX12_game_0 : decode cX12_game 0 = .ok (.aload_n 0, 1) := by decide +kernel
theorem dX12_game_1 : decode cX12_game 1 = .ok (.iconst 0, 1) := by decide +kernel
theorem dX12_game_2 : decode cX12_game 2 = .ok (.putfield 65, 3) := by decide +kernel
theorem dX12_game_5 : decode cX12_game 5 = .ok (.aload_n 0, 1) := by decide +kernel
theorem dX12_game_6 : decode cX12_game 6 = .ok (.iload_n 1, 1) := by decide +kernel
theorem dX12_game_7 : decode cX12_game 7 = .ok (.iload_n 2, 1) := by decide +kernel
theorem dX12_game_8 : decode cX12_game 8 = .ok (.invokevirtual 135, 3) := by decide +kernel
theorem dX12_game_11 : decode cX12_game 11 = .ok (.ifCond .ne 5, 3) := by decide +kernel
theorem dX12_game_14 : decode cX12_game 14 = .ok (.iconst (-1), 1) := by decide +kernel
theorem dX12_game_15 : decode cX12_game 15 = .ok (.ireturn, 1) := by decide +kernel
theorem dX12_game_16 : decode cX12_game 16 = .ok (.iconst 0, 1) := by decide +kernel
theorem dX12_game_17 : decode cX12_game 17 = .ok (.istore_n 3, 1) := by decide +kernel
theorem dX12_game_18 : decode cX12_game 18 = .ok (.iload_n 3, 1) := by decide +kernel
theorem dX12_game_19 : decode cX12_game 19 = .ok (.iconst 4, 1) := by decide +kernel
theorem dX12_game_20 : decode cX12_game 20 = .ok (.if_icmp .ge 94, 3) := by decide +kernel
theorem dX12_game_23 : decode cX12_game 23 = .ok (.iload_n 3, 1) := by decide +kernel
theorem dX12_game_24 : decode cX12_game 24 = .ok (.iconst 2, 1) := by decide +kernel
theorem dX12_game_25 : decode cX12_game 25 = .ok (.idiv, 1) := by decide +kernel
theorem dX12_game_26 : decode cX12_game 26 = .ok (.istore 4, 2) := by decide +kernel
theorem dX12_game_28 : decode cX12_game 28 = .ok (.iload_n 3, 1) := by decide +kernel
theorem dX12_game_29 : decode cX12_game 29 = .ok (.iconst 2, 1) := by decide +kernel
theorem dX12_game_30 : decode cX12_game 30 = .ok (.irem, 1) := by decide +kernel
theorem dX12_game_31 : decode cX12_game 31 = .ok (.istore 5, 2) := by decide +kernel
theorem dX12_game_33 : decode cX12_game 33 = .ok (.iload 4, 2) := by decide +kernel
theorem dX12_game_35 : decode cX12_game 35 = .ok (.ifCond .eq 12, 3) := by decide +kernel
theorem dX12_game_38 : decode cX12_game 38 = .ok (.aload_n 0, 1) := by decide +kernel
theorem dX12_game_39 : decode cX12_game 39 = .ok (.iload_n 1, 1) := by decide +kernel
theorem dX12_game_40 : decode cX12_game 40 = .ok (.iload_n 2, 1) := by decide +kernel
