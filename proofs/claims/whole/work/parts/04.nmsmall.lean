set_option maxRecDepth 20000 in
theorem ggX0_init_X6_init : GoodIn wsX0_init wsX6_init := goodIn_r _ [4, 5, 6, 7, 8, 9, 10, 11, 12, 13, 14, 15, 16] (by decide +kernel) (by decide +kernel)
set_option maxRecDepth 20000 in
theorem gX0_init_X6_init : GoodIn wsX0_init (wsX6_init) := ggX0_init_X6_init
theorem dX0_init_0 : decode cX0_init 0 = .ok (.aload_n 0, 1) := by decide +kernel
theorem dX0_init_1 : decode cX0_init 1 = .ok (.iload_n 1, 1) := by decide +kernel
theorem dX0_init_2 : decode cX0_init 2 = .ok (.invokespecial 1, 3) := by decide +kernel
theorem dX0_init_5 : decode cX0_init 5 = .ok (.return_, 1) := by decide +kernel
theorem dX0_number_0 : decode cX0_number 0 = .ok (.iconst 2, 1) := by decide +kernel
theorem dX0_number_1 : decode cX0_number 1 = .ok (.ireturn, 1) := by decide +kernel
set_option maxRecDepth 20000 in
theorem ggX0_grows_X6_grows : GoodIn wsX0_grows wsX6_grows := goodIn_r _ [8] (by decide +kernel) (by decide +kernel)
set_option maxRecDepth 20000 in
theorem gX0_grows_X6_grows_s7 : GoodIn wsX0_grows (va_wsSU RX0 7 yX6_grows wsX6_grows) := goodIn_app (goodIn_of _ (by decide +kernel)) ggX0_grows_X6_grows
theorem dX0_grows_0 : decode cX0_grows 0 = .ok (.aload_n 0, 1) := by decide +kernel
theorem dX0_grows_1 : decode cX0_grows 1 = .ok (.invokespecial 7, 3) := by decide +kernel
theorem dX0_grows_4 : decode cX0_grows 4 = .ok (.aload_n 0, 1) := by decide +kernel
theorem dX0_grows_5 : decode cX0_grows 5 = .ok (.getfield 11, 3) := by decide +kernel
theorem dX0_grows_8 : decode cX0_grows 8 = .ok (.iconst 3, 1) := by decide +kernel
theorem dX0_grows_9 : decode cX0_grows 9 = .ok (.idiv, 1) := by decide +kernel
theorem dX0_grows_10 : decode cX0_grows 10 = .ok (.iadd, 1) := by decide +kernel
theorem dX0_grows_11 : decode cX0_grows 11 = .ok (.ireturn, 1) := by decide +kernel
set_option maxRecDepth 20000 in
theorem ggX0_turns_X6_turns : GoodIn wsX0_turns wsX6_turns := goodIn_r _ [6] (by decide +kernel) (by decide +kernel)
set_option maxRecDepth 20000 in
theorem gX0_turns_X6_turns_s17 : GoodIn wsX0_turns (va_wsSU RX0 17 yX6_turns wsX6_turns) := goodIn_app (goodIn_of _ (by decide +kernel)) ggX0_turns_X6_turns
theorem dX0_turns_0 : decode cX0_turns 0 = .ok (.aload_n 0, 1) := by decide +kernel
theorem dX0_turns_1 : decode cX0_turns 1 = .ok (.invokespecial 17, 3) := by decide +kernel
theorem dX0_turns_4 : decode cX0_turns 4 = .ok (.iconst 1, 1) := by decide +kernel
theorem dX0_turns_5 : decode cX0_turns 5 = .ok (.iadd, 1) := by decide +kernel
theorem dX0_turns_6 : decode cX0_turns 6 = .ok (.ireturn, 1) := by decide +kernel
theorem dX0_shows_0 : decode cX0_shows 0 = .ok (.iload_n 1, 1) := by decide +kernel
theorem dX0_shows_1 : decode cX0_shows 1 = .ok (.ireturn, 1) := by decide +kernel
set_option maxRecDepth 20000 in
theorem ggX0_price_X6_price : GoodIn wsX0_price wsX6_price := goodIn_r _ [8] (by decide +kernel) (by decide +kernel)
set_option maxRecDepth 20000 in
theorem gX0_price_X6_price_s20 : GoodIn wsX0_price (va_wsSU RX0 20 yX6_price wsX6_price) := goodIn_app (goodIn_of _ (by decide +kernel)) ggX0_price_X6_price
theorem dX0_price_0 : decode cX0_price 0 = .ok (.aload_n 0, 1) := by decide +kernel
theorem dX0_price_1 : decode cX0_price 1 = .ok (.invokespecial 20, 3) := by decide +kernel
theorem dX0_price_4 : decode cX0_price 4 = .ok (.aload_n 0, 1) := by decide +kernel
theorem dX0_price_5 : decode cX0_price 5 = .ok (.getfield 11, 3) := by decide +kernel
theorem dX0_price_8 : decode cX0_price 8 = .ok (.iadd, 1) := by decide +kernel
theorem dX0_price_9 : decode cX0_price 9 = .ok (.ireturn, 1) := by decide +kernel
theorem dX0_fail_0 : decode cX0_fail 0 = .ok (.aload_n 0, 1) := by decide +kernel
theorem dX0_fail_1 : decode cX0_fail 1 = .ok (.getfield 11, 3) := by decide +kernel
theorem dX0_fail_4 : decode cX0_fail 4 = .ok (.ifCond .eq 13, 3) := by decide +kernel
theorem dX0_fail_7 : decode cX0_fail 7 = .ok (.new 23, 3) := by decide +kernel
theorem dX0_fail_10 : decode cX0_fail 10 = .ok (.dup, 1) := by decide +kernel
theorem dX0_fail_11 : decode cX0_fail 11 = .ok (.ldc 25, 2) := by decide +kernel
theorem dX0_fail_13 : decode cX0_fail 13 = .ok (.invokespecial 27, 3) := by decide +kernel
theorem dX0_fail_16 : decode cX0_fail 16 = .ok (.athrow, 1) := by decide +kernel
theorem dX0_fail_17 : decode cX0_fail 17 = .ok (.return_, 1) := by decide +kernel
set_option maxRecDepth 20000 in
theorem ggX1_init_X9_init : GoodIn wsX1_init wsX9_init := goodIn_r _ [4, 5, 6, 7, 8, 9, 10, 11, 12, 13, 14, 15, 16, 17, 18, 19, 20] (by decide +kernel) (by decide +kernel)
set_option maxRecDepth 20000 in
theorem gX1_init_X9_init : GoodIn wsX1_init (wsX9_init) := ggX1_init_X9_init
theorem dX1_init_0 : decode cX1_init 0 = .ok (.aload_n 0, 1) := by decide +kernel
theorem dX1_init_1 : decode cX1_init 1 = .ok (.iload_n 1, 1) := by decide +kernel
theorem dX1_init_2 : decode cX1_init 2 = .ok (.invokespecial 1, 3) := by decide +kernel
theorem dX1_init_5 : decode cX1_init 5 = .ok (.return_, 1) := by decide +kernel
theorem dX1_number_0 : decode cX1_number 0 = .ok (.iconst 3, 1) := by decide +kernel
theorem dX1_number_1 : decode cX1_number 1 = .ok (.ireturn, 1) := by decide +kernel
theorem dX1_grows_0 : decode cX1_grows 0 = .ok (.iconst 0, 1) := by decide +kernel
theorem dX1_grows_1 : decode cX1_grows 1 = .ok (.ireturn, 1) := by decide +kernel
set_option maxRecDepth 20000 in
theorem ggX1_bears_X9_bears : GoodIn wsX1_bears wsX9_bears := goodIn_r _ [6, 7, 8, 9, 10, 11, 12] (by decide +kernel) (by decide +kernel)
set_option maxRecDepth 20000 in
theorem gX1_bears_X9_bears_s7 : GoodIn wsX1_bears (va_wsSU RX1 7 yX9_bears wsX9_bears) := goodIn_app (goodIn_of _ (by decide +kernel)) ggX1_bears_X9_bears
theorem dX1_bears_0 : decode cX1_bears 0 = .ok (.aload_n 0, 1) := by decide +kernel
theorem dX1_bears_1 : decode cX1_bears 1 = .ok (.invokespecial 7, 3) := by decide +kernel
theorem dX1_bears_4 : decode cX1_bears 4 = .ok (.bipush 8, 2) := by decide +kernel
theorem dX1_bears_6 : decode cX1_bears 6 = .ok (.iadd, 1) := by decide +kernel
theorem dX1_bears_7 : decode cX1_bears 7 = .ok (.ireturn, 1) := by decide +kernel
theorem dX1_turns_0 : decode cX1_turns 0 = .ok (.aload_n 0, 1) := by decide +kernel
theorem dX1_turns_1 : decode cX1_turns 1 = .ok (.invokespecial 11, 3) := by decide +kernel
theorem dX1_turns_4 : decode cX1_turns 4 = .ok (.iconst 2, 1) := by decide +kernel
theorem dX1_turns_5 : decode cX1_turns 5 = .ok (.iadd, 1) := by decide +kernel
theorem dX1_turns_6 : decode cX1_turns 6 = .ok (.ireturn, 1) := by decide +kernel
set_option maxRecDepth 20000 in
theorem ggX1_price_X9_price : GoodIn wsX1_price wsX9_price := goodIn_r _ [6, 7, 8, 9, 10, 11, 12] (by decide +kernel) (by decide +kernel)
set_option maxRecDepth 20000 in
theorem gX1_price_X9_price_s14 : GoodIn wsX1_price (va_wsSU RX1 14 yX9_price wsX9_price) := goodIn_app (goodIn_of _ (by decide +kernel)) ggX1_price_X9_price
theorem dX1_price_0 : decode cX1_price 0 = .ok (.aload_n 0, 1) := by decide +kernel
theorem dX1_price_1 : decode cX1_price 1 = .ok (.invokespecial 14, 3) := by decide +kernel
theorem dX1_price_4 : decode cX1_price 4 = .ok (.iconst 2, 1) := by decide +kernel
theorem dX1_price_5 : decode cX1_price 5 = .ok (.idiv, 1) := by decide +kernel
theorem dX1_price_6 : decode cX1_price 6 = .ok (.ireturn, 1) := by decide +kernel
theorem dX1_fail_0 : decode cX1_fail 0 = .ok (.return_, 1) := by decide +kernel
theorem dX2_init_0 : decode cX2_init 0 = .ok (.aload_n 0, 1) := by decide +kernel
theorem dX2_init_1 : decode cX2_init 1 = .ok (.invokespecial 3, 3) := by decide +kernel
theorem dX2_init_4 : decode cX2_init 4 = .ok (.aload_n 0, 1) := by decide +kernel
theorem dX2_init_5 : decode cX2_init 5 = .ok (.bipush 7, 2) := by decide +kernel
theorem dX2_init_7 : decode cX2_init 7 = .ok (.newarray .int, 2) := by decide +kernel
theorem dX2_init_9 : decode cX2_init 9 = .ok (.putfield 9, 3) := by decide +kernel
theorem dX2_init_12 : decode cX2_init 12 = .ok (.aload_n 0, 1) := by decide +kernel
theorem dX2_init_13 : decode cX2_init 13 = .ok (.sipush 1024, 3) := by decide +kernel
theorem dX2_init_16 : decode cX2_init 16 = .ok (.newarray .int, 2) := by decide +kernel
theorem dX2_init_18 : decode cX2_init 18 = .ok (.putfield 15, 3) := by decide +kernel
theorem dX2_init_21 : decode cX2_init 21 = .ok (.aload_n 0, 1) := by decide +kernel
theorem dX2_init_22 : decode cX2_init 22 = .ok (.sipush 128, 3) := by decide +kernel
theorem dX2_init_25 : decode cX2_init 25 = .ok (.newarray .int, 2) := by decide +kernel
theorem dX2_init_27 : decode cX2_init 27 = .ok (.putfield 18, 3) := by decide +kernel
theorem dX2_init_30 : decode cX2_init 30 = .ok (.aload_n 0, 1) := by decide +kernel
theorem dX2_init_31 : decode cX2_init 31 = .ok (.iconst 0, 1) := by decide +kernel
theorem dX2_init_32 : decode cX2_init 32 = .ok (.putfield 21, 3) := by decide +kernel
theorem dX2_init_35 : decode cX2_init 35 = .ok (.return_, 1) := by decide +kernel
set_option maxRecDepth 20000 in
theorem ggX2_gather_X10_fitFor : GoodIn wsX2_gather wsX10_fitFor := goodIn_r _ [12, 13, 14, 15, 16, 11, 17, 18, 19, 20, 21, 22, 23, 24, 25, 26, 27, 28, 29, 30, 31, 32, 33, 34, 35, 36, 37, 38, 39, 40, 41, 42, 43, 44, 45, 46, 47, 48, 49, 50, 51, 52, 53, 54, 55, 56, 57, 58, 59, 60, 61, 62, 63, 64, 65, 66, 67, 68, 69, 70, 71, 72, 73, 74, 75, 76, 77, 78, 81, 82, 83, 84, 85, 86, 87] (by decide +kernel) (by decide +kernel)
set_option maxRecDepth 20000 in
theorem gX2_gather_X10_fitFor : GoodIn wsX2_gather (wsV RX2 34 RX10 yX10_fitFor wsX10_fitFor) := goodIn_app (goodIn_of _ (by decide +kernel)) ggX2_gather_X10_fitFor
set_option maxRecDepth 20000 in
theorem ggX2_gather_X11_write : GoodIn wsX2_gather wsX11_write := goodIn_r _ [80] (by decide +kernel) (by decide +kernel)
set_option maxRecDepth 20000 in
theorem gX2_gather_X11_write_n37 : GoodIn wsX2_gather (wsX11_write) := ggX2_gather_X11_write
theorem dX2_gather_0 : decode cX2_gather 0 = .ok (.aload_n 0, 1) := by decide +kernel
theorem dX2_gather_1 : decode cX2_gather 1 = .ok (.bipush 7, 2) := by decide +kernel
theorem dX2_gather_3 : decode cX2_gather 3 = .ok (.aload_n 1, 1) := by decide +kernel
theorem dX2_gather_4 : decode cX2_gather 4 = .ok (.getfield 25, 3) := by decide +kernel
theorem dX2_gather_7 : decode cX2_gather 7 = .ok (.invokestatic 28, 3) := by decide +kernel
theorem dX2_gather_10 : decode cX2_gather 10 = .ok (.putfield 21, 3) := by decide +kernel
theorem dX2_gather_13 : decode cX2_gather 13 = .ok (.iconst 0, 1) := by decide +kernel
theorem dX2_gather_14 : decode cX2_gather 14 = .ok (.istore_n 3, 1) := by decide +kernel
theorem dX2_gather_15 : decode cX2_gather 15 = .ok (.iload_n 3, 1) := by decide +kernel
theorem dX2_gather_16 : decode cX2_gather 16 = .ok (.aload_n 0, 1) := by decide +kernel
theorem dX2_gather_17 : decode cX2_gather 17 = .ok (.getfield 21, 3) := by decide +kernel
theorem dX2_gather_20 : decode cX2_gather 20 = .ok (.if_icmp .ge 23, 3) := by decide +kernel
theorem dX2_gather_23 : decode cX2_gather 23 = .ok (.aload_n 0, 1) := by decide +kernel
theorem dX2_gather_24 : decode cX2_gather 24 = .ok (.getfield 9, 3) := by decide +kernel
theorem dX2_gather_27 : decode cX2_gather 27 = .ok (.iload_n 3, 1) := by decide +kernel
theorem dX2_gather_28 : decode cX2_gather 28 = .ok (.aload_n 1, 1) := by decide +kernel
theorem dX2_gather_29 : decode cX2_gather 29 = .ok (.iload_n 3, 1) := by decide +kernel
theorem dX2_gather_30 : decode cX2_gather 30 = .ok (.iload_n 2, 1) := by decide +kernel
theorem dX2_gather_31 : decode cX2_gather 31 = .ok (.invokevirtual 34, 3) := by decide +kernel
theorem dX2_gather_34 : decode cX2_gather 34 = .ok (.invokestatic 37, 3) := by decide +kernel
theorem dX2_gather_37 : decode cX2_gather 37 = .ok (.iinc 3 1, 3) := by decide +kernel
theorem dX2_gather_40 : decode cX2_gather 40 = .ok (.goto (-25), 3) := by decide +kernel
theorem dX2_gather_43 : decode cX2_gather 43 = .ok (.return_, 1) := by decide +kernel
set_option maxRecDepth 20000 in
theorem ggX2_mostTold_X11_write : GoodIn wsX2_mostTold wsX11_write := goodIn_r _ [5] (by decide +kernel) (by decide +kernel)
set_option maxRecDepth 20000 in
theorem gX2_mostTold_X11_write_n37 : GoodIn wsX2_mostTold (wsX11_write) := ggX2_mostTold_X11_write
set_option maxRecDepth 20000 in
theorem ggX2_mostTold_J6_bitCount_0f7a4 : GoodIn wsX2_mostTold wsJ6_bitCount_0f7a4 := goodIn_r _ [9, 10, 11, 12] (by decide +kernel) (by decide +kernel)
set_option maxRecDepth 20000 in
theorem gX2_mostTold_J6_bitCount_0f7a4 : GoodIn wsX2_mostTold (va_wsS RX2 41 yJ6_bitCount_0f7a4 wsJ6_bitCount_0f7a4) := goodIn_app (goodIn_of _ (by decide +kernel)) ggX2_mostTold_J6_bitCount_0f7a4
set_option maxRecDepth 20000 in
theorem ggX2_mostTold_X2_mostFrom : GoodIn wsX2_mostTold wsX2_mostFrom := goodIn_r _ [17, 18, 1, 19, 20, 21, 22, 23, 24, 25, 16, 26, 2, 27, 4, 28, 29, 30, 31, 32] (by decide +kernel) (by decide +kernel)
set_option maxRecDepth 20000 in
theorem gX2_mostTold_X2_mostFrom : GoodIn wsX2_mostTold (wsV RX2 47 RX2 yX2_mostFrom wsX2_mostFrom) := goodIn_app (goodIn_of _ (by decide +kernel)) ggX2_mostTold_X2_mostFrom
set_option maxRecDepth 20000 in
theorem ggX2_mostTold_X2_mostAt : GoodIn wsX2_mostTold wsX2_mostAt := goodIn_r _ [26, 2, 27, 4, 28, 29, 30, 31, 32] (by decide +kernel) (by decide +kernel)
set_option maxRecDepth 20000 in
theorem gX2_mostTold_X2_mostAt : GoodIn wsX2_mostTold (wsV RX2 50 RX2 yX2_mostAt wsX2_mostAt) := goodIn_app (goodIn_of _ (by decide +kernel)) ggX2_mostTold_X2_mostAt
theorem dX2_mostTold_0 : decode cX2_mostTold 0 = .ok (.iconst 1, 1) := by decide +kernel
theorem dX2_mostTold_1 : decode cX2_mostTold 1 = .ok (.aload_n 0, 1) := by decide +kernel
theorem dX2_mostTold_2 : decode cX2_mostTold 2 = .ok (.getfield 21, 3) := by decide +kernel
theorem dX2_mostTold_5 : decode cX2_mostTold 5 = .ok (.ishl, 1) := by decide +kernel
theorem dX2_mostTold_6 : decode cX2_mostTold 6 = .ok (.istore_n 1, 1) := by decide +kernel
theorem dX2_mostTold_7 : decode cX2_mostTold 7 = .ok (.iconst 0, 1) := by decide +kernel
theorem dX2_mostTold_8 : decode cX2_mostTold 8 = .ok (.istore_n 2, 1) := by decide +kernel
theorem dX2_mostTold_9 : decode cX2_mostTold 9 = .ok (.iload_n 2, 1) := by decide +kernel
theorem dX2_mostTold_10 : decode cX2_mostTold 10 = .ok (.iload_n 1, 1) := by decide +kernel
theorem dX2_mostTold_11 : decode cX2_mostTold 11 = .ok (.if_icmp .ge 27, 3) := by decide +kernel
theorem dX2_mostTold_14 : decode cX2_mostTold 14 = .ok (.aload_n 0, 1) := by decide +kernel
theorem dX2_mostTold_15 : decode cX2_mostTold 15 = .ok (.getfield 15, 3) := by decide +kernel
theorem dX2_mostTold_18 : decode cX2_mostTold 18 = .ok (.aload_n 0, 1) := by decide +kernel
theorem dX2_mostTold_19 : decode cX2_mostTold 19 = .ok (.getfield 21, 3) := by decide +kernel
theorem dX2_mostTold_22 : decode cX2_mostTold 22 = .ok (.sipush 128, 3) := by decide +kernel
theorem dX2_mostTold_25 : decode cX2_mostTold 25 = .ok (.imul, 1) := by decide +kernel
theorem dX2_mostTold_26 : decode cX2_mostTold 26 = .ok (.iload_n 2, 1) := by decide +kernel
theorem dX2_mostTold_27 : decode cX2_mostTold 27 = .ok (.iadd, 1) := by decide +kernel
theorem dX2_mostTold_28 : decode cX2_mostTold 28 = .ok (.iconst 0, 1) := by decide +kernel
theorem dX2_mostTold_29 : decode cX2_mostTold 29 = .ok (.invokestatic 37, 3) := by decide +kernel
theorem dX2_mostTold_32 : decode cX2_mostTold 32 = .ok (.iinc 2 1, 3) := by decide +kernel
theorem dX2_mostTold_35 : decode cX2_mostTold 35 = .ok (.goto (-26), 3) := by decide +kernel
theorem dX2_mostTold_38 : decode cX2_mostTold 38 = .ok (.aload_n 0, 1) := by decide +kernel
theorem dX2_mostTold_39 : decode cX2_mostTold 39 = .ok (.getfield 21, 3) := by decide +kernel
theorem dX2_mostTold_42 : decode cX2_mostTold 42 = .ok (.iconst 1, 1) := by decide +kernel
theorem dX2_mostTold_43 : decode cX2_mostTold 43 = .ok (.isub, 1) := by decide +kernel
theorem dX2_mostTold_44 : decode cX2_mostTold 44 = .ok (.istore_n 2, 1) := by decide +kernel
theorem dX2_mostTold_45 : decode cX2_mostTold 45 = .ok (.iload_n 2, 1) := by decide +kernel
theorem dX2_mostTold_46 : decode cX2_mostTold 46 = .ok (.ifCond .lt 50, 3) := by decide +kernel
theorem dX2_mostTold_49 : decode cX2_mostTold 49 = .ok (.iconst 0, 1) := by decide +kernel
theorem dX2_mostTold_50 : decode cX2_mostTold 50 = .ok (.istore_n 3, 1) := by decide +kernel
theorem dX2_mostTold_51 : decode cX2_mostTold 51 = .ok (.iload_n 3, 1) := by decide +kernel
theorem dX2_mostTold_52 : decode cX2_mostTold 52 = .ok (.iload_n 1, 1) := by decide +kernel
theorem dX2_mostTold_53 : decode cX2_mostTold 53 = .ok (.if_icmp .ge 37, 3) := by decide +kernel
theorem dX2_mostTold_56 : decode cX2_mostTold 56 = .ok (.iload_n 3, 1) := by decide +kernel
theorem dX2_mostTold_57 : decode cX2_mostTold 57 = .ok (.invokestatic 41, 3) := by decide +kernel
theorem dX2_mostTold_60 : decode cX2_mostTold 60 = .ok (.iload_n 2, 1) := by decide +kernel
theorem dX2_mostTold_61 : decode cX2_mostTold 61 = .ok (.if_icmp .gt 23, 3) := by decide +kernel
theorem dX2_mostTold_64 : decode cX2_mostTold 64 = .ok (.aload_n 0, 1) := by decide +kernel
theorem dX2_mostTold_65 : decode cX2_mostTold 65 = .ok (.getfield 15, 3) := by decide +kernel
theorem dX2_mostTold_68 : decode cX2_mostTold 68 = .ok (.iload_n 2, 1) := by decide +kernel
theorem dX2_mostTold_69 : decode cX2_mostTold 69 = .ok (.sipush 128, 3) := by decide +kernel
theorem dX2_mostTold_72 : decode cX2_mostTold 72 = .ok (.imul, 1) := by decide +kernel
theorem dX2_mostTold_73 : decode cX2_mostTold 73 = .ok (.iload_n 3, 1) := by decide +kernel
theorem dX2_mostTold_74 : decode cX2_mostTold 74 = .ok (.iadd, 1) := by decide +kernel
theorem dX2_mostTold_75 : decode cX2_mostTold 75 = .ok (.aload_n 0, 1) := by decide +kernel
theorem dX2_mostTold_76 : decode cX2_mostTold 76 = .ok (.iload_n 2, 1) := by decide +kernel
theorem dX2_mostTold_77 : decode cX2_mostTold 77 = .ok (.iload_n 3, 1) := by decide +kernel
theorem dX2_mostTold_78 : decode cX2_mostTold 78 = .ok (.invokevirtual 47, 3) := by decide +kernel
theorem dX2_mostTold_81 : decode cX2_mostTold 81 = .ok (.invokestatic 37, 3) := by decide +kernel
theorem dX2_mostTold_84 : decode cX2_mostTold 84 = .ok (.iinc 3 1, 3) := by decide +kernel
theorem dX2_mostTold_87 : decode cX2_mostTold 87 = .ok (.goto (-36), 3) := by decide +kernel
theorem dX2_mostTold_90 : decode cX2_mostTold 90 = .ok (.iinc 2 (-1), 3) := by decide +kernel
theorem dX2_mostTold_93 : decode cX2_mostTold 93 = .ok (.goto (-48), 3) := by decide +kernel
theorem dX2_mostTold_96 : decode cX2_mostTold 96 = .ok (.aload_n 0, 1) := by decide +kernel
theorem dX2_mostTold_97 : decode cX2_mostTold 97 = .ok (.iconst 0, 1) := by decide +kernel
theorem dX2_mostTold_98 : decode cX2_mostTold 98 = .ok (.iconst 0, 1) := by decide +kernel
theorem dX2_mostTold_99 : decode cX2_mostTold 99 = .ok (.invokevirtual 50, 3) := by decide +kernel
theorem dX2_mostTold_102 : decode cX2_mostTold 102 = .ok (.ireturn, 1) := by decide +kernel
set_option maxRecDepth 20000 in
theorem ggX2_mostFrom_X2_mostAt : GoodIn wsX2_mostFrom wsX2_mostAt := goodIn_r _ [11, 12, 13, 14, 15, 16, 17, 18, 19] (by decide +kernel) (by decide +kernel)
set_option maxRecDepth 20000 in
theorem gX2_mostFrom_X2_mostAt : GoodIn wsX2_mostFrom (wsV RX2 50 RX2 yX2_mostAt wsX2_mostAt) := goodIn_app (goodIn_of _ (by decide +kernel)) ggX2_mostFrom_X2_mostAt
set_option maxRecDepth 20000 in
theorem ggX2_mostFrom_X11_read : GoodIn wsX2_mostFrom wsX11_read := goodIn_r _ [15] (by decide +kernel) (by decide +kernel)
set_option maxRecDepth 20000 in
theorem gX2_mostFrom_X11_read_n53 : GoodIn wsX2_mostFrom (wsX11_read) := ggX2_mostFrom_X11_read
theorem dX2_mostFrom_0 : decode cX2_mostFrom 0 = .ok (.aload_n 0, 1) := by decide +kernel
theorem dX2_mostFrom_1 : decode cX2_mostFrom 1 = .ok (.iload_n 1, 1) := by decide +kernel
theorem dX2_mostFrom_2 : decode cX2_mostFrom 2 = .ok (.iconst 1, 1) := by decide +kernel
theorem dX2_mostFrom_3 : decode cX2_mostFrom 3 = .ok (.iadd, 1) := by decide +kernel
theorem dX2_mostFrom_4 : decode cX2_mostFrom 4 = .ok (.iload_n 2, 1) := by decide +kernel
theorem dX2_mostFrom_5 : decode cX2_mostFrom 5 = .ok (.invokevirtual 50, 3) := by decide +kernel
theorem dX2_mostFrom_8 : decode cX2_mostFrom 8 = .ok (.istore_n 3, 1) := by decide +kernel
theorem dX2_mostFrom_9 : decode cX2_mostFrom 9 = .ok (.aload_n 0, 1) := by decide +kernel
theorem dX2_mostFrom_10 : decode cX2_mostFrom 10 = .ok (.getfield 9, 3) := by decide +kernel
theorem dX2_mostFrom_13 : decode cX2_mostFrom 13 = .ok (.iload_n 1, 1) := by decide +kernel
theorem dX2_mostFrom_14 : decode cX2_mostFrom 14 = .ok (.invokestatic 53, 3) := by decide +kernel
theorem dX2_mostFrom_17 : decode cX2_mostFrom 17 = .ok (.iload_n 2, 1) := by decide +kernel
theorem dX2_mostFrom_18 : decode cX2_mostFrom 18 = .ok (.iconst (-1), 1) := by decide +kernel
theorem dX2_mostFrom_19 : decode cX2_mostFrom 19 = .ok (.ixor, 1) := by decide +kernel
theorem dX2_mostFrom_20 : decode cX2_mostFrom 20 = .ok (.iand, 1) := by decide +kernel
theorem dX2_mostFrom_21 : decode cX2_mostFrom 21 = .ok (.istore 4, 2) := by decide +kernel
theorem dX2_mostFrom_23 : decode cX2_mostFrom 23 = .ok (.iconst 0, 1) := by decide +kernel
theorem dX2_mostFrom_24 : decode cX2_mostFrom 24 = .ok (.istore 5, 2) := by decide +kernel
theorem dX2_mostFrom_26 : decode cX2_mostFrom 26 = .ok (.iload 5, 2) := by decide +kernel
theorem dX2_mostFrom_28 : decode cX2_mostFrom 28 = .ok (.aload_n 0, 1) := by decide +kernel
theorem dX2_mostFrom_29 : decode cX2_mostFrom 29 = .ok (.getfield 21, 3) := by decide +kernel
theorem dX2_mostFrom_32 : decode cX2_mostFrom 32 = .ok (.if_icmp .ge 39, 3) := by decide +kernel
theorem dX2_mostFrom_35 : decode cX2_mostFrom 35 = .ok (.iload 4, 2) := by decide +kernel
theorem dX2_mostFrom_37 : decode cX2_mostFrom 37 = .ok (.iconst 1, 1) := by decide +kernel
theorem dX2_mostFrom_38 : decode cX2_mostFrom 38 = .ok (.iload 5, 2) := by decide +kernel
theorem dX2_mostFrom_40 : decode cX2_mostFrom 40 = .ok (.ishl, 1) := by decide +kernel
theorem dX2_mostFrom_41 : decode cX2_mostFrom 41 = .ok (.iand, 1) := by decide +kernel
theorem dX2_mostFrom_42 : decode cX2_mostFrom 42 = .ok (.ifCond .eq 23, 3) := by decide +kernel
theorem dX2_mostFrom_45 : decode cX2_mostFrom 45 = .ok (.iload_n 3, 1) := by decide +kernel
theorem dX2_mostFrom_46 : decode cX2_mostFrom 46 = .ok (.iconst 1, 1) := by decide +kernel
theorem dX2_mostFrom_47 : decode cX2_mostFrom 47 = .ok (.aload_n 0, 1) := by decide +kernel
theorem dX2_mostFrom_48 : decode cX2_mostFrom 48 = .ok (.iload_n 1, 1) := by decide +kernel
theorem dX2_mostFrom_49 : decode cX2_mostFrom 49 = .ok (.iconst 1, 1) := by decide +kernel
theorem dX2_mostFrom_50 : decode cX2_mostFrom 50 = .ok (.iadd, 1) := by decide +kernel
theorem dX2_mostFrom_51 : decode cX2_mostFrom 51 = .ok (.iload_n 2, 1) := by decide +kernel
theorem dX2_mostFrom_52 : decode cX2_mostFrom 52 = .ok (.iconst 1, 1) := by decide +kernel
theorem dX2_mostFrom_53 : decode cX2_mostFrom 53 = .ok (.iload 5, 2) := by decide +kernel
theorem dX2_mostFrom_55 : decode cX2_mostFrom 55 = .ok (.ishl, 1) := by decide +kernel
theorem dX2_mostFrom_56 : decode cX2_mostFrom 56 = .ok (.ior, 1) := by decide +kernel
theorem dX2_mostFrom_57 : decode cX2_mostFrom 57 = .ok (.invokevirtual 50, 3) := by decide +kernel
theorem dX2_mostFrom_60 : decode cX2_mostFrom 60 = .ok (.iadd, 1) := by decide +kernel
theorem dX2_mostFrom_61 : decode cX2_mostFrom 61 = .ok (.invokestatic 57, 3) := by decide +kernel
theorem dX2_mostFrom_64 : decode cX2_mostFrom 64 = .ok (.istore_n 3, 1) := by decide +kernel
theorem dX2_mostFrom_65 : decode cX2_mostFrom 65 = .ok (.iinc 5 1, 3) := by decide +kernel
theorem dX2_mostFrom_68 : decode cX2_mostFrom 68 = .ok (.goto (-42), 3) := by decide +kernel
theorem dX2_mostFrom_71 : decode cX2_mostFrom 71 = .ok (.iload_n 3, 1) := by decide +kernel
theorem dX2_mostFrom_72 : decode cX2_mostFrom 72 = .ok (.ireturn, 1) := by decide +kernel
set_option maxRecDepth 20000 in
theorem ggX2_mostAt_X11_read : GoodIn wsX2_mostAt wsX11_read := goodIn_r _ [4] (by decide +kernel) (by decide +kernel)
set_option maxRecDepth 20000 in
theorem gX2_mostAt_X11_read_n53 : GoodIn wsX2_mostAt (wsX11_read) := ggX2_mostAt_X11_read
theorem dX2_mostAt_0 : decode cX2_mostAt 0 = .ok (.aload_n 0, 1) := by decide +kernel
theorem dX2_mostAt_1 : decode cX2_mostAt 1 = .ok (.getfield 15, 3) := by decide +kernel
theorem dX2_mostAt_4 : decode cX2_mostAt 4 = .ok (.iload_n 1, 1) := by decide +kernel
theorem dX2_mostAt_5 : decode cX2_mostAt 5 = .ok (.sipush 128, 3) := by decide +kernel
theorem dX2_mostAt_8 : decode cX2_mostAt 8 = .ok (.imul, 1) := by decide +kernel
theorem dX2_mostAt_9 : decode cX2_mostAt 9 = .ok (.iload_n 2, 1) := by decide +kernel
theorem dX2_mostAt_10 : decode cX2_mostAt 10 = .ok (.iadd, 1) := by decide +kernel
theorem dX2_mostAt_11 : decode cX2_mostAt 11 = .ok (.invokestatic 53, 3) := by decide +kernel
theorem dX2_mostAt_14 : decode cX2_mostAt 14 = .ok (.ireturn, 1) := by decide +kernel
set_option maxRecDepth 20000 in
theorem ggX2_turnerOf_X2_firstTurner : GoodIn wsX2_turnerOf wsX2_firstTurner := goodIn_r _ [6, 7, 1, 8, 9, 10, 11, 12, 13, 5, 14, 15, 16, 17, 18, 19] (by decide +kernel) (by decide +kernel)
set_option maxRecDepth 20000 in
theorem gX2_turnerOf_X2_firstTurner : GoodIn wsX2_turnerOf (wsV RX2 60 RX2 yX2_firstTurner wsX2_firstTurner) := goodIn_app (goodIn_of _ (by decide +kernel)) ggX2_turnerOf_X2_firstTurner
theorem dX2_turnerOf_0 : decode cX2_turnerOf 0 = .ok (.iconst 0, 1) := by decide +kernel
theorem dX2_turnerOf_1 : decode cX2_turnerOf 1 = .ok (.istore_n 2, 1) := by decide +kernel
theorem dX2_turnerOf_2 : decode cX2_turnerOf 2 = .ok (.bipush 9, 2) := by decide +kernel
theorem dX2_turnerOf_4 : decode cX2_turnerOf 4 = .ok (.istore_n 3, 1) := by decide +kernel
theorem dX2_turnerOf_5 : decode cX2_turnerOf 5 = .ok (.iconst 0, 1) := by decide +kernel
theorem dX2_turnerOf_6 : decode cX2_turnerOf 6 = .ok (.istore 4, 2) := by decide +kernel
theorem dX2_turnerOf_8 : decode cX2_turnerOf 8 = .ok (.iload 4, 2) := by decide +kernel
theorem dX2_turnerOf_10 : decode cX2_turnerOf 10 = .ok (.iload_n 1, 1) := by decide +kernel
theorem dX2_turnerOf_11 : decode cX2_turnerOf 11 = .ok (.if_icmp .gt 42, 3) := by decide +kernel
theorem dX2_turnerOf_14 : decode cX2_turnerOf 14 = .ok (.iload 4, 2) := by decide +kernel
theorem dX2_turnerOf_16 : decode cX2_turnerOf 16 = .ok (.aload_n 0, 1) := by decide +kernel
theorem dX2_turnerOf_17 : decode cX2_turnerOf 17 = .ok (.getfield 21, 3) := by decide +kernel
theorem dX2_turnerOf_20 : decode cX2_turnerOf 20 = .ok (.if_icmp .ge 33, 3) := by decide +kernel
theorem dX2_turnerOf_23 : decode cX2_turnerOf 23 = .ok (.aload_n 0, 1) := by decide +kernel
theorem dX2_turnerOf_24 : decode cX2_turnerOf 24 = .ok (.iload 4, 2) := by decide +kernel
theorem dX2_turnerOf_26 : decode cX2_turnerOf 26 = .ok (.iload_n 2, 1) := by decide +kernel
theorem dX2_turnerOf_27 : decode cX2_turnerOf 27 = .ok (.invokevirtual 60, 3) := by decide +kernel
theorem dX2_turnerOf_30 : decode cX2_turnerOf 30 = .ok (.istore_n 3, 1) := by decide +kernel
theorem dX2_turnerOf_31 : decode cX2_turnerOf 31 = .ok (.iload_n 2, 1) := by decide +kernel
theorem dX2_turnerOf_32 : decode cX2_turnerOf 32 = .ok (.iload_n 3, 1) := by decide +kernel
theorem dX2_turnerOf_33 : decode cX2_turnerOf 33 = .ok (.bipush 9, 2) := by decide +kernel
theorem dX2_turnerOf_35 : decode cX2_turnerOf 35 = .ok (.if_icmp .ne 7, 3) := by decide +kernel
theorem dX2_turnerOf_38 : decode cX2_turnerOf 38 = .ok (.iconst 0, 1) := by decide +kernel
theorem dX2_turnerOf_39 : decode cX2_turnerOf 39 = .ok (.goto 6, 3) := by decide +kernel
theorem dX2_turnerOf_42 : decode cX2_turnerOf 42 = .ok (.iconst 1, 1) := by decide +kernel
theorem dX2_turnerOf_43 : decode cX2_turnerOf 43 = .ok (.iload_n 3, 1) := by decide +kernel
theorem dX2_turnerOf_44 : decode cX2_turnerOf 44 = .ok (.ishl, 1) := by decide +kernel
theorem dX2_turnerOf_45 : decode cX2_turnerOf 45 = .ok (.ior, 1) := by decide +kernel
theorem dX2_turnerOf_46 : decode cX2_turnerOf 46 = .ok (.istore_n 2, 1) := by decide +kernel
theorem dX2_turnerOf_47 : decode cX2_turnerOf 47 = .ok (.iinc 4 1, 3) := by decide +kernel
theorem dX2_turnerOf_50 : decode cX2_turnerOf 50 = .ok (.goto (-42), 3) := by decide +kernel
theorem dX2_turnerOf_53 : decode cX2_turnerOf 53 = .ok (.iload_n 3, 1) := by decide +kernel
theorem dX2_turnerOf_54 : decode cX2_turnerOf 54 = .ok (.ireturn, 1) := by decide +kernel
set_option maxRecDepth 20000 in
theorem ggX2_firstTurner_X11_read : GoodIn wsX2_firstTurner wsX11_read := goodIn_r _ [5] (by decide +kernel) (by decide +kernel)
set_option maxRecDepth 20000 in
theorem gX2_firstTurner_X11_read_n53 : GoodIn wsX2_firstTurner (wsX11_read) := ggX2_firstTurner_X11_read
set_option maxRecDepth 20000 in
theorem ggX2_firstTurner_X2_mostAt : GoodIn wsX2_firstTurner wsX2_mostAt := goodIn_r _ [10, 11, 3, 4, 5, 12, 13, 14, 15] (by decide +kernel) (by decide +kernel)
set_option maxRecDepth 20000 in
theorem gX2_firstTurner_X2_mostAt : GoodIn wsX2_firstTurner (wsV RX2 50 RX2 yX2_mostAt wsX2_mostAt) := goodIn_app (goodIn_of _ (by decide +kernel)) ggX2_firstTurner_X2_mostAt
theorem dX2_firstTurner_0 : decode cX2_firstTurner 0 = .ok (.aload_n 0, 1) := by decide +kernel
theorem dX2_firstTurner_1 : decode cX2_firstTurner 1 = .ok (.getfield 9, 3) := by decide +kernel
theorem dX2_firstTurner_4 : decode cX2_firstTurner 4 = .ok (.iload_n 1, 1) := by decide +kernel
theorem dX2_firstTurner_5 : decode cX2_firstTurner 5 = .ok (.invokestatic 53, 3) := by decide +kernel
theorem dX2_firstTurner_8 : decode cX2_firstTurner 8 = .ok (.iload_n 2, 1) := by decide +kernel
theorem dX2_firstTurner_9 : decode cX2_firstTurner 9 = .ok (.iconst (-1), 1) := by decide +kernel
theorem dX2_firstTurner_10 : decode cX2_firstTurner 10 = .ok (.ixor, 1) := by decide +kernel
theorem dX2_firstTurner_11 : decode cX2_firstTurner 11 = .ok (.iand, 1) := by decide +kernel
theorem dX2_firstTurner_12 : decode cX2_firstTurner 12 = .ok (.istore_n 3, 1) := by decide +kernel
theorem dX2_firstTurner_13 : decode cX2_firstTurner 13 = .ok (.iconst 0, 1) := by decide +kernel
theorem dX2_firstTurner_14 : decode cX2_firstTurner 14 = .ok (.istore 4, 2) := by decide +kernel
theorem dX2_firstTurner_16 : decode cX2_firstTurner 16 = .ok (.iload 4, 2) := by decide +kernel
theorem dX2_firstTurner_18 : decode cX2_firstTurner 18 = .ok (.aload_n 0, 1) := by decide +kernel
theorem dX2_firstTurner_19 : decode cX2_firstTurner 19 = .ok (.getfield 21, 3) := by decide +kernel
theorem dX2_firstTurner_22 : decode cX2_firstTurner 22 = .ok (.if_icmp .ge 45, 3) := by decide +kernel
theorem dX2_firstTurner_25 : decode cX2_firstTurner 25 = .ok (.iload_n 3, 1) := by decide +kernel
theorem dX2_firstTurner_26 : decode cX2_firstTurner 26 = .ok (.iconst 1, 1) := by decide +kernel
theorem dX2_firstTurner_27 : decode cX2_firstTurner 27 = .ok (.iload 4, 2) := by decide +kernel
theorem dX2_firstTurner_29 : decode cX2_firstTurner 29 = .ok (.ishl, 1) := by decide +kernel
theorem dX2_firstTurner_30 : decode cX2_firstTurner 30 = .ok (.iand, 1) := by decide +kernel
theorem dX2_firstTurner_31 : decode cX2_firstTurner 31 = .ok (.ifCond .eq 30, 3) := by decide +kernel
theorem dX2_firstTurner_34 : decode cX2_firstTurner 34 = .ok (.iconst 1, 1) := by decide +kernel
theorem dX2_firstTurner_35 : decode cX2_firstTurner 35 = .ok (.aload_n 0, 1) := by decide +kernel
theorem dX2_firstTurner_36 : decode cX2_firstTurner 36 = .ok (.iload_n 1, 1) := by decide +kernel
theorem dX2_firstTurner_37 : decode cX2_firstTurner 37 = .ok (.iconst 1, 1) := by decide +kernel
theorem dX2_firstTurner_38 : decode cX2_firstTurner 38 = .ok (.iadd, 1) := by decide +kernel
theorem dX2_firstTurner_39 : decode cX2_firstTurner 39 = .ok (.iload_n 2, 1) := by decide +kernel
theorem dX2_firstTurner_40 : decode cX2_firstTurner 40 = .ok (.iconst 1, 1) := by decide +kernel
theorem dX2_firstTurner_41 : decode cX2_firstTurner 41 = .ok (.iload 4, 2) := by decide +kernel
theorem dX2_firstTurner_43 : decode cX2_firstTurner 43 = .ok (.ishl, 1) := by decide +kernel
theorem dX2_firstTurner_44 : decode cX2_firstTurner 44 = .ok (.ior, 1) := by decide +kernel
theorem dX2_firstTurner_45 : decode cX2_firstTurner 45 = .ok (.invokevirtual 50, 3) := by decide +kernel
theorem dX2_firstTurner_48 : decode cX2_firstTurner 48 = .ok (.iadd, 1) := by decide +kernel
theorem dX2_firstTurner_49 : decode cX2_firstTurner 49 = .ok (.aload_n 0, 1) := by decide +kernel
theorem dX2_firstTurner_50 : decode cX2_firstTurner 50 = .ok (.iload_n 1, 1) := by decide +kernel
theorem dX2_firstTurner_51 : decode cX2_firstTurner 51 = .ok (.iload_n 2, 1) := by decide +kernel
theorem dX2_firstTurner_52 : decode cX2_firstTurner 52 = .ok (.invokevirtual 50, 3) := by decide +kernel
theorem dX2_firstTurner_55 : decode cX2_firstTurner 55 = .ok (.if_icmp .ne 6, 3) := by decide +kernel
theorem dX2_firstTurner_58 : decode cX2_firstTurner 58 = .ok (.iload 4, 2) := by decide +kernel
theorem dX2_firstTurner_60 : decode cX2_firstTurner 60 = .ok (.ireturn, 1) := by decide +kernel
theorem dX2_firstTurner_61 : decode cX2_firstTurner 61 = .ok (.iinc 4 1, 3) := by decide +kernel
theorem dX2_firstTurner_64 : decode cX2_firstTurner 64 = .ok (.goto (-48), 3) := by decide +kernel
theorem dX2_firstTurner_67 : decode cX2_firstTurner 67 = .ok (.bipush 9, 2) := by decide +kernel
theorem dX2_firstTurner_69 : decode cX2_firstTurner 69 = .ok (.ireturn, 1) := by decide +kernel
set_option maxRecDepth 20000 in
theorem ggX2_waysForAll_X11_write : GoodIn wsX2_waysForAll wsX11_write := goodIn_r _ [6] (by decide +kernel) (by decide +kernel)
set_option maxRecDepth 20000 in
theorem gX2_waysForAll_X11_write_n37 : GoodIn wsX2_waysForAll (wsX11_write) := ggX2_waysForAll_X11_write
set_option maxRecDepth 20000 in
theorem ggX2_waysForAll_J6_bitCount_0f7a4 : GoodIn wsX2_waysForAll wsJ6_bitCount_0f7a4 := goodIn_r _ [10, 11, 12, 13] (by decide +kernel) (by decide +kernel)
set_option maxRecDepth 20000 in
theorem gX2_waysForAll_J6_bitCount_0f7a4 : GoodIn wsX2_waysForAll (va_wsS RX2 41 yJ6_bitCount_0f7a4 wsJ6_bitCount_0f7a4) := goodIn_app (goodIn_of _ (by decide +kernel)) ggX2_waysForAll_J6_bitCount_0f7a4
set_option maxRecDepth 20000 in
theorem ggX2_waysForAll_X11_read : GoodIn wsX2_waysForAll wsX11_read := goodIn_r _ [15] (by decide +kernel) (by decide +kernel)
set_option maxRecDepth 20000 in
theorem gX2_waysForAll_X11_read_n53 : GoodIn wsX2_waysForAll (wsX11_read) := ggX2_waysForAll_X11_read
theorem dX2_waysForAll_0 : decode cX2_waysForAll 0 = .ok (.iconst 1, 1) := by decide +kernel
theorem dX2_waysForAll_1 : decode cX2_waysForAll 1 = .ok (.aload_n 0, 1) := by decide +kernel
theorem dX2_waysForAll_2 : decode cX2_waysForAll 2 = .ok (.getfield 21, 3) := by decide +kernel
theorem dX2_waysForAll_5 : decode cX2_waysForAll 5 = .ok (.ishl, 1) := by decide +kernel
theorem dX2_waysForAll_6 : decode cX2_waysForAll 6 = .ok (.istore_n 1, 1) := by decide +kernel
theorem dX2_waysForAll_7 : decode cX2_waysForAll 7 = .ok (.iconst 0, 1) := by decide +kernel
theorem dX2_waysForAll_8 : decode cX2_waysForAll 8 = .ok (.istore_n 2, 1) := by decide +kernel
theorem dX2_waysForAll_9 : decode cX2_waysForAll 9 = .ok (.iload_n 2, 1) := by decide +kernel
theorem dX2_waysForAll_10 : decode cX2_waysForAll 10 = .ok (.iload_n 1, 1) := by decide +kernel
theorem dX2_waysForAll_11 : decode cX2_waysForAll 11 = .ok (.if_icmp .ge 26, 3) := by decide +kernel
theorem dX2_waysForAll_14 : decode cX2_waysForAll 14 = .ok (.aload_n 0, 1) := by decide +kernel
theorem dX2_waysForAll_15 : decode cX2_waysForAll 15 = .ok (.getfield 18, 3) := by decide +kernel
theorem dX2_waysForAll_18 : decode cX2_waysForAll 18 = .ok (.iload_n 2, 1) := by decide +kernel
theorem dX2_waysForAll_19 : decode cX2_waysForAll 19 = .ok (.iload_n 2, 1) := by decide +kernel
theorem dX2_waysForAll_20 : decode cX2_waysForAll 20 = .ok (.ifCond .ne 7, 3) := by decide +kernel
theorem dX2_waysForAll_23 : decode cX2_waysForAll 23 = .ok (.iconst 1, 1) := by decide +kernel
theorem dX2_waysForAll_24 : decode cX2_waysForAll 24 = .ok (.goto 4, 3) := by decide +kernel
theorem dX2_waysForAll_27 : decode cX2_waysForAll 27 = .ok (.iconst 0, 1) := by decide +kernel
theorem dX2_waysForAll_28 : decode cX2_waysForAll 28 = .ok (.invokestatic 37, 3) := by decide +kernel
theorem dX2_waysForAll_31 : decode cX2_waysForAll 31 = .ok (.iinc 2 1, 3) := by decide +kernel
theorem dX2_waysForAll_34 : decode cX2_waysForAll 34 = .ok (.goto (-25), 3) := by decide +kernel
theorem dX2_waysForAll_37 : decode cX2_waysForAll 37 = .ok (.iconst 0, 1) := by decide +kernel
theorem dX2_waysForAll_38 : decode cX2_waysForAll 38 = .ok (.istore_n 2, 1) := by decide +kernel
theorem dX2_waysForAll_39 : decode cX2_waysForAll 39 = .ok (.iload_n 2, 1) := by decide +kernel
theorem dX2_waysForAll_40 : decode cX2_waysForAll 40 = .ok (.iload_n 1, 1) := by decide +kernel
theorem dX2_waysForAll_41 : decode cX2_waysForAll 41 = .ok (.iconst 1, 1) := by decide +kernel
theorem dX2_waysForAll_42 : decode cX2_waysForAll 42 = .ok (.isub, 1) := by decide +kernel
theorem dX2_waysForAll_43 : decode cX2_waysForAll 43 = .ok (.if_icmp .ge 87, 3) := by decide +kernel
theorem dX2_waysForAll_46 : decode cX2_waysForAll 46 = .ok (.aload_n 0, 1) := by decide +kernel
theorem dX2_waysForAll_47 : decode cX2_waysForAll 47 = .ok (.getfield 9, 3) := by decide +kernel
theorem dX2_waysForAll_50 : decode cX2_waysForAll 50 = .ok (.iload_n 2, 1) := by decide +kernel
theorem dX2_waysForAll_51 : decode cX2_waysForAll 51 = .ok (.invokestatic 41, 3) := by decide +kernel
theorem dX2_waysForAll_54 : decode cX2_waysForAll 54 = .ok (.invokestatic 53, 3) := by decide +kernel
theorem dX2_waysForAll_57 : decode cX2_waysForAll 57 = .ok (.iload_n 2, 1) := by decide +kernel
theorem dX2_waysForAll_58 : decode cX2_waysForAll 58 = .ok (.iconst (-1), 1) := by decide +kernel
theorem dX2_waysForAll_59 : decode cX2_waysForAll 59 = .ok (.ixor, 1) := by decide +kernel
theorem dX2_waysForAll_60 : decode cX2_waysForAll 60 = .ok (.iand, 1) := by decide +kernel
theorem dX2_waysForAll_61 : decode cX2_waysForAll 61 = .ok (.istore_n 3, 1) := by decide +kernel
theorem dX2_waysForAll_62 : decode cX2_waysForAll 62 = .ok (.iconst 0, 1) := by decide +kernel
theorem dX2_waysForAll_63 : decode cX2_waysForAll 63 = .ok (.istore 4, 2) := by decide +kernel
theorem dX2_waysForAll_65 : decode cX2_waysForAll 65 = .ok (.iload 4, 2) := by decide +kernel
theorem dX2_waysForAll_67 : decode cX2_waysForAll 67 = .ok (.aload_n 0, 1) := by decide +kernel
theorem dX2_waysForAll_68 : decode cX2_waysForAll 68 = .ok (.getfield 21, 3) := by decide +kernel
theorem dX2_waysForAll_71 : decode cX2_waysForAll 71 = .ok (.if_icmp .ge 53, 3) := by decide +kernel
theorem dX2_waysForAll_74 : decode cX2_waysForAll 74 = .ok (.iload_n 3, 1) := by decide +kernel
theorem dX2_waysForAll_75 : decode cX2_waysForAll 75 = .ok (.iconst 1, 1) := by decide +kernel
theorem dX2_waysForAll_76 : decode cX2_waysForAll 76 = .ok (.iload 4, 2) := by decide +kernel
theorem dX2_waysForAll_78 : decode cX2_waysForAll 78 = .ok (.ishl, 1) := by decide +kernel
theorem dX2_waysForAll_79 : decode cX2_waysForAll 79 = .ok (.iand, 1) := by decide +kernel
theorem dX2_waysForAll_80 : decode cX2_waysForAll 80 = .ok (.ifCond .eq 38, 3) := by decide +kernel
theorem dX2_waysForAll_83 : decode cX2_waysForAll 83 = .ok (.iload_n 2, 1) := by decide +kernel
theorem dX2_waysForAll_84 : decode cX2_waysForAll 84 = .ok (.iconst 1, 1) := by decide +kernel
theorem dX2_waysForAll_85 : decode cX2_waysForAll 85 = .ok (.iload 4, 2) := by decide +kernel
theorem dX2_waysForAll_87 : decode cX2_waysForAll 87 = .ok (.ishl, 1) := by decide +kernel
theorem dX2_waysForAll_88 : decode cX2_waysForAll 88 = .ok (.ior, 1) := by decide +kernel
theorem dX2_waysForAll_89 : decode cX2_waysForAll 89 = .ok (.istore 5, 2) := by decide +kernel
theorem dX2_waysForAll_91 : decode cX2_waysForAll 91 = .ok (.aload_n 0, 1) := by decide +kernel
theorem dX2_waysForAll_92 : decode cX2_waysForAll 92 = .ok (.getfield 18, 3) := by decide +kernel
theorem dX2_waysForAll_95 : decode cX2_waysForAll 95 = .ok (.iload 5, 2) := by decide +kernel
theorem dX2_waysForAll_97 : decode cX2_waysForAll 97 = .ok (.aload_n 0, 1) := by decide +kernel
theorem dX2_waysForAll_98 : decode cX2_waysForAll 98 = .ok (.getfield 18, 3) := by decide +kernel
theorem dX2_waysForAll_101 : decode cX2_waysForAll 101 = .ok (.iload 5, 2) := by decide +kernel
theorem dX2_waysForAll_103 : decode cX2_waysForAll 103 = .ok (.invokestatic 53, 3) := by decide +kernel
theorem dX2_waysForAll_106 : decode cX2_waysForAll 106 = .ok (.aload_n 0, 1) := by decide +kernel
theorem dX2_waysForAll_107 : decode cX2_waysForAll 107 = .ok (.getfield 18, 3) := by decide +kernel
theorem dX2_waysForAll_110 : decode cX2_waysForAll 110 = .ok (.iload_n 2, 1) := by decide +kernel
theorem dX2_waysForAll_111 : decode cX2_waysForAll 111 = .ok (.invokestatic 53, 3) := by decide +kernel
theorem dX2_waysForAll_114 : decode cX2_waysForAll 114 = .ok (.iadd, 1) := by decide +kernel
theorem dX2_waysForAll_115 : decode cX2_waysForAll 115 = .ok (.invokestatic 37, 3) := by decide +kernel
theorem dX2_waysForAll_118 : decode cX2_waysForAll 118 = .ok (.iinc 4 1, 3) := by decide +kernel
theorem dX2_waysForAll_121 : decode cX2_waysForAll 121 = .ok (.goto (-56), 3) := by decide +kernel
theorem dX2_waysForAll_124 : decode cX2_waysForAll 124 = .ok (.iinc 2 1, 3) := by decide +kernel
theorem dX2_waysForAll_127 : decode cX2_waysForAll 127 = .ok (.goto (-88), 3) := by decide +kernel
theorem dX2_waysForAll_130 : decode cX2_waysForAll 130 = .ok (.aload_n 0, 1) := by decide +kernel
theorem dX2_waysForAll_131 : decode cX2_waysForAll 131 = .ok (.getfield 18, 3) := by decide +kernel
theorem dX2_waysForAll_134 : decode cX2_waysForAll 134 = .ok (.iload_n 1, 1) := by decide +kernel
theorem dX2_waysForAll_135 : decode cX2_waysForAll 135 = .ok (.iconst 1, 1) := by decide +kernel
theorem dX2_waysForAll_136 : decode cX2_waysForAll 136 = .ok (.isub, 1) := by decide +kernel
theorem dX2_waysForAll_137 : decode cX2_waysForAll 137 = .ok (.invokestatic 53, 3) := by decide +kernel
theorem dX2_waysForAll_140 : decode cX2_waysForAll 140 = .ok (.ireturn, 1) := by decide +kernel
set_option maxRecDepth 20000 in
theorem ggX3_init_X0_init : GoodIn wsX3_init wsX0_init := goodIn_r _ [4, 5, 6, 7, 8, 9, 10, 11, 12, 13, 14, 15, 16, 17, 18, 19, 20] (by decide +kernel) (by decide +kernel)
set_option maxRecDepth 20000 in
theorem gX3_init_X0_init : GoodIn wsX3_init (wsX0_init) := ggX3_init_X0_init
theorem dX3_init_0 : decode cX3_init 0 = .ok (.aload_n 0, 1) := by decide +kernel
theorem dX3_init_1 : decode cX3_init 1 = .ok (.iload_n 1, 1) := by decide +kernel
theorem dX3_init_2 : decode cX3_init 2 = .ok (.invokespecial 1, 3) := by decide +kernel
theorem dX3_init_5 : decode cX3_init 5 = .ok (.return_, 1) := by decide +kernel
theorem dX3_number_0 : decode cX3_number 0 = .ok (.bipush 6, 2) := by decide +kernel
theorem dX3_number_2 : decode cX3_number 2 = .ok (.ireturn, 1) := by decide +kernel
set_option maxRecDepth 20000 in
theorem ggX3_grows_X0_grows : GoodIn wsX3_grows wsX0_grows := goodIn_r _ [6, 7, 8, 9, 10, 11, 12, 13, 14, 15, 16, 17, 18, 19, 20, 21, 22] (by decide +kernel) (by decide +kernel)
set_option maxRecDepth 20000 in
theorem gX3_grows_X0_grows_s7 : GoodIn wsX3_grows (va_wsSU RX3 7 yX0_grows wsX0_grows) := goodIn_app (goodIn_of _ (by decide +kernel)) ggX3_grows_X0_grows
theorem dX3_grows_0 : decode cX3_grows 0 = .ok (.aload_n 0, 1) := by decide +kernel
theorem dX3_grows_1 : decode cX3_grows 1 = .ok (.invokespecial 7, 3) := by decide +kernel
theorem dX3_grows_4 : decode cX3_grows 4 = .ok (.iconst 2, 1) := by decide +kernel
theorem dX3_grows_5 : decode cX3_grows 5 = .ok (.idiv, 1) := by decide +kernel
theorem dX3_grows_6 : decode cX3_grows 6 = .ok (.ireturn, 1) := by decide +kernel
set_option maxRecDepth 20000 in
theorem ggX3_turns_X0_turns : GoodIn wsX3_turns wsX0_turns := goodIn_r _ [8, 9, 10, 11, 12, 13, 14] (by decide +kernel) (by decide +kernel)
set_option maxRecDepth 20000 in
theorem gX3_turns_X0_turns_s11 : GoodIn wsX3_turns (va_wsSU RX3 11 yX0_turns wsX0_turns) := goodIn_app (goodIn_of _ (by decide +kernel)) ggX3_turns_X0_turns
theorem dX3_turns_0 : decode cX3_turns 0 = .ok (.aload_n 0, 1) := by decide +kernel
theorem dX3_turns_1 : decode cX3_turns 1 = .ok (.invokespecial 11, 3) := by decide +kernel
theorem dX3_turns_4 : decode cX3_turns 4 = .ok (.aload_n 0, 1) := by decide +kernel
theorem dX3_turns_5 : decode cX3_turns 5 = .ok (.getfield 14, 3) := by decide +kernel
theorem dX3_turns_8 : decode cX3_turns 8 = .ok (.iconst 3, 1) := by decide +kernel
theorem dX3_turns_9 : decode cX3_turns 9 = .ok (.idiv, 1) := by decide +kernel
theorem dX3_turns_10 : decode cX3_turns 10 = .ok (.iadd, 1) := by decide +kernel
theorem dX3_turns_11 : decode cX3_turns 11 = .ok (.ireturn, 1) := by decide +kernel
theorem dX3_shows_0 : decode cX3_shows 0 = .ok (.iload_n 1, 1) := by decide +kernel
theorem dX3_shows_1 : decode cX3_shows 1 = .ok (.iconst 2, 1) := by decide +kernel
theorem dX3_shows_2 : decode cX3_shows 2 = .ok (.idiv, 1) := by decide +kernel
theorem dX3_shows_3 : decode cX3_shows 3 = .ok (.ireturn, 1) := by decide +kernel
set_option maxRecDepth 20000 in
theorem ggX3_price_X0_price : GoodIn wsX3_price wsX0_price := goodIn_r _ [6, 7, 8, 9, 10, 11, 12, 13, 14, 15, 16, 17, 18, 19, 20, 21, 22] (by decide +kernel) (by decide +kernel)
set_option maxRecDepth 20000 in
theorem gX3_price_X0_price_s20 : GoodIn wsX3_price (va_wsSU RX3 20 yX0_price wsX0_price) := goodIn_app (goodIn_of _ (by decide +kernel)) ggX3_price_X0_price
theorem dX3_price_0 : decode cX3_price 0 = .ok (.iconst 2, 1) := by decide +kernel
theorem dX3_price_1 : decode cX3_price 1 = .ok (.aload_n 0, 1) := by decide +kernel
theorem dX3_price_2 : decode cX3_price 2 = .ok (.invokespecial 20, 3) := by decide +kernel
theorem dX3_price_5 : decode cX3_price 5 = .ok (.imul, 1) := by decide +kernel
theorem dX3_price_6 : decode cX3_price 6 = .ok (.ireturn, 1) := by decide +kernel
theorem dX3_fail_0 : decode cX3_fail 0 = .ok (.aload_n 0, 1) := by decide +kernel
theorem dX3_fail_1 : decode cX3_fail 1 = .ok (.getfield 14, 3) := by decide +kernel
theorem dX3_fail_4 : decode cX3_fail 4 = .ok (.ifCond .eq 13, 3) := by decide +kernel
theorem dX3_fail_7 : decode cX3_fail 7 = .ok (.new 23, 3) := by decide +kernel
theorem dX3_fail_10 : decode cX3_fail 10 = .ok (.dup, 1) := by decide +kernel
theorem dX3_fail_11 : decode cX3_fail 11 = .ok (.ldc 25, 2) := by decide +kernel
theorem dX3_fail_13 : decode cX3_fail 13 = .ok (.invokespecial 27, 3) := by decide +kernel
theorem dX3_fail_16 : decode cX3_fail 16 = .ok (.athrow, 1) := by decide +kernel
theorem dX3_fail_17 : decode cX3_fail 17 = .ok (.return_, 1) := by decide +kernel
set_option maxRecDepth 20000 in
theorem ggX4_init_X6_init : GoodIn wsX4_init wsX6_init := goodIn_r _ [4, 5, 6, 7, 8, 9, 10, 11, 12, 13, 14, 15, 16] (by decide +kernel) (by decide +kernel)
set_option maxRecDepth 20000 in
theorem gX4_init_X6_init : GoodIn wsX4_init (wsX6_init) := ggX4_init_X6_init
theorem dX4_init_0 : decode cX4_init 0 = .ok (.aload_n 0, 1) := by decide +kernel
theorem dX4_init_1 : decode cX4_init 1 = .ok (.iload_n 1, 1) := by decide +kernel
theorem dX4_init_2 : decode cX4_init 2 = .ok (.invokespecial 1, 3) := by decide +kernel
theorem dX4_init_5 : decode cX4_init 5 = .ok (.return_, 1) := by decide +kernel
theorem dX4_number_0 : decode cX4_number 0 = .ok (.iconst 4, 1) := by decide +kernel
theorem dX4_number_1 : decode cX4_number 1 = .ok (.ireturn, 1) := by decide +kernel
theorem dX4_grows_0 : decode cX4_grows 0 = .ok (.aload_n 0, 1) := by decide +kernel
theorem dX4_grows_1 : decode cX4_grows 1 = .ok (.getfield 7, 3) := by decide +kernel
theorem dX4_grows_4 : decode cX4_grows 4 = .ok (.iconst 2, 1) := by decide +kernel
theorem dX4_grows_5 : decode cX4_grows 5 = .ok (.idiv, 1) := by decide +kernel
theorem dX4_grows_6 : decode cX4_grows 6 = .ok (.ireturn, 1) := by decide +kernel
theorem dX4_bears_0 : decode cX4_bears 0 = .ok (.iconst (-1), 1) := by decide +kernel
theorem dX4_bears_1 : decode cX4_bears 1 = .ok (.ireturn, 1) := by decide +kernel
set_option maxRecDepth 20000 in
theorem ggX4_price_X6_price : GoodIn wsX4_price wsX6_price := goodIn_r _ [6] (by decide +kernel) (by decide +kernel)
set_option maxRecDepth 20000 in
theorem gX4_price_X6_price_s13 : GoodIn wsX4_price (va_wsSU RX4 13 yX6_price wsX6_price) := goodIn_app (goodIn_of _ (by decide +kernel)) ggX4_price_X6_price
theorem dX4_price_0 : decode cX4_price 0 = .ok (.aload_n 0, 1) := by decide +kernel
theorem dX4_price_1 : decode cX4_price 1 = .ok (.invokespecial 13, 3) := by decide +kernel
theorem dX4_price_4 : decode cX4_price 4 = .ok (.bipush 8, 2) := by decide +kernel
theorem dX4_price_6 : decode cX4_price 6 = .ok (.iadd, 1) := by decide +kernel
theorem dX4_price_7 : decode cX4_price 7 = .ok (.ireturn, 1) := by decide +kernel
set_option maxRecDepth 20000 in
theorem ggX5_init_X9_init : GoodIn wsX5_init wsX9_init := goodIn_r _ [4, 5, 6, 7, 8, 9, 10, 11, 12, 13, 14, 15, 16, 17, 18, 19, 20] (by decide +kernel) (by decide +kernel)
set_option maxRecDepth 20000 in
theorem gX5_init_X9_init : GoodIn wsX5_init (wsX9_init) := ggX5_init_X9_init
theorem dX5_init_0 : decode cX5_init 0 = .ok (.aload_n 0, 1) := by decide +kernel
theorem dX5_init_1 : decode cX5_init 1 = .ok (.iload_n 1, 1) := by decide +kernel
theorem dX5_init_2 : decode cX5_init 2 = .ok (.invokespecial 1, 3) := by decide +kernel
theorem dX5_init_5 : decode cX5_init 5 = .ok (.return_, 1) := by decide +kernel
theorem dX5_number_0 : decode cX5_number 0 = .ok (.iconst 5, 1) := by decide +kernel
theorem dX5_number_1 : decode cX5_number 1 = .ok (.ireturn, 1) := by decide +kernel
set_option maxRecDepth 20000 in
theorem ggX5_grows_X9_grows : GoodIn wsX5_grows wsX9_grows := goodIn_r _ [8, 9, 10, 11, 12, 13, 14] (by decide +kernel) (by decide +kernel)
set_option maxRecDepth 20000 in
theorem gX5_grows_X9_grows_s7 : GoodIn wsX5_grows (va_wsSU RX5 7 yX9_grows wsX9_grows) := goodIn_app (goodIn_of _ (by decide +kernel)) ggX5_grows_X9_grows
theorem dX5_grows_0 : decode cX5_grows 0 = .ok (.aload_n 0, 1) := by decide +kernel
theorem dX5_grows_1 : decode cX5_grows 1 = .ok (.invokespecial 7, 3) := by decide +kernel
theorem dX5_grows_4 : decode cX5_grows 4 = .ok (.aload_n 0, 1) := by decide +kernel
theorem dX5_grows_5 : decode cX5_grows 5 = .ok (.getfield 11, 3) := by decide +kernel
theorem dX5_grows_8 : decode cX5_grows 8 = .ok (.iconst 4, 1) := by decide +kernel
theorem dX5_grows_9 : decode cX5_grows 9 = .ok (.idiv, 1) := by decide +kernel
theorem dX5_grows_10 : decode cX5_grows 10 = .ok (.iadd, 1) := by decide +kernel
theorem dX5_grows_11 : decode cX5_grows 11 = .ok (.ireturn, 1) := by decide +kernel
set_option maxRecDepth 20000 in
theorem ggX5_bears_X9_bears : GoodIn wsX5_bears wsX9_bears := goodIn_r _ [6, 7, 8, 9, 10, 11, 12] (by decide +kernel) (by decide +kernel)
set_option maxRecDepth 20000 in
theorem gX5_bears_X9_bears_s17 : GoodIn wsX5_bears (va_wsSU RX5 17 yX9_bears wsX9_bears) := goodIn_app (goodIn_of _ (by decide +kernel)) ggX5_bears_X9_bears
theorem dX5_bears_0 : decode cX5_bears 0 = .ok (.aload_n 0, 1) := by decide +kernel
theorem dX5_bears_1 : decode cX5_bears 1 = .ok (.invokespecial 17, 3) := by decide +kernel
theorem dX5_bears_4 : decode cX5_bears 4 = .ok (.iconst 1, 1) := by decide +kernel
theorem dX5_bears_5 : decode cX5_bears 5 = .ok (.iadd, 1) := by decide +kernel
theorem dX5_bears_6 : decode cX5_bears 6 = .ok (.ireturn, 1) := by decide +kernel
theorem dX5_turns_0 : decode cX5_turns 0 = .ok (.iconst 1, 1) := by decide +kernel
theorem dX5_turns_1 : decode cX5_turns 1 = .ok (.ireturn, 1) := by decide +kernel
set_option maxRecDepth 20000 in
theorem ggX5_price_X9_price : GoodIn wsX5_price wsX9_price := goodIn_r _ [8, 9, 10, 11, 12, 13, 14] (by decide +kernel) (by decide +kernel)
set_option maxRecDepth 20000 in
theorem gX5_price_X9_price_s20 : GoodIn wsX5_price (va_wsSU RX5 20 yX9_price wsX9_price) := goodIn_app (goodIn_of _ (by decide +kernel)) ggX5_price_X9_price
theorem dX5_price_0 : decode cX5_price 0 = .ok (.aload_n 0, 1) := by decide +kernel
theorem dX5_price_1 : decode cX5_price 1 = .ok (.invokespecial 20, 3) := by decide +kernel
theorem dX5_price_4 : decode cX5_price 4 = .ok (.aload_n 0, 1) := by decide +kernel
theorem dX5_price_5 : decode cX5_price 5 = .ok (.getfield 11, 3) := by decide +kernel
theorem dX5_price_8 : decode cX5_price 8 = .ok (.iadd, 1) := by decide +kernel
theorem dX5_price_9 : decode cX5_price 9 = .ok (.ireturn, 1) := by decide +kernel
theorem dX6_init_0 : decode cX6_init 0 = .ok (.aload_n 0, 1) := by decide +kernel
theorem dX6_init_1 : decode cX6_init 1 = .ok (.invokespecial 1, 3) := by decide +kernel
theorem dX6_init_4 : decode cX6_init 4 = .ok (.aload_n 0, 1) := by decide +kernel
theorem dX6_init_5 : decode cX6_init 5 = .ok (.iload_n 1, 1) := by decide +kernel
theorem dX6_init_6 : decode cX6_init 6 = .ok (.putfield 7, 3) := by decide +kernel
theorem dX6_init_9 : decode cX6_init 9 = .ok (.return_, 1) := by decide +kernel
theorem dX6_number_0 : decode cX6_number 0 = .ok (.iconst 0, 1) := by decide +kernel
theorem dX6_number_1 : decode cX6_number 1 = .ok (.ireturn, 1) := by decide +kernel
theorem dX6_grows_0 : decode cX6_grows 0 = .ok (.iconst 2, 1) := by decide +kernel
theorem dX6_grows_1 : decode cX6_grows 1 = .ok (.ireturn, 1) := by decide +kernel
theorem dX6_bears_0 : decode cX6_bears 0 = .ok (.iconst 0, 1) := by decide +kernel
theorem dX6_bears_1 : decode cX6_bears 1 = .ok (.ireturn, 1) := by decide +kernel
theorem dX6_turns_0 : decode cX6_turns 0 = .ok (.iconst 1, 1) := by decide +kernel
theorem dX6_turns_1 : decode cX6_turns 1 = .ok (.ireturn, 1) := by decide +kernel
theorem dX6_shows_0 : decode cX6_shows 0 = .ok (.iconst 0, 1) := by decide +kernel
theorem dX6_shows_1 : decode cX6_shows 1 = .ok (.ireturn, 1) := by decide +kernel
theorem dX6_price_0 : decode cX6_price 0 = .ok (.iconst 4, 1) := by decide +kernel
theorem dX6_price_1 : decode cX6_price 1 = .ok (.ireturn, 1) := by decide +kernel
theorem dX6_fail_0 : decode cX6_fail 0 = .ok (.aload_n 0, 1) := by decide +kernel
theorem dX6_fail_1 : decode cX6_fail 1 = .ok (.getfield 7, 3) := by decide +kernel
theorem dX6_fail_4 : decode cX6_fail 4 = .ok (.ifCond .eq 13, 3) := by decide +kernel
theorem dX6_fail_7 : decode cX6_fail 7 = .ok (.new 13, 3) := by decide +kernel
theorem dX6_fail_10 : decode cX6_fail 10 = .ok (.dup, 1) := by decide +kernel
theorem dX6_fail_11 : decode cX6_fail 11 = .ok (.ldc 15, 2) := by decide +kernel
theorem dX6_fail_13 : decode cX6_fail 13 = .ok (.invokespecial 17, 3) := by decide +kernel
theorem dX6_fail_16 : decode cX6_fail 16 = .ok (.athrow, 1) := by decide +kernel
theorem dX6_fail_17 : decode cX6_fail 17 = .ok (.return_, 1) := by decide +kernel
theorem dX7_init_0 : decode cX7_init 0 = .ok (.aload_n 0, 1) := by decide +kernel
theorem dX7_init_1 : decode cX7_init 1 = .ok (.invokespecial 3, 3) := by decide +kernel
theorem dX7_init_4 : decode cX7_init 4 = .ok (.aload_n 0, 1) := by decide +kernel
theorem dX7_init_5 : decode cX7_init 5 = .ok (.bipush 100, 2) := by decide +kernel
theorem dX7_init_7 : decode cX7_init 7 = .ok (.newarray .int, 2) := by decide +kernel
theorem dX7_init_9 : decode cX7_init 9 = .ok (.putfield 9, 3) := by decide +kernel
theorem dX7_init_12 : decode cX7_init 12 = .ok (.aload_n 0, 1) := by decide +kernel
theorem dX7_init_13 : decode cX7_init 13 = .ok (.iconst 0, 1) := by decide +kernel
theorem dX7_init_14 : decode cX7_init 14 = .ok (.putfield 15, 3) := by decide +kernel
theorem dX7_init_17 : decode cX7_init 17 = .ok (.aload_n 0, 1) := by decide +kernel
theorem dX7_init_18 : decode cX7_init 18 = .ok (.iconst 0, 1) := by decide +kernel
theorem dX7_init_19 : decode cX7_init 19 = .ok (.putfield 19, 3) := by decide +kernel
theorem dX7_init_22 : decode cX7_init 22 = .ok (.return_, 1) := by decide +kernel
theorem dX7_beginAnew_0 : decode cX7_beginAnew 0 = .ok (.aload_n 0, 1) := by decide +kernel
theorem dX7_beginAnew_1 : decode cX7_beginAnew 1 = .ok (.iload_n 1, 1) := by decide +kernel
theorem dX7_beginAnew_2 : decode cX7_beginAnew 2 = .ok (.putfield 15, 3) := by decide +kernel
theorem dX7_beginAnew_5 : decode cX7_beginAnew 5 = .ok (.aload_n 0, 1) := by decide +kernel
theorem dX7_beginAnew_6 : decode cX7_beginAnew 6 = .ok (.iload_n 2, 1) := by decide +kernel
theorem dX7_beginAnew_7 : decode cX7_beginAnew 7 = .ok (.putfield 19, 3) := by decide +kernel
theorem dX7_beginAnew_10 : decode cX7_beginAnew 10 = .ok (.iconst 0, 1) := by decide +kernel
theorem dX7_beginAnew_11 : decode cX7_beginAnew 11 = .ok (.istore_n 3, 1) := by decide +kernel
theorem dX7_beginAnew_12 : decode cX7_beginAnew 12 = .ok (.iload_n 3, 1) := by decide +kernel
theorem dX7_beginAnew_13 : decode cX7_beginAnew 13 = .ok (.aload_n 0, 1) := by decide +kernel
theorem dX7_beginAnew_14 : decode cX7_beginAnew 14 = .ok (.getfield 9, 3) := by decide +kernel
theorem dX7_beginAnew_17 : decode cX7_beginAnew 17 = .ok (.arraylength, 1) := by decide +kernel
theorem dX7_beginAnew_18 : decode cX7_beginAnew 18 = .ok (.if_icmp .ge 16, 3) := by decide +kernel
theorem dX7_beginAnew_21 : decode cX7_beginAnew 21 = .ok (.aload_n 0, 1) := by decide +kernel
theorem dX7_beginAnew_22 : decode cX7_beginAnew 22 = .ok (.getfield 9, 3) := by decide +kernel
theorem dX7_beginAnew_25 : decode cX7_beginAnew 25 = .ok (.iload_n 3, 1) := by decide +kernel
theorem dX7_beginAnew_26 : decode cX7_beginAnew 26 = .ok (.iconst 0, 1) := by decide +kernel
theorem dX7_beginAnew_27 : decode cX7_beginAnew 27 = .ok (.iastore, 1) := by decide +kernel
theorem dX7_beginAnew_28 : decode cX7_beginAnew 28 = .ok (.iinc 3 1, 3) := by decide +kernel
theorem dX7_beginAnew_31 : decode cX7_beginAnew 31 = .ok (.goto (-19), 3) := by decide +kernel
theorem dX7_beginAnew_34 : decode cX7_beginAnew 34 = .ok (.return_, 1) := by decide +kernel
theorem dX7_has_0 : decode cX7_has 0 = .ok (.iload_n 1, 1) := by decide +kernel
theorem dX7_has_1 : decode cX7_has 1 = .ok (.ifCond .lt 29, 3) := by decide +kernel
theorem dX7_has_4 : decode cX7_has 4 = .ok (.iload_n 2, 1) := by decide +kernel
theorem dX7_has_5 : decode cX7_has 5 = .ok (.ifCond .lt 25, 3) := by decide +kernel
theorem dX7_has_8 : decode cX7_has 8 = .ok (.iload_n 2, 1) := by decide +kernel
theorem dX7_has_9 : decode cX7_has 9 = .ok (.aload_n 0, 1) := by decide +kernel
theorem dX7_has_10 : decode cX7_has 10 = .ok (.getfield 19, 3) := by decide +kernel
theorem dX7_has_13 : decode cX7_has 13 = .ok (.if_icmp .gt 17, 3) := by decide +kernel
theorem dX7_has_16 : decode cX7_has 16 = .ok (.iload_n 1, 1) := by decide +kernel
theorem dX7_has_17 : decode cX7_has 17 = .ok (.aload_n 0, 1) := by decide +kernel
theorem dX7_has_18 : decode cX7_has 18 = .ok (.getfield 19, 3) := by decide +kernel
theorem dX7_has_21 : decode cX7_has 21 = .ok (.iload_n 2, 1) := by decide +kernel
theorem dX7_has_22 : decode cX7_has 22 = .ok (.isub, 1) := by decide +kernel
theorem dX7_has_23 : decode cX7_has 23 = .ok (.if_icmp .gt 7, 3) := by decide +kernel
theorem dX7_has_26 : decode cX7_has 26 = .ok (.iconst 1, 1) := by decide +kernel
theorem dX7_has_27 : decode cX7_has 27 = .ok (.goto 4, 3) := by decide +kernel
theorem dX7_has_30 : decode cX7_has 30 = .ok (.iconst 0, 1) := by decide +kernel
theorem dX7_has_31 : decode cX7_has 31 = .ok (.ireturn, 1) := by decide +kernel
set_option maxRecDepth 20000 in
theorem ggX7_set_X7_has : GoodIn wsX7_set wsX7_has := goodIn_r _ [7, 8, 12, 13, 14] (by decide +kernel) (by decide +kernel)
set_option maxRecDepth 20000 in
theorem gX7_set_X7_has : GoodIn wsX7_set (wsV RX7 22 RX7 yX7_has wsX7_has) := goodIn_app (goodIn_of _ (by decide +kernel)) ggX7_set_X7_has
set_option maxRecDepth 20000 in
theorem ggX7_set_X11_write : GoodIn wsX7_set wsX11_write := goodIn_r _ [11] (by decide +kernel) (by decide +kernel)
set_option maxRecDepth 20000 in
theorem gX7_set_X11_write_n26 : GoodIn wsX7_set (wsX11_write) := ggX7_set_X11_write
theorem dX7_set_0 : decode cX7_set 0 = .ok (.aload_n 0, 1) := by decide +kernel
theorem dX7_set_1 : decode cX7_set 1 = .ok (.iload_n 1, 1) := by decide +kernel
theorem dX7_set_2 : decode cX7_set 2 = .ok (.iconst 1, 1) := by decide +kernel
theorem dX7_set_3 : decode cX7_set 3 = .ok (.invokevirtual 22, 3) := by decide +kernel
theorem dX7_set_6 : decode cX7_set 6 = .ok (.ifCond .ne 5, 3) := by decide +kernel
theorem dX7_set_9 : decode cX7_set 9 = .ok (.iconst 0, 1) := by decide +kernel
theorem dX7_set_10 : decode cX7_set 10 = .ok (.ireturn, 1) := by decide +kernel
theorem dX7_set_11 : decode cX7_set 11 = .ok (.aload_n 0, 1) := by decide +kernel
theorem dX7_set_12 : decode cX7_set 12 = .ok (.getfield 9, 3) := by decide +kernel
theorem dX7_set_15 : decode cX7_set 15 = .ok (.iload_n 1, 1) := by decide +kernel
theorem dX7_set_16 : decode cX7_set 16 = .ok (.aload_n 0, 1) := by decide +kernel
theorem dX7_set_17 : decode cX7_set 17 = .ok (.getfield 15, 3) := by decide +kernel
theorem dX7_set_20 : decode cX7_set 20 = .ok (.ifCond .ne 8, 3) := by decide +kernel
theorem dX7_set_23 : decode cX7_set 23 = .ok (.iload_n 2, 1) := by decide +kernel
theorem dX7_set_24 : decode cX7_set 24 = .ok (.i2b, 1) := by decide +kernel
theorem dX7_set_25 : decode cX7_set 25 = .ok (.goto 17, 3) := by decide +kernel
theorem dX7_set_28 : decode cX7_set 28 = .ok (.aload_n 0, 1) := by decide +kernel
theorem dX7_set_29 : decode cX7_set 29 = .ok (.getfield 15, 3) := by decide +kernel
theorem dX7_set_32 : decode cX7_set 32 = .ok (.iconst 1, 1) := by decide +kernel
theorem dX7_set_33 : decode cX7_set 33 = .ok (.if_icmp .ne 8, 3) := by decide +kernel
theorem dX7_set_36 : decode cX7_set 36 = .ok (.iload_n 2, 1) := by decide +kernel
theorem dX7_set_37 : decode cX7_set 37 = .ok (.i2s, 1) := by decide +kernel
theorem dX7_set_38 : decode cX7_set 38 = .ok (.goto 4, 3) := by decide +kernel
theorem dX7_set_41 : decode cX7_set 41 = .ok (.iload_n 2, 1) := by decide +kernel
theorem dX7_set_42 : decode cX7_set 42 = .ok (.invokestatic 26, 3) := by decide +kernel
theorem dX7_set_45 : decode cX7_set 45 = .ok (.iconst 1, 1) := by decide +kernel
theorem dX7_set_46 : decode cX7_set 46 = .ok (.ireturn, 1) := by decide +kernel
set_option maxRecDepth 20000 in
theorem ggX7_at_X7_has : GoodIn wsX7_at wsX7_has := goodIn_r _ [6, 7, 11, 12, 13] (by decide +kernel) (by decide +kernel)
set_option maxRecDepth 20000 in
theorem gX7_at_X7_has : GoodIn wsX7_at (wsV RX7 22 RX7 yX7_has wsX7_has) := goodIn_app (goodIn_of _ (by decide +kernel)) ggX7_at_X7_has
set_option maxRecDepth 20000 in
theorem ggX7_at_X11_read : GoodIn wsX7_at wsX11_read := goodIn_r _ [10] (by decide +kernel) (by decide +kernel)
set_option maxRecDepth 20000 in
theorem gX7_at_X11_read_n30 : GoodIn wsX7_at (wsX11_read) := ggX7_at_X11_read
theorem dX7_at_0 : decode cX7_at 0 = .ok (.aload_n 0, 1) := by decide +kernel
theorem dX7_at_1 : decode cX7_at 1 = .ok (.iload_n 1, 1) := by decide +kernel
theorem dX7_at_2 : decode cX7_at 2 = .ok (.iconst 1, 1) := by decide +kernel
theorem dX7_at_3 : decode cX7_at 3 = .ok (.invokevirtual 22, 3) := by decide +kernel
theorem dX7_at_6 : decode cX7_at 6 = .ok (.ifCond .eq 14, 3) := by decide +kernel
theorem dX7_at_9 : decode cX7_at 9 = .ok (.aload_n 0, 1) := by decide +kernel
theorem dX7_at_10 : decode cX7_at 10 = .ok (.getfield 9, 3) := by decide +kernel
theorem dX7_at_13 : decode cX7_at 13 = .ok (.iload_n 1, 1) := by decide +kernel
theorem dX7_at_14 : decode cX7_at 14 = .ok (.invokestatic 30, 3) := by decide +kernel
theorem dX7_at_17 : decode cX7_at 17 = .ok (.goto 4, 3) := by decide +kernel
theorem dX7_at_20 : decode cX7_at 20 = .ok (.iconst 0, 1) := by decide +kernel
theorem dX7_at_21 : decode cX7_at 21 = .ok (.ireturn, 1) := by decide +kernel
set_option maxRecDepth 20000 in
theorem ggX7_digitAt_X7_at : GoodIn wsX7_digitAt wsX7_at := goodIn_r _ [5, 6, 7, 8, 9, 4, 10, 11, 12, 13, 14, 15, 16, 17] (by decide +kernel) (by decide +kernel)
set_option maxRecDepth 20000 in
theorem gX7_digitAt_X7_at : GoodIn wsX7_digitAt (wsV RX7 34 RX7 yX7_at wsX7_at) := goodIn_app (goodIn_of _ (by decide +kernel)) ggX7_digitAt_X7_at
theorem dX7_digitAt_0 : decode cX7_digitAt 0 = .ok (.aload_n 0, 1) := by decide +kernel
theorem dX7_digitAt_1 : decode cX7_digitAt 1 = .ok (.iload_n 1, 1) := by decide +kernel
theorem dX7_digitAt_2 : decode cX7_digitAt 2 = .ok (.invokevirtual 34, 3) := by decide +kernel
theorem dX7_digitAt_5 : decode cX7_digitAt 5 = .ok (.bipush 48, 2) := by decide +kernel
theorem dX7_digitAt_7 : decode cX7_digitAt 7 = .ok (.isub, 1) := by decide +kernel
theorem dX7_digitAt_8 : decode cX7_digitAt 8 = .ok (.ireturn, 1) := by decide +kernel
theorem dX7_leastNumber_0 : decode cX7_leastNumber 0 = .ok (.aload_n 0, 1) := by decide +kernel
theorem dX7_leastNumber_1 : decode cX7_leastNumber 1 = .ok (.getfield 15, 3) := by decide +kernel
theorem dX7_leastNumber_4 : decode cX7_leastNumber 4 = .ok (.ifCond .ne 8, 3) := by decide +kernel
theorem dX7_leastNumber_7 : decode cX7_leastNumber 7 = .ok (.bipush (-128), 2) := by decide +kernel
theorem dX7_leastNumber_9 : decode cX7_leastNumber 9 = .ok (.goto 19, 3) := by decide +kernel
theorem dX7_leastNumber_12 : decode cX7_leastNumber 12 = .ok (.aload_n 0, 1) := by decide +kernel
theorem dX7_leastNumber_13 : decode cX7_leastNumber 13 = .ok (.getfield 15, 3) := by decide +kernel
theorem dX7_leastNumber_16 : decode cX7_leastNumber 16 = .ok (.iconst 1, 1) := by decide +kernel
theorem dX7_leastNumber_17 : decode cX7_leastNumber 17 = .ok (.if_icmp .ne 9, 3) := by decide +kernel
theorem dX7_leastNumber_20 : decode cX7_leastNumber 20 = .ok (.sipush (-32768), 3) := by decide +kernel
theorem dX7_leastNumber_23 : decode cX7_leastNumber 23 = .ok (.goto 5, 3) := by decide +kernel
theorem dX7_leastNumber_26 : decode cX7_leastNumber 26 = .ok (.ldc 38, 2) := by decide +kernel
theorem dX7_leastNumber_28 : decode cX7_leastNumber 28 = .ok (.ireturn, 1) := by decide +kernel
set_option maxRecDepth 20000 in
theorem ggX7_firstWrongByte_X7_at : GoodIn wsX7_firstWrongByte wsX7_at := goodIn_r _ [6, 7, 8, 9, 10, 5, 11, 1, 12, 13, 14, 19, 20, 21] (by decide +kernel) (by decide +kernel)
set_option maxRecDepth 20000 in
theorem gX7_firstWrongByte_X7_at : GoodIn wsX7_firstWrongByte (wsV RX7 34 RX7 yX7_at wsX7_at) := goodIn_app (goodIn_of _ (by decide +kernel)) ggX7_firstWrongByte_X7_at
set_option maxRecDepth 20000 in
theorem ggX7_firstWrongByte_X11_digitsBehind : GoodIn wsX7_firstWrongByte wsX11_digitsBehind := goodIn_r _ [16] (by decide +kernel) (by decide +kernel)
set_option maxRecDepth 20000 in
theorem gX7_firstWrongByte_X11_digitsBehind_n39 : GoodIn wsX7_firstWrongByte (wsX11_digitsBehind) := ggX7_firstWrongByte_X11_digitsBehind
set_option maxRecDepth 20000 in
theorem ggX7_firstWrongByte_X11_isDigit : GoodIn wsX7_firstWrongByte wsX11_isDigit := goodIn_r _ [18] (by decide +kernel) (by decide +kernel)
set_option maxRecDepth 20000 in
theorem gX7_firstWrongByte_X11_isDigit_n42 : GoodIn wsX7_firstWrongByte (wsX11_isDigit) := ggX7_firstWrongByte_X11_isDigit
theorem dX7_firstWrongByte_0 : decode cX7_firstWrongByte 0 = .ok (.iconst 1, 1) := by decide +kernel
theorem dX7_firstWrongByte_1 : decode cX7_firstWrongByte 1 = .ok (.istore_n 1, 1) := by decide +kernel
theorem dX7_firstWrongByte_2 : decode cX7_firstWrongByte 2 = .ok (.iconst 0, 1) := by decide +kernel
theorem dX7_firstWrongByte_3 : decode cX7_firstWrongByte 3 = .ok (.istore_n 2, 1) := by decide +kernel
theorem dX7_firstWrongByte_4 : decode cX7_firstWrongByte 4 = .ok (.iconst 0, 1) := by decide +kernel
theorem dX7_firstWrongByte_5 : decode cX7_firstWrongByte 5 = .ok (.istore_n 3, 1) := by decide +kernel
theorem dX7_firstWrongByte_6 : decode cX7_firstWrongByte 6 = .ok (.iload_n 3, 1) := by decide +kernel
theorem dX7_firstWrongByte_7 : decode cX7_firstWrongByte 7 = .ok (.aload_n 0, 1) := by decide +kernel
theorem dX7_firstWrongByte_8 : decode cX7_firstWrongByte 8 = .ok (.getfield 19, 3) := by decide +kernel
theorem dX7_firstWrongByte_11 : decode cX7_firstWrongByte 11 = .ok (.if_icmp .ge 68, 3) := by decide +kernel
theorem dX7_firstWrongByte_14 : decode cX7_firstWrongByte 14 = .ok (.aload_n 0, 1) := by decide +kernel
theorem dX7_firstWrongByte_15 : decode cX7_firstWrongByte 15 = .ok (.iload_n 3, 1) := by decide +kernel
theorem dX7_firstWrongByte_16 : decode cX7_firstWrongByte 16 = .ok (.invokevirtual 34, 3) := by decide +kernel
theorem dX7_firstWrongByte_19 : decode cX7_firstWrongByte 19 = .ok (.istore 4, 2) := by decide +kernel
theorem dX7_firstWrongByte_21 : decode cX7_firstWrongByte 21 = .ok (.iload_n 1, 1) := by decide +kernel
theorem dX7_firstWrongByte_22 : decode cX7_firstWrongByte 22 = .ok (.ifCond .eq 20, 3) := by decide +kernel
theorem dX7_firstWrongByte_25 : decode cX7_firstWrongByte 25 = .ok (.iload 4, 2) := by decide +kernel
theorem dX7_firstWrongByte_27 : decode cX7_firstWrongByte 27 = .ok (.invokestatic 39, 3) := by decide +kernel
theorem dX7_firstWrongByte_30 : decode cX7_firstWrongByte 30 = .ok (.istore_n 2, 1) := by decide +kernel
theorem dX7_firstWrongByte_31 : decode cX7_firstWrongByte 31 = .ok (.iload_n 2, 1) := by decide +kernel
theorem dX7_firstWrongByte_32 : decode cX7_firstWrongByte 32 = .ok (.ifCond .ne 5, 3) := by decide +kernel
theorem dX7_firstWrongByte_35 : decode cX7_firstWrongByte 35 = .ok (.iload_n 3, 1) := by decide +kernel
theorem dX7_firstWrongByte_36 : decode cX7_firstWrongByte 36 = .ok (.ireturn, 1) := by decide +kernel
theorem dX7_firstWrongByte_37 : decode cX7_firstWrongByte 37 = .ok (.iconst 0, 1) := by decide +kernel
theorem dX7_firstWrongByte_38 : decode cX7_firstWrongByte 38 = .ok (.istore_n 1, 1) := by decide +kernel
theorem dX7_firstWrongByte_39 : decode cX7_firstWrongByte 39 = .ok (.goto 34, 3) := by decide +kernel
theorem dX7_firstWrongByte_42 : decode cX7_firstWrongByte 42 = .ok (.iload_n 2, 1) := by decide +kernel
theorem dX7_firstWrongByte_43 : decode cX7_firstWrongByte 43 = .ok (.ifCond .le 19, 3) := by decide +kernel
theorem dX7_firstWrongByte_46 : decode cX7_firstWrongByte 46 = .ok (.iload 4, 2) := by decide +kernel
theorem dX7_firstWrongByte_48 : decode cX7_firstWrongByte 48 = .ok (.invokestatic 42, 3) := by decide +kernel
theorem dX7_firstWrongByte_51 : decode cX7_firstWrongByte 51 = .ok (.ifCond .ne 5, 3) := by decide +kernel
theorem dX7_firstWrongByte_54 : decode cX7_firstWrongByte 54 = .ok (.iload_n 3, 1) := by decide +kernel
theorem dX7_firstWrongByte_55 : decode cX7_firstWrongByte 55 = .ok (.ireturn, 1) := by decide +kernel
theorem dX7_firstWrongByte_56 : decode cX7_firstWrongByte 56 = .ok (.iinc 2 (-1), 3) := by decide +kernel
theorem dX7_firstWrongByte_59 : decode cX7_firstWrongByte 59 = .ok (.goto 14, 3) := by decide +kernel
theorem dX7_firstWrongByte_62 : decode cX7_firstWrongByte 62 = .ok (.iload 4, 2) := by decide +kernel
theorem dX7_firstWrongByte_64 : decode cX7_firstWrongByte 64 = .ok (.bipush 59, 2) := by decide +kernel
theorem dX7_firstWrongByte_66 : decode cX7_firstWrongByte 66 = .ok (.if_icmp .eq 5, 3) := by decide +kernel
theorem dX7_firstWrongByte_69 : decode cX7_firstWrongByte 69 = .ok (.iload_n 3, 1) := by decide +kernel
theorem dX7_firstWrongByte_70 : decode cX7_firstWrongByte 70 = .ok (.ireturn, 1) := by decide +kernel
theorem dX7_firstWrongByte_71 : decode cX7_firstWrongByte 71 = .ok (.iconst 1, 1) := by decide +kernel
theorem dX7_firstWrongByte_72 : decode cX7_firstWrongByte 72 = .ok (.istore_n 1, 1) := by decide +kernel
theorem dX7_firstWrongByte_73 : decode cX7_firstWrongByte 73 = .ok (.iinc 3 1, 3) := by decide +kernel
theorem dX7_firstWrongByte_76 : decode cX7_firstWrongByte 76 = .ok (.goto (-70), 3) := by decide +kernel
theorem dX7_firstWrongByte_79 : decode cX7_firstWrongByte 79 = .ok (.iload_n 1, 1) := by decide +kernel
theorem dX7_firstWrongByte_80 : decode cX7_firstWrongByte 80 = .ok (.ifCond .eq 15, 3) := by decide +kernel
theorem dX7_firstWrongByte_83 : decode cX7_firstWrongByte 83 = .ok (.aload_n 0, 1) := by decide +kernel
theorem dX7_firstWrongByte_84 : decode cX7_firstWrongByte 84 = .ok (.getfield 19, 3) := by decide +kernel
theorem dX7_firstWrongByte_87 : decode cX7_firstWrongByte 87 = .ok (.ifCond .le 8, 3) := by decide +kernel
theorem dX7_firstWrongByte_90 : decode cX7_firstWrongByte 90 = .ok (.bipush (-4), 2) := by decide +kernel
theorem dX7_firstWrongByte_92 : decode cX7_firstWrongByte 92 = .ok (.goto 7, 3) := by decide +kernel
theorem dX7_firstWrongByte_95 : decode cX7_firstWrongByte 95 = .ok (.aload_n 0, 1) := by decide +kernel
theorem dX7_firstWrongByte_96 : decode cX7_firstWrongByte 96 = .ok (.getfield 19, 3) := by decide +kernel
theorem dX7_firstWrongByte_99 : decode cX7_firstWrongByte 99 = .ok (.ireturn, 1) := by decide +kernel
set_option maxRecDepth 20000 in
theorem ggX8_init_X9_init : GoodIn wsX8_init wsX9_init := goodIn_r _ [4, 5, 6, 7, 8, 9, 10, 11, 12, 13, 14, 15, 16, 17, 18, 19, 20] (by decide +kernel) (by decide +kernel)
set_option maxRecDepth 20000 in
theorem gX8_init_X9_init : GoodIn wsX8_init (wsX9_init) := ggX8_init_X9_init
theorem dX8_init_0 : decode cX8_init 0 = .ok (.aload_n 0, 1) := by decide +kernel
theorem dX8_init_1 : decode cX8_init 1 = .ok (.iload_n 1, 1) := by decide +kernel
theorem dX8_init_2 : decode cX8_init 2 = .ok (.invokespecial 1, 3) := by decide +kernel
theorem dX8_init_5 : decode cX8_init 5 = .ok (.return_, 1) := by decide +kernel
theorem dX8_number_0 : decode cX8_number 0 = .ok (.bipush 7, 2) := by decide +kernel
theorem dX8_number_2 : decode cX8_number 2 = .ok (.ireturn, 1) := by decide +kernel
set_option maxRecDepth 20000 in
theorem ggX8_grows_X9_grows : GoodIn wsX8_grows wsX9_grows := goodIn_r _ [6, 7, 8, 9, 10, 11, 12] (by decide +kernel) (by decide +kernel)
set_option maxRecDepth 20000 in
theorem gX8_grows_X9_grows_s7 : GoodIn wsX8_grows (va_wsSU RX8 7 yX9_grows wsX9_grows) := goodIn_app (goodIn_of _ (by decide +kernel)) ggX8_grows_X9_grows
theorem dX8_grows_0 : decode cX8_grows 0 = .ok (.iconst 3, 1) := by decide +kernel
theorem dX8_grows_1 : decode cX8_grows 1 = .ok (.aload_n 0, 1) := by decide +kernel
theorem dX8_grows_2 : decode cX8_grows 2 = .ok (.invokespecial 7, 3) := by decide +kernel
theorem dX8_grows_5 : decode cX8_grows 5 = .ok (.imul, 1) := by decide +kernel
theorem dX8_grows_6 : decode cX8_grows 6 = .ok (.ireturn, 1) := by decide +kernel
set_option maxRecDepth 20000 in
theorem ggX8_bears_X9_bears : GoodIn wsX8_bears wsX9_bears := goodIn_r _ [6, 7, 8, 9, 10, 11, 12] (by decide +kernel) (by decide +kernel)
set_option maxRecDepth 20000 in
theorem gX8_bears_X9_bears_s11 : GoodIn wsX8_bears (va_wsSU RX8 11 yX9_bears wsX9_bears) := goodIn_app (goodIn_of _ (by decide +kernel)) ggX8_bears_X9_bears
theorem dX8_bears_0 : decode cX8_bears 0 = .ok (.aload_n 0, 1) := by decide +kernel
theorem dX8_bears_1 : decode cX8_bears 1 = .ok (.invokespecial 11, 3) := by decide +kernel
theorem dX8_bears_4 : decode cX8_bears 4 = .ok (.iconst 2, 1) := by decide +kernel
theorem dX8_bears_5 : decode cX8_bears 5 = .ok (.iadd, 1) := by decide +kernel
theorem dX8_bears_6 : decode cX8_bears 6 = .ok (.ireturn, 1) := by decide +kernel
theorem dX8_turns_0 : decode cX8_turns 0 = .ok (.iconst 3, 1) := by decide +kernel
theorem dX8_turns_1 : decode cX8_turns 1 = .ok (.ireturn, 1) := by decide +kernel
set_option maxRecDepth 20000 in
theorem ggX8_price_X9_price : GoodIn wsX8_price wsX9_price := goodIn_r _ [6, 7, 8, 9, 10, 11, 12] (by decide +kernel) (by decide +kernel)
set_option maxRecDepth 20000 in
theorem gX8_price_X9_price_s14 : GoodIn wsX8_price (va_wsSU RX8 14 yX9_price wsX9_price) := goodIn_app (goodIn_of _ (by decide +kernel)) ggX8_price_X9_price
theorem dX8_price_0 : decode cX8_price 0 = .ok (.aload_n 0, 1) := by decide +kernel
theorem dX8_price_1 : decode cX8_price 1 = .ok (.invokespecial 14, 3) := by decide +kernel
theorem dX8_price_4 : decode cX8_price 4 = .ok (.iconst 2, 1) := by decide +kernel
theorem dX8_price_5 : decode cX8_price 5 = .ok (.iadd, 1) := by decide +kernel
theorem dX8_price_6 : decode cX8_price 6 = .ok (.ireturn, 1) := by decide +kernel
set_option maxRecDepth 20000 in
theorem ggX9_init_X6_init : GoodIn wsX9_init wsX6_init := goodIn_r _ [4, 5, 6, 7, 8, 9, 10, 11, 12, 13, 14, 15, 16] (by decide +kernel) (by decide +kernel)
set_option maxRecDepth 20000 in
theorem gX9_init_X6_init : GoodIn wsX9_init (wsX6_init) := ggX9_init_X6_init
theorem dX9_init_0 : decode cX9_init 0 = .ok (.aload_n 0, 1) := by decide +kernel
theorem dX9_init_1 : decode cX9_init 1 = .ok (.iload_n 1, 1) := by decide +kernel
theorem dX9_init_2 : decode cX9_init 2 = .ok (.invokespecial 1, 3) := by decide +kernel
theorem dX9_init_5 : decode cX9_init 5 = .ok (.return_, 1) := by decide +kernel
theorem dX9_number_0 : decode cX9_number 0 = .ok (.iconst 1, 1) := by decide +kernel
theorem dX9_number_1 : decode cX9_number 1 = .ok (.ireturn, 1) := by decide +kernel
set_option maxRecDepth 20000 in
theorem ggX9_grows_X6_grows : GoodIn wsX9_grows wsX6_grows := goodIn_r _ [6] (by decide +kernel) (by decide +kernel)
set_option maxRecDepth 20000 in
theorem gX9_grows_X6_grows_s7 : GoodIn wsX9_grows (va_wsSU RX9 7 yX6_grows wsX6_grows) := goodIn_app (goodIn_of _ (by decide +kernel)) ggX9_grows_X6_grows
theorem dX9_grows_0 : decode cX9_grows 0 = .ok (.aload_n 0, 1) := by decide +kernel
theorem dX9_grows_1 : decode cX9_grows 1 = .ok (.invokespecial 7, 3) := by decide +kernel
theorem dX9_grows_4 : decode cX9_grows 4 = .ok (.iconst 1, 1) := by decide +kernel
theorem dX9_grows_5 : decode cX9_grows 5 = .ok (.isub, 1) := by decide +kernel
theorem dX9_grows_6 : decode cX9_grows 6 = .ok (.ireturn, 1) := by decide +kernel
set_option maxRecDepth 20000 in
theorem ggX9_bears_X6_bears : GoodIn wsX9_bears wsX6_bears := goodIn_r _ [6] (by decide +kernel) (by decide +kernel)
set_option maxRecDepth 20000 in
theorem gX9_bears_X6_bears_s11 : GoodIn wsX9_bears (va_wsSU RX9 11 yX6_bears wsX6_bears) := goodIn_app (goodIn_of _ (by decide +kernel)) ggX9_bears_X6_bears
theorem dX9_bears_0 : decode cX9_bears 0 = .ok (.aload_n 0, 1) := by decide +kernel
theorem dX9_bears_1 : decode cX9_bears 1 = .ok (.invokespecial 11, 3) := by decide +kernel
theorem dX9_bears_4 : decode cX9_bears 4 = .ok (.iconst 1, 1) := by decide +kernel
theorem dX9_bears_5 : decode cX9_bears 5 = .ok (.iadd, 1) := by decide +kernel
theorem dX9_bears_6 : decode cX9_bears 6 = .ok (.ireturn, 1) := by decide +kernel
set_option maxRecDepth 20000 in
theorem ggX9_price_X6_price : GoodIn wsX9_price wsX6_price := goodIn_r _ [6] (by decide +kernel) (by decide +kernel)
set_option maxRecDepth 20000 in
theorem gX9_price_X6_price_s14 : GoodIn wsX9_price (va_wsSU RX9 14 yX6_price wsX6_price) := goodIn_app (goodIn_of _ (by decide +kernel)) ggX9_price_X6_price
theorem dX9_price_0 : decode cX9_price 0 = .ok (.aload_n 0, 1) := by decide +kernel
theorem dX9_price_1 : decode cX9_price 1 = .ok (.invokespecial 14, 3) := by decide +kernel
theorem dX9_price_4 : decode cX9_price 4 = .ok (.iconst 1, 1) := by decide +kernel
theorem dX9_price_5 : decode cX9_price 5 = .ok (.isub, 1) := by decide +kernel
theorem dX9_price_6 : decode cX9_price 6 = .ok (.ireturn, 1) := by decide +kernel
theorem dJ6_bitCount_0f7a4_0 : decode cJ6_bitCount_0f7a4 0 = .ok (.iload_n 0, 1) := by decide +kernel
theorem dJ6_bitCount_0f7a4_1 : decode cJ6_bitCount_0f7a4 1 = .ok (.iload_n 0, 1) := by decide +kernel
theorem dJ6_bitCount_0f7a4_2 : decode cJ6_bitCount_0f7a4 2 = .ok (.iconst 1, 1) := by decide +kernel
theorem dJ6_bitCount_0f7a4_3 : decode cJ6_bitCount_0f7a4 3 = .ok (.iushr, 1) := by decide +kernel
theorem dJ6_bitCount_0f7a4_4 : decode cJ6_bitCount_0f7a4 4 = .ok (.ldc_w 265, 3) := by decide +kernel
theorem dJ6_bitCount_0f7a4_7 : decode cJ6_bitCount_0f7a4 7 = .ok (.iand, 1) := by decide +kernel
theorem dJ6_bitCount_0f7a4_8 : decode cJ6_bitCount_0f7a4 8 = .ok (.isub, 1) := by decide +kernel
theorem dJ6_bitCount_0f7a4_9 : decode cJ6_bitCount_0f7a4 9 = .ok (.istore_n 0, 1) := by decide +kernel
theorem dJ6_bitCount_0f7a4_10 : decode cJ6_bitCount_0f7a4 10 = .ok (.iload_n 0, 1) := by decide +kernel
theorem dJ6_bitCount_0f7a4_11 : decode cJ6_bitCount_0f7a4 11 = .ok (.ldc_w 266, 3) := by decide +kernel
theorem dJ6_bitCount_0f7a4_14 : decode cJ6_bitCount_0f7a4 14 = .ok (.iand, 1) := by decide +kernel
theorem dJ6_bitCount_0f7a4_15 : decode cJ6_bitCount_0f7a4 15 = .ok (.iload_n 0, 1) := by decide +kernel
theorem dJ6_bitCount_0f7a4_16 : decode cJ6_bitCount_0f7a4 16 = .ok (.iconst 2, 1) := by decide +kernel
theorem dJ6_bitCount_0f7a4_17 : decode cJ6_bitCount_0f7a4 17 = .ok (.iushr, 1) := by decide +kernel
theorem dJ6_bitCount_0f7a4_18 : decode cJ6_bitCount_0f7a4 18 = .ok (.ldc_w 266, 3) := by decide +kernel
theorem dJ6_bitCount_0f7a4_21 : decode cJ6_bitCount_0f7a4 21 = .ok (.iand, 1) := by decide +kernel
theorem dJ6_bitCount_0f7a4_22 : decode cJ6_bitCount_0f7a4 22 = .ok (.iadd, 1) := by decide +kernel
theorem dJ6_bitCount_0f7a4_23 : decode cJ6_bitCount_0f7a4 23 = .ok (.istore_n 0, 1) := by decide +kernel
theorem dJ6_bitCount_0f7a4_24 : decode cJ6_bitCount_0f7a4 24 = .ok (.iload_n 0, 1) := by decide +kernel
theorem dJ6_bitCount_0f7a4_25 : decode cJ6_bitCount_0f7a4 25 = .ok (.iload_n 0, 1) := by decide +kernel
theorem dJ6_bitCount_0f7a4_26 : decode cJ6_bitCount_0f7a4 26 = .ok (.iconst 4, 1) := by decide +kernel
theorem dJ6_bitCount_0f7a4_27 : decode cJ6_bitCount_0f7a4 27 = .ok (.iushr, 1) := by decide +kernel
theorem dJ6_bitCount_0f7a4_28 : decode cJ6_bitCount_0f7a4 28 = .ok (.iadd, 1) := by decide +kernel
theorem dJ6_bitCount_0f7a4_29 : decode cJ6_bitCount_0f7a4 29 = .ok (.ldc_w 267, 3) := by decide +kernel
theorem dJ6_bitCount_0f7a4_32 : decode cJ6_bitCount_0f7a4 32 = .ok (.iand, 1) := by decide +kernel
theorem dJ6_bitCount_0f7a4_33 : decode cJ6_bitCount_0f7a4 33 = .ok (.istore_n 0, 1) := by decide +kernel
theorem dJ6_bitCount_0f7a4_34 : decode cJ6_bitCount_0f7a4 34 = .ok (.iload_n 0, 1) := by decide +kernel
theorem dJ6_bitCount_0f7a4_35 : decode cJ6_bitCount_0f7a4 35 = .ok (.iload_n 0, 1) := by decide +kernel
theorem dJ6_bitCount_0f7a4_36 : decode cJ6_bitCount_0f7a4 36 = .ok (.bipush 8, 2) := by decide +kernel
theorem dJ6_bitCount_0f7a4_38 : decode cJ6_bitCount_0f7a4 38 = .ok (.iushr, 1) := by decide +kernel
theorem dJ6_bitCount_0f7a4_39 : decode cJ6_bitCount_0f7a4 39 = .ok (.iadd, 1) := by decide +kernel
theorem dJ6_bitCount_0f7a4_40 : decode cJ6_bitCount_0f7a4 40 = .ok (.istore_n 0, 1) := by decide +kernel
theorem dJ6_bitCount_0f7a4_41 : decode cJ6_bitCount_0f7a4 41 = .ok (.iload_n 0, 1) := by decide +kernel
theorem dJ6_bitCount_0f7a4_42 : decode cJ6_bitCount_0f7a4 42 = .ok (.iload_n 0, 1) := by decide +kernel
theorem dJ6_bitCount_0f7a4_43 : decode cJ6_bitCount_0f7a4 43 = .ok (.bipush 16, 2) := by decide +kernel
theorem dJ6_bitCount_0f7a4_45 : decode cJ6_bitCount_0f7a4 45 = .ok (.iushr, 1) := by decide +kernel
theorem dJ6_bitCount_0f7a4_46 : decode cJ6_bitCount_0f7a4 46 = .ok (.iadd, 1) := by decide +kernel
theorem dJ6_bitCount_0f7a4_47 : decode cJ6_bitCount_0f7a4 47 = .ok (.istore_n 0, 1) := by decide +kernel
theorem dJ6_bitCount_0f7a4_48 : decode cJ6_bitCount_0f7a4 48 = .ok (.iload_n 0, 1) := by decide +kernel
theorem dJ6_bitCount_0f7a4_49 : decode cJ6_bitCount_0f7a4 49 = .ok (.bipush 63, 2) := by decide +kernel
theorem dJ6_bitCount_0f7a4_51 : decode cJ6_bitCount_0f7a4 51 = .ok (.iand, 1) := by decide +kernel
theorem dJ6_bitCount_0f7a4_52 : decode cJ6_bitCount_0f7a4 52 = .ok (.ireturn, 1) := by decide +kernel
theorem dJ9_max_7cf53_0 : decode cJ9_max_7cf53 0 = .ok (.iload_n 0, 1) := by decide +kernel
theorem dJ9_max_7cf53_1 : decode cJ9_max_7cf53 1 = .ok (.iload_n 1, 1) := by decide +kernel
theorem dJ9_max_7cf53_2 : decode cJ9_max_7cf53 2 = .ok (.if_icmp .lt 7, 3) := by decide +kernel
theorem dJ9_max_7cf53_5 : decode cJ9_max_7cf53 5 = .ok (.iload_n 0, 1) := by decide +kernel
theorem dJ9_max_7cf53_6 : decode cJ9_max_7cf53 6 = .ok (.goto 4, 3) := by decide +kernel
theorem dJ9_max_7cf53_9 : decode cJ9_max_7cf53 9 = .ok (.iload_n 1, 1) := by decide +kernel
theorem dJ9_max_7cf53_10 : decode cJ9_max_7cf53 10 = .ok (.ireturn, 1) := by decide +kernel
theorem dJ9_min_7cf53_0 : decode cJ9_min_7cf53 0 = .ok (.iload_n 0, 1) := by decide +kernel
theorem dJ9_min_7cf53_1 : decode cJ9_min_7cf53 1 = .ok (.iload_n 1, 1) := by decide +kernel
theorem dJ9_min_7cf53_2 : decode cJ9_min_7cf53 2 = .ok (.if_icmp .gt 7, 3) := by decide +kernel
theorem dJ9_min_7cf53_5 : decode cJ9_min_7cf53 5 = .ok (.iload_n 0, 1) := by decide +kernel
theorem dJ9_min_7cf53_6 : decode cJ9_min_7cf53 6 = .ok (.goto 4, 3) := by decide +kernel
theorem dJ9_min_7cf53_9 : decode cJ9_min_7cf53 9 = .ok (.iload_n 1, 1) := by decide +kernel
theorem dJ9_min_7cf53_10 : decode cJ9_min_7cf53 10 = .ok (.ireturn, 1) := by decide +kernel
