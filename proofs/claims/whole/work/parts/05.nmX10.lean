set_option maxRecDepth 20000 in
theorem ggX10_init_X6_init : GoodIn wsX10_init wsX6_init := goodIn_r _ [17, 18, 2, 3, 19, 28, 29, 30, 31, 32, 27, 33, 34] (by decide +kernel) (by decide +kernel)
set_option maxRecDepth 20000 in
theorem gX10_init_X6_init : GoodIn wsX10_init (wsX6_init) := ggX10_init_X6_init
theorem dX10_init_0 : decode cX10_init 0 = .ok (.aload_n 0, 1) := by decide +kernel
theorem dX10_init_1 : decode cX10_init 1 = .ok (.invokespecial 3, 3) := by decide +kernel
theorem dX10_init_4 : decode cX10_init 4 = .ok (.aload_n 0, 1) := by decide +kernel
theorem dX10_init_5 : decode cX10_init 5 = .ok (.bipush 7, 2) := by decide +kernel
theorem dX10_init_7 : decode cX10_init 7 = .ok (.anewarray 9, 3) := by decide +kernel
theorem dX10_init_10 : decode cX10_init 10 = .ok (.putfield 11, 3) := by decide +kernel
theorem dX10_init_13 : decode cX10_init 13 = .ok (.aload_n 0, 1) := by decide +kernel
theorem dX10_init_14 : decode cX10_init 14 = .ok (.bipush 7, 2) := by decide +kernel
theorem dX10_init_16 : decode cX10_init 16 = .ok (.newarray .int, 2) := by decide +kernel
theorem dX10_init_18 : decode cX10_init 18 = .ok (.putfield 17, 3) := by decide +kernel
theorem dX10_init_21 : decode cX10_init 21 = .ok (.aload_n 0, 1) := by decide +kernel
theorem dX10_init_22 : decode cX10_init 22 = .ok (.bipush 49, 2) := by decide +kernel
theorem dX10_init_24 : decode cX10_init 24 = .ok (.newarray .int, 2) := by decide +kernel
theorem dX10_init_26 : decode cX10_init 26 = .ok (.putfield 21, 3) := by decide +kernel
theorem dX10_init_29 : decode cX10_init 29 = .ok (.aload_n 0, 1) := by decide +kernel
theorem dX10_init_30 : decode cX10_init 30 = .ok (.new 9, 3) := by decide +kernel
theorem dX10_init_33 : decode cX10_init 33 = .ok (.dup, 1) := by decide +kernel
theorem dX10_init_34 : decode cX10_init 34 = .ok (.iconst 0, 1) := by decide +kernel
theorem dX10_init_35 : decode cX10_init 35 = .ok (.invokespecial 24, 3) := by decide +kernel
theorem dX10_init_38 : decode cX10_init 38 = .ok (.putfield 27, 3) := by decide +kernel
theorem dX10_init_41 : decode cX10_init 41 = .ok (.aload_n 0, 1) := by decide +kernel
theorem dX10_init_42 : decode cX10_init 42 = .ok (.iconst 0, 1) := by decide +kernel
theorem dX10_init_43 : decode cX10_init 43 = .ok (.putfield 31, 3) := by decide +kernel
theorem dX10_init_46 : decode cX10_init 46 = .ok (.aload_n 0, 1) := by decide +kernel
theorem dX10_init_47 : decode cX10_init 47 = .ok (.iconst 0, 1) := by decide +kernel
theorem dX10_init_48 : decode cX10_init 48 = .ok (.putfield 35, 3) := by decide +kernel
theorem dX10_init_51 : decode cX10_init 51 = .ok (.aload_n 0, 1) := by decide +kernel
theorem dX10_init_52 : decode cX10_init 52 = .ok (.iconst 0, 1) := by decide +kernel
theorem dX10_init_53 : decode cX10_init 53 = .ok (.putfield 38, 3) := by decide +kernel
theorem dX10_init_56 : decode cX10_init 56 = .ok (.return_, 1) := by decide +kernel
set_option maxRecDepth 20000 in
theorem ggX10_become_X10_at : GoodIn wsX10_become wsX10_at := goodIn_r _ [11, 1, 12, 18, 19, 20, 21, 22, 23, 24] (by decide +kernel) (by decide +kernel)
set_option maxRecDepth 20000 in
theorem gX10_become_X10_at : GoodIn wsX10_become (wsV RX10 41 RX10 yX10_at wsX10_at) := goodIn_app (goodIn_of _ (by decide +kernel)) ggX10_become_X10_at
set_option maxRecDepth 20000 in
theorem ggX10_become_X11_read : GoodIn wsX10_become wsX11_read := goodIn_r _ [15] (by decide +kernel) (by decide +kernel)
set_option maxRecDepth 20000 in
theorem gX10_become_X11_read_n45 : GoodIn wsX10_become (wsX11_read) := ggX10_become_X11_read
set_option maxRecDepth 20000 in
theorem ggX10_become_X11_write : GoodIn wsX10_become wsX11_write := goodIn_r _ [17] (by decide +kernel) (by decide +kernel)
set_option maxRecDepth 20000 in
theorem gX10_become_X11_write_n49 : GoodIn wsX10_become (wsX11_write) := ggX10_become_X11_write
theorem dX10_become_0 : decode cX10_become 0 = .ok (.iconst 0, 1) := by decide +kernel
theorem dX10_become_1 : decode cX10_become 1 = .ok (.istore_n 2, 1) := by decide +kernel
theorem dX10_become_2 : decode cX10_become 2 = .ok (.iload_n 2, 1) := by decide +kernel
theorem dX10_become_3 : decode cX10_become 3 = .ok (.aload_n 0, 1) := by decide +kernel
theorem dX10_become_4 : decode cX10_become 4 = .ok (.getfield 11, 3) := by decide +kernel
theorem dX10_become_7 : decode cX10_become 7 = .ok (.arraylength, 1) := by decide +kernel
theorem dX10_become_8 : decode cX10_become 8 = .ok (.if_icmp .ge 36, 3) := by decide +kernel
theorem dX10_become_11 : decode cX10_become 11 = .ok (.aload_n 0, 1) := by decide +kernel
theorem dX10_become_12 : decode cX10_become 12 = .ok (.getfield 11, 3) := by decide +kernel
theorem dX10_become_15 : decode cX10_become 15 = .ok (.iload_n 2, 1) := by decide +kernel
theorem dX10_become_16 : decode cX10_become 16 = .ok (.aload_n 1, 1) := by decide +kernel
theorem dX10_become_17 : decode cX10_become 17 = .ok (.iload_n 2, 1) := by decide +kernel
theorem dX10_become_18 : decode cX10_become 18 = .ok (.invokevirtual 41, 3) := by decide +kernel
theorem dX10_become_21 : decode cX10_become 21 = .ok (.aastore, 1) := by decide +kernel
theorem dX10_become_22 : decode cX10_become 22 = .ok (.aload_n 0, 1) := by decide +kernel
theorem dX10_become_23 : decode cX10_become 23 = .ok (.getfield 17, 3) := by decide +kernel
theorem dX10_become_26 : decode cX10_become 26 = .ok (.iload_n 2, 1) := by decide +kernel
theorem dX10_become_27 : decode cX10_become 27 = .ok (.aload_n 1, 1) := by decide +kernel
theorem dX10_become_28 : decode cX10_become 28 = .ok (.getfield 17, 3) := by decide +kernel
theorem dX10_become_31 : decode cX10_become 31 = .ok (.iload_n 2, 1) := by decide +kernel
theorem dX10_become_32 : decode cX10_become 32 = .ok (.invokestatic 45, 3) := by decide +kernel
theorem dX10_become_35 : decode cX10_become 35 = .ok (.invokestatic 49, 3) := by decide +kernel
theorem dX10_become_38 : decode cX10_become 38 = .ok (.iinc 2 1, 3) := by decide +kernel
theorem dX10_become_41 : decode cX10_become 41 = .ok (.goto (-39), 3) := by decide +kernel
theorem dX10_become_44 : decode cX10_become 44 = .ok (.iconst 0, 1) := by decide +kernel
theorem dX10_become_45 : decode cX10_become 45 = .ok (.istore_n 2, 1) := by decide +kernel
theorem dX10_become_46 : decode cX10_become 46 = .ok (.iload_n 2, 1) := by decide +kernel
theorem dX10_become_47 : decode cX10_become 47 = .ok (.aload_n 0, 1) := by decide +kernel
theorem dX10_become_48 : decode cX10_become 48 = .ok (.getfield 21, 3) := by decide +kernel
theorem dX10_become_51 : decode cX10_become 51 = .ok (.arraylength, 1) := by decide +kernel
theorem dX10_become_52 : decode cX10_become 52 = .ok (.if_icmp .ge 23, 3) := by decide +kernel
theorem dX10_become_55 : decode cX10_become 55 = .ok (.aload_n 0, 1) := by decide +kernel
theorem dX10_become_56 : decode cX10_become 56 = .ok (.getfield 21, 3) := by decide +kernel
theorem dX10_become_59 : decode cX10_become 59 = .ok (.iload_n 2, 1) := by decide +kernel
theorem dX10_become_60 : decode cX10_become 60 = .ok (.aload_n 1, 1) := by decide +kernel
theorem dX10_become_61 : decode cX10_become 61 = .ok (.getfield 21, 3) := by decide +kernel
theorem dX10_become_64 : decode cX10_become 64 = .ok (.iload_n 2, 1) := by decide +kernel
theorem dX10_become_65 : decode cX10_become 65 = .ok (.invokestatic 45, 3) := by decide +kernel
theorem dX10_become_68 : decode cX10_become 68 = .ok (.iastore, 1) := by decide +kernel
theorem dX10_become_69 : decode cX10_become 69 = .ok (.iinc 2 1, 3) := by decide +kernel
theorem dX10_become_72 : decode cX10_become 72 = .ok (.goto (-26), 3) := by decide +kernel
theorem dX10_become_75 : decode cX10_become 75 = .ok (.aload_n 0, 1) := by decide +kernel
theorem dX10_become_76 : decode cX10_become 76 = .ok (.aload_n 1, 1) := by decide +kernel
theorem dX10_become_77 : decode cX10_become 77 = .ok (.getfield 31, 3) := by decide +kernel
theorem dX10_become_80 : decode cX10_become 80 = .ok (.putfield 31, 3) := by decide +kernel
theorem dX10_become_83 : decode cX10_become 83 = .ok (.aload_n 0, 1) := by decide +kernel
theorem dX10_become_84 : decode cX10_become 84 = .ok (.aload_n 1, 1) := by decide +kernel
theorem dX10_become_85 : decode cX10_become 85 = .ok (.getfield 35, 3) := by decide +kernel
theorem dX10_become_88 : decode cX10_become 88 = .ok (.putfield 35, 3) := by decide +kernel
theorem dX10_become_91 : decode cX10_become 91 = .ok (.aload_n 0, 1) := by decide +kernel
theorem dX10_become_92 : decode cX10_become 92 = .ok (.aload_n 1, 1) := by decide +kernel
theorem dX10_become_93 : decode cX10_become 93 = .ok (.getfield 38, 3) := by decide +kernel
theorem dX10_become_96 : decode cX10_become 96 = .ok (.putfield 38, 3) := by decide +kernel
theorem dX10_become_99 : decode cX10_become 99 = .ok (.return_, 1) := by decide +kernel
theorem dX10_has_0 : decode cX10_has 0 = .ok (.iload_n 1, 1) := by decide +kernel
theorem dX10_has_1 : decode cX10_has 1 = .ok (.ifCond .lt 15, 3) := by decide +kernel
theorem dX10_has_4 : decode cX10_has 4 = .ok (.iload_n 1, 1) := by decide +kernel
theorem dX10_has_5 : decode cX10_has 5 = .ok (.aload_n 0, 1) := by decide +kernel
theorem dX10_has_6 : decode cX10_has 6 = .ok (.getfield 31, 3) := by decide +kernel
theorem dX10_has_9 : decode cX10_has 9 = .ok (.if_icmp .ge 7, 3) := by decide +kernel
theorem dX10_has_12 : decode cX10_has 12 = .ok (.iconst 1, 1) := by decide +kernel
theorem dX10_has_13 : decode cX10_has 13 = .ok (.goto 4, 3) := by decide +kernel
theorem dX10_has_16 : decode cX10_has 16 = .ok (.iconst 0, 1) := by decide +kernel
theorem dX10_has_17 : decode cX10_has 17 = .ok (.ireturn, 1) := by decide +kernel
set_option maxRecDepth 20000 in
theorem ggX10_areTwo_X10_has : GoodIn wsX10_areTwo wsX10_has := goodIn_r _ [5, 6, 7, 8, 9, 10, 11, 12, 13] (by decide +kernel) (by decide +kernel)
set_option maxRecDepth 20000 in
theorem gX10_areTwo_X10_has : GoodIn wsX10_areTwo (wsV RX10 53 RX10 yX10_has wsX10_has) := goodIn_app (goodIn_of _ (by decide +kernel)) ggX10_areTwo_X10_has
theorem dX10_areTwo_0 : decode cX10_areTwo 0 = .ok (.aload_n 0, 1) := by decide +kernel
theorem dX10_areTwo_1 : decode cX10_areTwo 1 = .ok (.iload_n 1, 1) := by decide +kernel
theorem dX10_areTwo_2 : decode cX10_areTwo 2 = .ok (.invokevirtual 53, 3) := by decide +kernel
theorem dX10_areTwo_5 : decode cX10_areTwo 5 = .ok (.ifCond .eq 20, 3) := by decide +kernel
theorem dX10_areTwo_8 : decode cX10_areTwo 8 = .ok (.aload_n 0, 1) := by decide +kernel
theorem dX10_areTwo_9 : decode cX10_areTwo 9 = .ok (.iload_n 2, 1) := by decide +kernel
theorem dX10_areTwo_10 : decode cX10_areTwo 10 = .ok (.invokevirtual 53, 3) := by decide +kernel
theorem dX10_areTwo_13 : decode cX10_areTwo 13 = .ok (.ifCond .eq 12, 3) := by decide +kernel
theorem dX10_areTwo_16 : decode cX10_areTwo 16 = .ok (.iload_n 1, 1) := by decide +kernel
theorem dX10_areTwo_17 : decode cX10_areTwo 17 = .ok (.iload_n 2, 1) := by decide +kernel
theorem dX10_areTwo_18 : decode cX10_areTwo 18 = .ok (.if_icmp .eq 7, 3) := by decide +kernel
theorem dX10_areTwo_21 : decode cX10_areTwo 21 = .ok (.iconst 1, 1) := by decide +kernel
theorem dX10_areTwo_22 : decode cX10_areTwo 22 = .ok (.goto 4, 3) := by decide +kernel
theorem dX10_areTwo_25 : decode cX10_areTwo 25 = .ok (.iconst 0, 1) := by decide +kernel
theorem dX10_areTwo_26 : decode cX10_areTwo 26 = .ok (.ireturn, 1) := by decide +kernel
theorem dX10_at_0 : decode cX10_at 0 = .ok (.iload_n 1, 1) := by decide +kernel
theorem dX10_at_1 : decode cX10_at 1 = .ok (.ifCond .lt 21, 3) := by decide +kernel
theorem dX10_at_4 : decode cX10_at 4 = .ok (.iload_n 1, 1) := by decide +kernel
theorem dX10_at_5 : decode cX10_at 5 = .ok (.aload_n 0, 1) := by decide +kernel
theorem dX10_at_6 : decode cX10_at 6 = .ok (.getfield 11, 3) := by decide +kernel
theorem dX10_at_9 : decode cX10_at 9 = .ok (.arraylength, 1) := by decide +kernel
theorem dX10_at_10 : decode cX10_at 10 = .ok (.if_icmp .ge 12, 3) := by decide +kernel
theorem dX10_at_13 : decode cX10_at 13 = .ok (.aload_n 0, 1) := by decide +kernel
theorem dX10_at_14 : decode cX10_at 14 = .ok (.getfield 11, 3) := by decide +kernel
theorem dX10_at_17 : decode cX10_at 17 = .ok (.iload_n 1, 1) := by decide +kernel
theorem dX10_at_18 : decode cX10_at 18 = .ok (.aaload, 1) := by decide +kernel
theorem dX10_at_19 : decode cX10_at 19 = .ok (.goto 4, 3) := by decide +kernel
theorem dX10_at_22 : decode cX10_at 22 = .ok (.aconst_null, 1) := by decide +kernel
theorem dX10_at_23 : decode cX10_at 23 = .ok (.astore_n 2, 1) := by decide +kernel
theorem dX10_at_24 : decode cX10_at 24 = .ok (.aload_n 2, 1) := by decide +kernel
theorem dX10_at_25 : decode cX10_at 25 = .ok (.ifnonnull 10, 3) := by decide +kernel
theorem dX10_at_28 : decode cX10_at 28 = .ok (.aload_n 0, 1) := by decide +kernel
theorem dX10_at_29 : decode cX10_at 29 = .ok (.getfield 27, 3) := by decide +kernel
theorem dX10_at_32 : decode cX10_at 32 = .ok (.goto 4, 3) := by decide +kernel
theorem dX10_at_35 : decode cX10_at 35 = .ok (.aload_n 2, 1) := by decide +kernel
theorem dX10_at_36 : decode cX10_at 36 = .ok (.areturn, 1) := by decide +kernel
set_option maxRecDepth 20000 in
theorem ggX10_turnedOf_X10_has : GoodIn wsX10_turnedOf wsX10_has := goodIn_r _ [6, 7, 11, 12, 13, 14, 15, 16, 17] (by decide +kernel) (by decide +kernel)
set_option maxRecDepth 20000 in
theorem gX10_turnedOf_X10_has : GoodIn wsX10_turnedOf (wsV RX10 53 RX10 yX10_has wsX10_has) := goodIn_app (goodIn_of _ (by decide +kernel)) ggX10_turnedOf_X10_has
set_option maxRecDepth 20000 in
theorem ggX10_turnedOf_X11_read : GoodIn wsX10_turnedOf wsX11_read := goodIn_r _ [10] (by decide +kernel) (by decide +kernel)
set_option maxRecDepth 20000 in
theorem gX10_turnedOf_X11_read_n45 : GoodIn wsX10_turnedOf (wsX11_read) := ggX10_turnedOf_X11_read
theorem dX10_turnedOf_0 : decode cX10_turnedOf 0 = .ok (.aload_n 0, 1) := by decide +kernel
theorem dX10_turnedOf_1 : decode cX10_turnedOf 1 = .ok (.iload_n 1, 1) := by decide +kernel
theorem dX10_turnedOf_2 : decode cX10_turnedOf 2 = .ok (.invokevirtual 53, 3) := by decide +kernel
theorem dX10_turnedOf_5 : decode cX10_turnedOf 5 = .ok (.ifCond .eq 14, 3) := by decide +kernel
theorem dX10_turnedOf_8 : decode cX10_turnedOf 8 = .ok (.aload_n 0, 1) := by decide +kernel
theorem dX10_turnedOf_9 : decode cX10_turnedOf 9 = .ok (.getfield 17, 3) := by decide +kernel
theorem dX10_turnedOf_12 : decode cX10_turnedOf 12 = .ok (.iload_n 1, 1) := by decide +kernel
theorem dX10_turnedOf_13 : decode cX10_turnedOf 13 = .ok (.invokestatic 45, 3) := by decide +kernel
theorem dX10_turnedOf_16 : decode cX10_turnedOf 16 = .ok (.goto 4, 3) := by decide +kernel
theorem dX10_turnedOf_19 : decode cX10_turnedOf 19 = .ok (.iconst 0, 1) := by decide +kernel
theorem dX10_turnedOf_20 : decode cX10_turnedOf 20 = .ok (.ireturn, 1) := by decide +kernel
set_option maxRecDepth 20000 in
theorem ggX10_fondOf_X10_areTwo : GoodIn wsX10_fondOf wsX10_areTwo := goodIn_r _ [6, 7, 8, 9, 5, 10, 11, 15, 16, 17, 18, 19, 20, 21] (by decide +kernel) (by decide +kernel)
set_option maxRecDepth 20000 in
theorem gX10_fondOf_X10_areTwo : GoodIn wsX10_fondOf (wsV RX10 57 RX10 yX10_areTwo wsX10_areTwo) := goodIn_app (goodIn_of _ (by decide +kernel)) ggX10_fondOf_X10_areTwo
set_option maxRecDepth 20000 in
theorem ggX10_fondOf_X11_read : GoodIn wsX10_fondOf wsX11_read := goodIn_r _ [14] (by decide +kernel) (by decide +kernel)
set_option maxRecDepth 20000 in
theorem gX10_fondOf_X11_read_n45 : GoodIn wsX10_fondOf (wsX11_read) := ggX10_fondOf_X11_read
theorem dX10_fondOf_0 : decode cX10_fondOf 0 = .ok (.aload_n 0, 1) := by decide +kernel
theorem dX10_fondOf_1 : decode cX10_fondOf 1 = .ok (.iload_n 1, 1) := by decide +kernel
theorem dX10_fondOf_2 : decode cX10_fondOf 2 = .ok (.iload_n 2, 1) := by decide +kernel
theorem dX10_fondOf_3 : decode cX10_fondOf 3 = .ok (.invokevirtual 57, 3) := by decide +kernel
theorem dX10_fondOf_6 : decode cX10_fondOf 6 = .ok (.ifCond .eq 19, 3) := by decide +kernel
theorem dX10_fondOf_9 : decode cX10_fondOf 9 = .ok (.aload_n 0, 1) := by decide +kernel
theorem dX10_fondOf_10 : decode cX10_fondOf 10 = .ok (.getfield 21, 3) := by decide +kernel
theorem dX10_fondOf_13 : decode cX10_fondOf 13 = .ok (.iload_n 1, 1) := by decide +kernel
theorem dX10_fondOf_14 : decode cX10_fondOf 14 = .ok (.bipush 7, 2) := by decide +kernel
theorem dX10_fondOf_16 : decode cX10_fondOf 16 = .ok (.imul, 1) := by decide +kernel
theorem dX10_fondOf_17 : decode cX10_fondOf 17 = .ok (.iload_n 2, 1) := by decide +kernel
theorem dX10_fondOf_18 : decode cX10_fondOf 18 = .ok (.iadd, 1) := by decide +kernel
theorem dX10_fondOf_19 : decode cX10_fondOf 19 = .ok (.invokestatic 45, 3) := by decide +kernel
theorem dX10_fondOf_22 : decode cX10_fondOf 22 = .ok (.goto 4, 3) := by decide +kernel
theorem dX10_fondOf_25 : decode cX10_fondOf 25 = .ok (.iconst 0, 1) := by decide +kernel
theorem dX10_fondOf_26 : decode cX10_fondOf 26 = .ok (.ireturn, 1) := by decide +kernel
set_option maxRecDepth 20000 in
theorem ggX10_perform_X11_personOf : GoodIn wsX10_perform wsX11_personOf := goodIn_r _ [3, 4, 5, 6, 7, 8, 9, 10, 11, 12, 13, 14, 15, 16, 17, 18, 19, 20, 21, 22, 23, 24, 25, 26, 27, 28, 29, 30, 31, 32, 33, 34, 35, 36, 37, 38, 39, 40, 41, 42, 43, 44, 45, 46, 47, 48, 49, 50, 51, 52, 53, 54, 55, 56, 57, 58, 59, 60, 61, 62, 240, 241, 242, 243, 244, 245, 246, 247] (by decide +kernel) (by decide +kernel)
set_option maxRecDepth 20000 in
theorem gX10_perform_X11_personOf_n61 : GoodIn wsX10_perform (wsX11_personOf) := ggX10_perform_X11_personOf
set_option maxRecDepth 20000 in
theorem ggX10_perform_X10_admit : GoodIn wsX10_perform wsX10_admit := goodIn_r _ [67, 68, 69, 248, 249, 250, 251, 252, 253, 254] (by decide +kernel) (by decide +kernel)
set_option maxRecDepth 20000 in
theorem gX10_perform_X10_admit : GoodIn wsX10_perform (wsV RX10 65 RX10 yX10_admit wsX10_admit) := goodIn_app (goodIn_of _ (by decide +kernel)) ggX10_perform_X10_admit
set_option maxRecDepth 20000 in
theorem ggX10_perform_X10_setFond : GoodIn wsX10_perform wsX10_setFond := goodIn_r _ [73, 74, 75, 76, 77, 66, 78, 79, 80, 81, 82, 68, 83, 2, 84, 248, 249, 250, 251, 252, 253, 254] (by decide +kernel) (by decide +kernel)
set_option maxRecDepth 20000 in
theorem gX10_perform_X10_setFond : GoodIn wsX10_perform (wsV RX10 69 RX10 yX10_setFond wsX10_setFond) := goodIn_app (goodIn_of _ (by decide +kernel)) ggX10_perform_X10_setFond
set_option maxRecDepth 20000 in
theorem ggX10_perform_X10_see : GoodIn wsX10_perform wsX10_see := goodIn_r _ [88, 89, 75, 76, 77, 66, 78, 79, 80, 81, 82, 68, 90, 91, 92, 93, 94, 95, 96, 97, 98, 99, 100, 101, 74, 102, 2, 103, 104, 105, 106, 107, 69, 108, 109, 110, 111, 112, 113, 9, 114, 115, 116, 117, 118, 119, 27, 120, 121, 122, 12, 123, 124, 125, 21, 126, 127, 128, 129, 130, 131, 15, 132, 133, 134, 135, 136, 18, 137, 138, 139, 140, 141, 142, 143, 6, 144, 145, 146, 147, 148, 149, 150, 24, 151, 152, 153, 154, 70, 71, 72, 73, 83, 84, 248, 249, 250, 251, 252, 253, 254, 241, 242, 245, 243, 244, 247, 246, 240] (by decide +kernel) (by decide +kernel)
set_option maxRecDepth 20000 in
theorem gX10_perform_X10_see : GoodIn wsX10_perform (wsV RX10 73 RX10 yX10_see wsX10_see) := goodIn_app (goodIn_of _ (by decide +kernel)) ggX10_perform_X10_see
set_option maxRecDepth 20000 in
theorem ggX10_perform_X10_turn : GoodIn wsX10_perform wsX10_turn := goodIn_r _ [158, 159, 89, 160, 161, 162, 66, 163, 75, 76, 77, 78, 79, 80, 81, 82, 68, 98, 99, 100, 101, 74, 102, 2, 103, 104, 105, 106, 107, 69, 108, 164, 165, 166, 167, 27, 168, 169, 170, 171, 12, 172, 173, 174, 175, 176, 6, 177, 178, 146, 179, 180, 181, 15, 182, 183, 184, 18, 185, 186, 142, 187, 188, 189, 190, 24, 191, 192, 153, 193, 194, 195, 196, 197, 198, 199, 200, 201, 202, 94, 95, 96, 97, 203, 204, 205, 206, 207, 9, 208, 209, 118, 210, 211, 212, 213, 214, 215, 216, 21, 217, 218, 219, 220, 221, 129, 222, 223, 224, 225, 226, 227, 228, 229, 230, 231, 83, 84, 90, 91, 92, 93, 109, 110, 111, 112, 113, 114, 115, 116, 117, 119, 120, 121, 122, 123, 124, 125, 126, 127, 128, 130, 131, 132, 133, 134, 135, 136, 137, 138, 139, 140, 141, 143, 144, 145, 147, 148, 149, 150, 151, 152, 154, 70, 71, 72, 73, 248, 249, 250, 251, 252, 253, 254, 241, 242, 245, 243, 244, 247, 246, 240] (by decide +kernel) (by decide +kernel)
set_option maxRecDepth 20000 in
theorem gX10_perform_X10_turn : GoodIn wsX10_perform (wsV RX10 76 RX10 yX10_turn wsX10_turn) := goodIn_app (goodIn_of _ (by decide +kernel)) ggX10_perform_X10_turn
set_option maxRecDepth 20000 in
theorem ggX10_perform_X10_setLimit : GoodIn wsX10_perform wsX10_setLimit := goodIn_r _ [235, 159, 248, 249, 250, 251, 252, 253, 254] (by decide +kernel) (by decide +kernel)
set_option maxRecDepth 20000 in
theorem gX10_perform_X10_setLimit : GoodIn wsX10_perform (wsV RX10 79 RX10 yX10_setLimit wsX10_setLimit) := goodIn_app (goodIn_of _ (by decide +kernel)) ggX10_perform_X10_setLimit
set_option maxRecDepth 20000 in
theorem ggX10_perform_X10_pass : GoodIn wsX10_perform wsX10_pass := goodIn_r _ [239, 89, 248, 249, 250, 251, 252, 253, 254] (by decide +kernel) (by decide +kernel)
set_option maxRecDepth 20000 in
theorem gX10_perform_X10_pass : GoodIn wsX10_perform (wsV RX10 82 RX10 yX10_pass wsX10_pass) := goodIn_app (goodIn_of _ (by decide +kernel)) ggX10_perform_X10_pass
theorem dX10_perform_0 : decode cX10_perform 0 = .ok (.iload_n 1, 1) := by decide +kernel
theorem dX10_perform_1 : decode cX10_perform 1 = .ok (.tableswitch 147 100 116 #[136, 147, 107, 147, 147, 147, 147, 147, 130, 147, 147, 147, 83, 147, 147, 116, 123], 83) := by decide +kernel
theorem dX10_perform_84 : decode cX10_perform 84 = .ok (.iload_n 2, 1) := by decide +kernel
theorem dX10_perform_85 : decode cX10_perform 85 = .ok (.bipush 8, 2) := by decide +kernel
theorem dX10_perform_87 : decode cX10_perform 87 = .ok (.if_icmp .ge 19, 3) := by decide +kernel
theorem dX10_perform_90 : decode cX10_perform 90 = .ok (.aload_n 0, 1) := by decide +kernel
theorem dX10_perform_91 : decode cX10_perform 91 = .ok (.iload_n 2, 1) := by decide +kernel
theorem dX10_perform_92 : decode cX10_perform 92 = .ok (.iload_n 3, 1) := by decide +kernel
theorem dX10_perform_93 : decode cX10_perform 93 = .ok (.invokestatic 61, 3) := by decide +kernel
theorem dX10_perform_96 : decode cX10_perform 96 = .ok (.invokevirtual 65, 3) := by decide +kernel
theorem dX10_perform_99 : decode cX10_perform 99 = .ok (.ifCond .eq 7, 3) := by decide +kernel
theorem dX10_perform_102 : decode cX10_perform 102 = .ok (.iconst 1, 1) := by decide +kernel
theorem dX10_perform_103 : decode cX10_perform 103 = .ok (.goto 4, 3) := by decide +kernel
theorem dX10_perform_106 : decode cX10_perform 106 = .ok (.iconst 0, 1) := by decide +kernel
theorem dX10_perform_107 : decode cX10_perform 107 = .ok (.ireturn, 1) := by decide +kernel
theorem dX10_perform_108 : decode cX10_perform 108 = .ok (.aload_n 0, 1) := by decide +kernel
theorem dX10_perform_109 : decode cX10_perform 109 = .ok (.iload_n 2, 1) := by decide +kernel
theorem dX10_perform_110 : decode cX10_perform 110 = .ok (.iload_n 3, 1) := by decide +kernel
theorem dX10_perform_111 : decode cX10_perform 111 = .ok (.iload 4, 2) := by decide +kernel
theorem dX10_perform_113 : decode cX10_perform 113 = .ok (.invokevirtual 69, 3) := by decide +kernel
theorem dX10_perform_116 : decode cX10_perform 116 = .ok (.ireturn, 1) := by decide +kernel
theorem dX10_perform_117 : decode cX10_perform 117 = .ok (.aload_n 0, 1) := by decide +kernel
theorem dX10_perform_118 : decode cX10_perform 118 = .ok (.iload_n 2, 1) := by decide +kernel
theorem dX10_perform_119 : decode cX10_perform 119 = .ok (.iload_n 3, 1) := by decide +kernel
theorem dX10_perform_120 : decode cX10_perform 120 = .ok (.invokevirtual 73, 3) := by decide +kernel
theorem dX10_perform_123 : decode cX10_perform 123 = .ok (.ireturn, 1) := by decide +kernel
theorem dX10_perform_124 : decode cX10_perform 124 = .ok (.aload_n 0, 1) := by decide +kernel
theorem dX10_perform_125 : decode cX10_perform 125 = .ok (.iload_n 2, 1) := by decide +kernel
theorem dX10_perform_126 : decode cX10_perform 126 = .ok (.iload_n 3, 1) := by decide +kernel
theorem dX10_perform_127 : decode cX10_perform 127 = .ok (.invokevirtual 76, 3) := by decide +kernel
theorem dX10_perform_130 : decode cX10_perform 130 = .ok (.ireturn, 1) := by decide +kernel
theorem dX10_perform_131 : decode cX10_perform 131 = .ok (.aload_n 0, 1) := by decide +kernel
theorem dX10_perform_132 : decode cX10_perform 132 = .ok (.iload_n 2, 1) := by decide +kernel
theorem dX10_perform_133 : decode cX10_perform 133 = .ok (.invokevirtual 79, 3) := by decide +kernel
theorem dX10_perform_136 : decode cX10_perform 136 = .ok (.ireturn, 1) := by decide +kernel
theorem dX10_perform_137 : decode cX10_perform 137 = .ok (.aload_n 0, 1) := by decide +kernel
theorem dX10_perform_138 : decode cX10_perform 138 = .ok (.bipush 10, 2) := by decide +kernel
theorem dX10_perform_140 : decode cX10_perform 140 = .ok (.iload_n 2, 1) := by decide +kernel
theorem dX10_perform_141 : decode cX10_perform 141 = .ok (.imul, 1) := by decide +kernel
theorem dX10_perform_142 : decode cX10_perform 142 = .ok (.iload_n 3, 1) := by decide +kernel
theorem dX10_perform_143 : decode cX10_perform 143 = .ok (.iadd, 1) := by decide +kernel
theorem dX10_perform_144 : decode cX10_perform 144 = .ok (.invokevirtual 82, 3) := by decide +kernel
theorem dX10_perform_147 : decode cX10_perform 147 = .ok (.ireturn, 1) := by decide +kernel
theorem dX10_perform_148 : decode cX10_perform 148 = .ok (.iconst 0, 1) := by decide +kernel
theorem dX10_perform_149 : decode cX10_perform 149 = .ok (.ireturn, 1) := by decide +kernel
theorem dX10_admit_0 : decode cX10_admit 0 = .ok (.aload_n 0, 1) := by decide +kernel
theorem dX10_admit_1 : decode cX10_admit 1 = .ok (.getfield 31, 3) := by decide +kernel
theorem dX10_admit_4 : decode cX10_admit 4 = .ok (.ifCond .lt 15, 3) := by decide +kernel
theorem dX10_admit_7 : decode cX10_admit 7 = .ok (.aload_n 0, 1) := by decide +kernel
theorem dX10_admit_8 : decode cX10_admit 8 = .ok (.getfield 31, 3) := by decide +kernel
theorem dX10_admit_11 : decode cX10_admit 11 = .ok (.aload_n 0, 1) := by decide +kernel
theorem dX10_admit_12 : decode cX10_admit 12 = .ok (.getfield 11, 3) := by decide +kernel
theorem dX10_admit_15 : decode cX10_admit 15 = .ok (.arraylength, 1) := by decide +kernel
theorem dX10_admit_16 : decode cX10_admit 16 = .ok (.if_icmp .lt 5, 3) := by decide +kernel
theorem dX10_admit_19 : decode cX10_admit 19 = .ok (.iconst 0, 1) := by decide +kernel
theorem dX10_admit_20 : decode cX10_admit 20 = .ok (.ireturn, 1) := by decide +kernel
theorem dX10_admit_21 : decode cX10_admit 21 = .ok (.aload_n 0, 1) := by decide +kernel
theorem dX10_admit_22 : decode cX10_admit 22 = .ok (.getfield 11, 3) := by decide +kernel
theorem dX10_admit_25 : decode cX10_admit 25 = .ok (.aload_n 0, 1) := by decide +kernel
theorem dX10_admit_26 : decode cX10_admit 26 = .ok (.getfield 31, 3) := by decide +kernel
theorem dX10_admit_29 : decode cX10_admit 29 = .ok (.aload_n 1, 1) := by decide +kernel
theorem dX10_admit_30 : decode cX10_admit 30 = .ok (.aastore, 1) := by decide +kernel
theorem dX10_admit_31 : decode cX10_admit 31 = .ok (.aload_n 0, 1) := by decide +kernel
theorem dX10_admit_32 : decode cX10_admit 32 = .ok (.dup, 1) := by decide +kernel
theorem dX10_admit_33 : decode cX10_admit 33 = .ok (.getfield 31, 3) := by decide +kernel
theorem dX10_admit_36 : decode cX10_admit 36 = .ok (.iconst 1, 1) := by decide +kernel
theorem dX10_admit_37 : decode cX10_admit 37 = .ok (.iadd, 1) := by decide +kernel
theorem dX10_admit_38 : decode cX10_admit 38 = .ok (.putfield 31, 3) := by decide +kernel
theorem dX10_admit_41 : decode cX10_admit 41 = .ok (.iconst 1, 1) := by decide +kernel
theorem dX10_admit_42 : decode cX10_admit 42 = .ok (.ireturn, 1) := by decide +kernel
set_option maxRecDepth 20000 in
theorem ggX10_setFond_X10_areTwo : GoodIn wsX10_setFond wsX10_areTwo := goodIn_r _ [6, 7, 8, 9, 5, 10, 11, 15, 16, 17, 18, 19, 20, 21] (by decide +kernel) (by decide +kernel)
set_option maxRecDepth 20000 in
theorem gX10_setFond_X10_areTwo : GoodIn wsX10_setFond (wsV RX10 57 RX10 yX10_areTwo wsX10_areTwo) := goodIn_app (goodIn_of _ (by decide +kernel)) ggX10_setFond_X10_areTwo
set_option maxRecDepth 20000 in
theorem ggX10_setFond_X11_write : GoodIn wsX10_setFond wsX11_write := goodIn_r _ [14] (by decide +kernel) (by decide +kernel)
set_option maxRecDepth 20000 in
theorem gX10_setFond_X11_write_n49 : GoodIn wsX10_setFond (wsX11_write) := ggX10_setFond_X11_write
theorem dX10_setFond_0 : decode cX10_setFond 0 = .ok (.aload_n 0, 1) := by decide +kernel
theorem dX10_setFond_1 : decode cX10_setFond 1 = .ok (.iload_n 1, 1) := by decide +kernel
theorem dX10_setFond_2 : decode cX10_setFond 2 = .ok (.iload_n 2, 1) := by decide +kernel
theorem dX10_setFond_3 : decode cX10_setFond 3 = .ok (.invokevirtual 57, 3) := by decide +kernel
theorem dX10_setFond_6 : decode cX10_setFond 6 = .ok (.ifCond .eq 13, 3) := by decide +kernel
theorem dX10_setFond_9 : decode cX10_setFond 9 = .ok (.iload_n 3, 1) := by decide +kernel
theorem dX10_setFond_10 : decode cX10_setFond 10 = .ok (.ifCond .lt 9, 3) := by decide +kernel
theorem dX10_setFond_13 : decode cX10_setFond 13 = .ok (.iload_n 3, 1) := by decide +kernel
theorem dX10_setFond_14 : decode cX10_setFond 14 = .ok (.bipush 9, 2) := by decide +kernel
theorem dX10_setFond_16 : decode cX10_setFond 16 = .ok (.if_icmp .le 5, 3) := by decide +kernel
theorem dX10_setFond_19 : decode cX10_setFond 19 = .ok (.iconst 0, 1) := by decide +kernel
theorem dX10_setFond_20 : decode cX10_setFond 20 = .ok (.ireturn, 1) := by decide +kernel
theorem dX10_setFond_21 : decode cX10_setFond 21 = .ok (.aload_n 0, 1) := by decide +kernel
theorem dX10_setFond_22 : decode cX10_setFond 22 = .ok (.getfield 21, 3) := by decide +kernel
theorem dX10_setFond_25 : decode cX10_setFond 25 = .ok (.iload_n 1, 1) := by decide +kernel
theorem dX10_setFond_26 : decode cX10_setFond 26 = .ok (.bipush 7, 2) := by decide +kernel
theorem dX10_setFond_28 : decode cX10_setFond 28 = .ok (.imul, 1) := by decide +kernel
theorem dX10_setFond_29 : decode cX10_setFond 29 = .ok (.iload_n 2, 1) := by decide +kernel
theorem dX10_setFond_30 : decode cX10_setFond 30 = .ok (.iadd, 1) := by decide +kernel
theorem dX10_setFond_31 : decode cX10_setFond 31 = .ok (.iload_n 3, 1) := by decide +kernel
theorem dX10_setFond_32 : decode cX10_setFond 32 = .ok (.invokestatic 49, 3) := by decide +kernel
theorem dX10_setFond_35 : decode cX10_setFond 35 = .ok (.iconst 1, 1) := by decide +kernel
theorem dX10_setFond_36 : decode cX10_setFond 36 = .ok (.ireturn, 1) := by decide +kernel
theorem dX10_setLimit_0 : decode cX10_setLimit 0 = .ok (.iload_n 1, 1) := by decide +kernel
theorem dX10_setLimit_1 : decode cX10_setLimit 1 = .ok (.ifCond .lt 9, 3) := by decide +kernel
theorem dX10_setLimit_4 : decode cX10_setLimit 4 = .ok (.iload_n 1, 1) := by decide +kernel
theorem dX10_setLimit_5 : decode cX10_setLimit 5 = .ok (.bipush 9, 2) := by decide +kernel
theorem dX10_setLimit_7 : decode cX10_setLimit 7 = .ok (.if_icmp .le 5, 3) := by decide +kernel
theorem dX10_setLimit_10 : decode cX10_setLimit 10 = .ok (.iconst 0, 1) := by decide +kernel
theorem dX10_setLimit_11 : decode cX10_setLimit 11 = .ok (.ireturn, 1) := by decide +kernel
theorem dX10_setLimit_12 : decode cX10_setLimit 12 = .ok (.aload_n 0, 1) := by decide +kernel
theorem dX10_setLimit_13 : decode cX10_setLimit 13 = .ok (.iload_n 1, 1) := by decide +kernel
theorem dX10_setLimit_14 : decode cX10_setLimit 14 = .ok (.putfield 35, 3) := by decide +kernel
theorem dX10_setLimit_17 : decode cX10_setLimit 17 = .ok (.iconst 1, 1) := by decide +kernel
theorem dX10_setLimit_18 : decode cX10_setLimit 18 = .ok (.ireturn, 1) := by decide +kernel
theorem dX10_pass_0 : decode cX10_pass 0 = .ok (.iload_n 1, 1) := by decide +kernel
theorem dX10_pass_1 : decode cX10_pass 1 = .ok (.iconst 1, 1) := by decide +kernel
theorem dX10_pass_2 : decode cX10_pass 2 = .ok (.if_icmp .lt 21, 3) := by decide +kernel
theorem dX10_pass_5 : decode cX10_pass 5 = .ok (.iload_n 1, 1) := by decide +kernel
theorem dX10_pass_6 : decode cX10_pass 6 = .ok (.bipush 99, 2) := by decide +kernel
theorem dX10_pass_8 : decode cX10_pass 8 = .ok (.if_icmp .gt 15, 3) := by decide +kernel
theorem dX10_pass_11 : decode cX10_pass 11 = .ok (.aload_n 0, 1) := by decide +kernel
theorem dX10_pass_12 : decode cX10_pass 12 = .ok (.getfield 38, 3) := by decide +kernel
theorem dX10_pass_15 : decode cX10_pass 15 = .ok (.iload_n 1, 1) := by decide +kernel
theorem dX10_pass_16 : decode cX10_pass 16 = .ok (.iadd, 1) := by decide +kernel
theorem dX10_pass_17 : decode cX10_pass 17 = .ok (.sipush 999, 3) := by decide +kernel
theorem dX10_pass_20 : decode cX10_pass 20 = .ok (.if_icmp .le 5, 3) := by decide +kernel
theorem dX10_pass_23 : decode cX10_pass 23 = .ok (.iconst 0, 1) := by decide +kernel
theorem dX10_pass_24 : decode cX10_pass 24 = .ok (.ireturn, 1) := by decide +kernel
theorem dX10_pass_25 : decode cX10_pass 25 = .ok (.aload_n 0, 1) := by decide +kernel
theorem dX10_pass_26 : decode cX10_pass 26 = .ok (.dup, 1) := by decide +kernel
theorem dX10_pass_27 : decode cX10_pass 27 = .ok (.getfield 38, 3) := by decide +kernel
theorem dX10_pass_30 : decode cX10_pass 30 = .ok (.iload_n 1, 1) := by decide +kernel
theorem dX10_pass_31 : decode cX10_pass 31 = .ok (.iadd, 1) := by decide +kernel
theorem dX10_pass_32 : decode cX10_pass 32 = .ok (.putfield 38, 3) := by decide +kernel
theorem dX10_pass_35 : decode cX10_pass 35 = .ok (.iconst 1, 1) := by decide +kernel
theorem dX10_pass_36 : decode cX10_pass 36 = .ok (.ireturn, 1) := by decide +kernel
set_option maxRecDepth 20000 in
theorem ggX10_see_X10_areTwo : GoodIn wsX10_see wsX10_areTwo := goodIn_r _ [6, 7, 8, 9, 5, 10, 11, 94, 95, 96, 97, 98, 99, 100] (by decide +kernel) (by decide +kernel)
set_option maxRecDepth 20000 in
theorem gX10_see_X10_areTwo : GoodIn wsX10_see (wsV RX10 57 RX10 yX10_areTwo wsX10_areTwo) := goodIn_app (goodIn_of _ (by decide +kernel)) ggX10_see_X10_areTwo
set_option maxRecDepth 20000 in
theorem ggX10_see_X10_becomeFonder : GoodIn wsX10_see wsX10_becomeFonder := goodIn_r _ [15, 16, 17, 18, 19, 20, 21, 22, 5, 23, 24, 2, 3, 4, 6, 7, 8, 9, 10, 11, 25, 26, 27, 28, 29, 30, 31, 32, 33, 34, 35, 36, 37, 38, 39, 40, 41, 42, 43, 44, 45, 46, 47, 48, 49, 50, 51, 52, 53, 54, 55, 56, 57, 58, 59, 60, 61, 62, 63, 64, 65, 66, 67, 68, 69, 70, 71, 72, 73, 74, 75, 76, 77, 78, 79, 80, 81, 82, 83, 84, 85, 86, 87, 88, 89, 90, 91, 92, 93, 94, 95, 96, 97, 98, 99, 100, 101, 102, 103, 104, 105, 106, 107, 108] (by decide +kernel) (by decide +kernel)
set_option maxRecDepth 20000 in
theorem gX10_see_X10_becomeFonder : GoodIn wsX10_see (wsV RX10 85 RX10 yX10_becomeFonder wsX10_becomeFonder) := goodIn_app (goodIn_of _ (by decide +kernel)) ggX10_see_X10_becomeFonder
theorem dX10_see_0 : decode cX10_see 0 = .ok (.aload_n 0, 1) := by decide +kernel
theorem dX10_see_1 : decode cX10_see 1 = .ok (.iload_n 1, 1) := by decide +kernel
theorem dX10_see_2 : decode cX10_see 2 = .ok (.iload_n 2, 1) := by decide +kernel
theorem dX10_see_3 : decode cX10_see 3 = .ok (.invokevirtual 57, 3) := by decide +kernel
theorem dX10_see_6 : decode cX10_see 6 = .ok (.ifCond .eq 13, 3) := by decide +kernel
theorem dX10_see_9 : decode cX10_see 9 = .ok (.aload_n 0, 1) := by decide +kernel
theorem dX10_see_10 : decode cX10_see 10 = .ok (.getfield 38, 3) := by decide +kernel
theorem dX10_see_13 : decode cX10_see 13 = .ok (.sipush 999, 3) := by decide +kernel
theorem dX10_see_16 : decode cX10_see 16 = .ok (.if_icmp .lt 5, 3) := by decide +kernel
theorem dX10_see_19 : decode cX10_see 19 = .ok (.iconst 0, 1) := by decide +kernel
theorem dX10_see_20 : decode cX10_see 20 = .ok (.ireturn, 1) := by decide +kernel
theorem dX10_see_21 : decode cX10_see 21 = .ok (.aload_n 0, 1) := by decide +kernel
theorem dX10_see_22 : decode cX10_see 22 = .ok (.iload_n 1, 1) := by decide +kernel
theorem dX10_see_23 : decode cX10_see 23 = .ok (.iload_n 2, 1) := by decide +kernel
theorem dX10_see_24 : decode cX10_see 24 = .ok (.invokevirtual 85, 3) := by decide +kernel
theorem dX10_see_27 : decode cX10_see 27 = .ok (.aload_n 0, 1) := by decide +kernel
theorem dX10_see_28 : decode cX10_see 28 = .ok (.dup, 1) := by decide +kernel
theorem dX10_see_29 : decode cX10_see 29 = .ok (.getfield 38, 3) := by decide +kernel
theorem dX10_see_32 : decode cX10_see 32 = .ok (.iconst 1, 1) := by decide +kernel
theorem dX10_see_33 : decode cX10_see 33 = .ok (.iadd, 1) := by decide +kernel
theorem dX10_see_34 : decode cX10_see 34 = .ok (.putfield 38, 3) := by decide +kernel
theorem dX10_see_37 : decode cX10_see 37 = .ok (.iconst 1, 1) := by decide +kernel
theorem dX10_see_38 : decode cX10_see 38 = .ok (.ireturn, 1) := by decide +kernel
set_option maxRecDepth 20000 in
theorem ggX10_turn_X10_may : GoodIn wsX10_turn wsX10_may := goodIn_r _ [7, 8, 9, 10, 6, 11, 12, 13, 14, 15, 16, 17, 18, 19, 20, 21, 22, 23, 24, 25, 26, 27, 28, 29, 30, 31, 32, 33, 34, 35, 36, 37, 38, 39, 40, 41, 42, 43, 44, 45, 46, 47, 48, 49, 50, 51, 52, 53, 54, 55, 56, 57, 58, 59, 60, 61, 62, 63, 64, 65, 66, 67, 68, 69, 167, 168, 169, 170, 171, 172, 173] (by decide +kernel) (by decide +kernel)
set_option maxRecDepth 20000 in
theorem gX10_turn_X10_may : GoodIn wsX10_turn (wsV RX10 89 RX10 yX10_may wsX10_may) := goodIn_app (goodIn_of _ (by decide +kernel)) ggX10_turn_X10_may
set_option maxRecDepth 20000 in
theorem ggX10_turn_X10_turnedOf : GoodIn wsX10_turn wsX10_turnedOf := goodIn_r _ [73, 74, 12, 13, 14, 6, 15, 16, 22, 23, 24, 167, 168, 169, 170, 171, 172, 173] (by decide +kernel) (by decide +kernel)
set_option maxRecDepth 20000 in
theorem gX10_turn_X10_turnedOf : GoodIn wsX10_turn (wsV RX10 92 RX10 yX10_turnedOf wsX10_turnedOf) := goodIn_app (goodIn_of _ (by decide +kernel)) ggX10_turn_X10_turnedOf
set_option maxRecDepth 20000 in
theorem ggX10_turn_X10_turnCards : GoodIn wsX10_turn wsX10_turnCards := goodIn_r _ [78, 74, 79, 80, 81, 82, 70, 71, 72, 6, 73, 12, 13, 14, 15, 16, 22, 23, 24, 25, 26, 27, 28, 29, 30, 83, 84, 85, 86, 87, 88, 89, 90, 91, 92, 35, 93, 94, 95, 40, 96, 97, 98, 99, 100, 101, 102, 103, 104, 105, 106, 107, 108, 57, 109, 110, 111, 112, 113, 65, 114, 115, 116, 117, 118, 119, 120, 121, 17, 18, 19, 20, 21, 8, 9, 10, 11, 122, 123, 124, 125, 126, 127, 128, 129, 130, 131, 132, 133, 134, 135, 136, 137, 138, 139, 140, 141, 142, 53, 143, 144, 145, 146, 147, 148, 149, 150, 151, 152, 60, 153, 46, 154, 155, 49, 156, 157, 158, 159, 160, 161, 68, 162, 163, 164, 165, 166, 167, 168, 169, 170, 171, 172, 173, 174, 175, 176, 177, 178, 179, 180, 181] (by decide +kernel) (by decide +kernel)
set_option maxRecDepth 20000 in
theorem gX10_turn_X10_turnCards : GoodIn wsX10_turn (wsV RX10 96 RX10 yX10_turnCards wsX10_turnCards) := goodIn_app (goodIn_of _ (by decide +kernel)) ggX10_turn_X10_turnCards
theorem dX10_turn_0 : decode cX10_turn 0 = .ok (.aload_n 0, 1) := by decide +kernel
theorem dX10_turn_1 : decode cX10_turn 1 = .ok (.iload_n 1, 1) := by decide +kernel
theorem dX10_turn_2 : decode cX10_turn 2 = .ok (.iload_n 2, 1) := by decide +kernel
theorem dX10_turn_3 : decode cX10_turn 3 = .ok (.aload_n 0, 1) := by decide +kernel
theorem dX10_turn_4 : decode cX10_turn 4 = .ok (.getfield 35, 3) := by decide +kernel
theorem dX10_turn_7 : decode cX10_turn 7 = .ok (.invokevirtual 89, 3) := by decide +kernel
theorem dX10_turn_10 : decode cX10_turn 10 = .ok (.ifCond .eq 23, 3) := by decide +kernel
theorem dX10_turn_13 : decode cX10_turn 13 = .ok (.aload_n 0, 1) := by decide +kernel
theorem dX10_turn_14 : decode cX10_turn 14 = .ok (.iload_n 2, 1) := by decide +kernel
theorem dX10_turn_15 : decode cX10_turn 15 = .ok (.invokevirtual 92, 3) := by decide +kernel
theorem dX10_turn_18 : decode cX10_turn 18 = .ok (.bipush 9, 2) := by decide +kernel
theorem dX10_turn_20 : decode cX10_turn 20 = .ok (.if_icmp .ge 13, 3) := by decide +kernel
theorem dX10_turn_23 : decode cX10_turn 23 = .ok (.aload_n 0, 1) := by decide +kernel
theorem dX10_turn_24 : decode cX10_turn 24 = .ok (.getfield 38, 3) := by decide +kernel
theorem dX10_turn_27 : decode cX10_turn 27 = .ok (.sipush 999, 3) := by decide +kernel
theorem dX10_turn_30 : decode cX10_turn 30 = .ok (.if_icmp .lt 5, 3) := by decide +kernel
theorem dX10_turn_33 : decode cX10_turn 33 = .ok (.iconst 0, 1) := by decide +kernel
theorem dX10_turn_34 : decode cX10_turn 34 = .ok (.ireturn, 1) := by decide +kernel
theorem dX10_turn_35 : decode cX10_turn 35 = .ok (.aload_n 0, 1) := by decide +kernel
theorem dX10_turn_36 : decode cX10_turn 36 = .ok (.iload_n 1, 1) := by decide +kernel
theorem dX10_turn_37 : decode cX10_turn 37 = .ok (.iload_n 2, 1) := by decide +kernel
theorem dX10_turn_38 : decode cX10_turn 38 = .ok (.invokevirtual 96, 3) := by decide +kernel
theorem dX10_turn_41 : decode cX10_turn 41 = .ok (.aload_n 0, 1) := by decide +kernel
theorem dX10_turn_42 : decode cX10_turn 42 = .ok (.dup, 1) := by decide +kernel
theorem dX10_turn_43 : decode cX10_turn 43 = .ok (.getfield 38, 3) := by decide +kernel
theorem dX10_turn_46 : decode cX10_turn 46 = .ok (.iconst 1, 1) := by decide +kernel
theorem dX10_turn_47 : decode cX10_turn 47 = .ok (.iadd, 1) := by decide +kernel
theorem dX10_turn_48 : decode cX10_turn 48 = .ok (.putfield 38, 3) := by decide +kernel
theorem dX10_turn_51 : decode cX10_turn 51 = .ok (.iconst 1, 1) := by decide +kernel
theorem dX10_turn_52 : decode cX10_turn 52 = .ok (.ireturn, 1) := by decide +kernel
set_option maxRecDepth 20000 in
theorem ggX10_may_X10_areTwo : GoodIn wsX10_may wsX10_areTwo := goodIn_r _ [5, 6, 7, 8, 4, 9, 10, 64, 65, 66, 67, 68, 69, 70] (by decide +kernel) (by decide +kernel)
set_option maxRecDepth 20000 in
theorem gX10_may_X10_areTwo : GoodIn wsX10_may (wsV RX10 57 RX10 yX10_areTwo wsX10_areTwo) := goodIn_app (goodIn_of _ (by decide +kernel)) ggX10_may_X10_areTwo
set_option maxRecDepth 20000 in
theorem ggX10_may_X10_fondOf : GoodIn wsX10_may wsX10_fondOf := goodIn_r _ [14, 15, 1, 2, 3, 4, 5, 6, 7, 8, 9, 10, 16, 17, 18, 64, 65, 66, 67, 68, 69, 70] (by decide +kernel) (by decide +kernel)
set_option maxRecDepth 20000 in
theorem gX10_may_X10_fondOf : GoodIn wsX10_may (wsV RX10 99 RX10 yX10_fondOf wsX10_fondOf) := goodIn_app (goodIn_of _ (by decide +kernel)) ggX10_may_X10_fondOf
set_option maxRecDepth 20000 in
theorem ggX10_may_X10_at : GoodIn wsX10_may wsX10_at := goodIn_r _ [22, 23, 24, 64, 65, 66, 67, 68, 69, 70] (by decide +kernel) (by decide +kernel)
set_option maxRecDepth 20000 in
theorem gX10_may_X10_at : GoodIn wsX10_may (wsV RX10 41 RX10 yX10_at wsX10_at) := goodIn_app (goodIn_of _ (by decide +kernel)) ggX10_may_X10_at
set_option maxRecDepth 20000 in
theorem ggX10_may_X6_bears : GoodIn wsX10_may wsX6_bears := goodIn_r _ [30] (by decide +kernel) (by decide +kernel)
set_option maxRecDepth 20000 in
theorem gX10_may_X6_bears_u103X0 : GoodIn wsX10_may (va_wsU RX10 103 RX0 "DealtByOpposite$Person" ⟨"DealtByOpposite$Person", "bears", "()I"⟩ yX6_bears wsX6_bears) := goodIn_app (goodIn_of _ (by decide +kernel)) ggX10_may_X6_bears
set_option maxRecDepth 20000 in
theorem ggX10_may_X1_bears : GoodIn wsX10_may wsX1_bears := goodIn_r _ [35, 36, 37, 38, 39, 40, 41, 42, 26, 43, 28, 29, 30] (by decide +kernel) (by decide +kernel)
set_option maxRecDepth 20000 in
theorem gX10_may_X1_bears_u103X1 : GoodIn wsX10_may (va_wsO RX10 103 RX1 "DealtByOpposite$Person" ⟨"DealtByOpposite$Person", "bears", "()I"⟩ yX1_bears wsX1_bears) := goodIn_app (goodIn_of _ (by decide +kernel)) ggX10_may_X1_bears
set_option maxRecDepth 20000 in
theorem gX10_may_X6_bears_u103X3 : GoodIn wsX10_may (va_wsU RX10 103 RX3 "DealtByOpposite$Person" ⟨"DealtByOpposite$Person", "bears", "()I"⟩ yX6_bears wsX6_bears) := goodIn_app (goodIn_of _ (by decide +kernel)) ggX10_may_X6_bears
set_option maxRecDepth 20000 in
theorem ggX10_may_X4_bears : GoodIn wsX10_may wsX4_bears := goodIn_r _ [48] (by decide +kernel) (by decide +kernel)
set_option maxRecDepth 20000 in
theorem gX10_may_X4_bears_u103X4 : GoodIn wsX10_may (va_wsO RX10 103 RX4 "DealtByOpposite$Person" ⟨"DealtByOpposite$Person", "bears", "()I"⟩ yX4_bears wsX4_bears) := goodIn_app (goodIn_of _ (by decide +kernel)) ggX10_may_X4_bears
set_option maxRecDepth 20000 in
theorem ggX10_may_X5_bears : GoodIn wsX10_may wsX5_bears := goodIn_r _ [52, 53, 37, 54, 39, 40, 41, 42, 26, 43, 28, 29, 30] (by decide +kernel) (by decide +kernel)
set_option maxRecDepth 20000 in
theorem gX10_may_X5_bears_u103X5 : GoodIn wsX10_may (va_wsO RX10 103 RX5 "DealtByOpposite$Person" ⟨"DealtByOpposite$Person", "bears", "()I"⟩ yX5_bears wsX5_bears) := goodIn_app (goodIn_of _ (by decide +kernel)) ggX10_may_X5_bears
set_option maxRecDepth 20000 in
theorem gX10_may_X6_bears : GoodIn wsX10_may (wsV RX10 103 RX6 yX6_bears wsX6_bears) := goodIn_app (goodIn_of _ (by decide +kernel)) ggX10_may_X6_bears
set_option maxRecDepth 20000 in
theorem ggX10_may_X8_bears : GoodIn wsX10_may wsX8_bears := goodIn_r _ [60, 61, 37, 62, 39, 40, 41, 42, 26, 43, 28, 29, 30] (by decide +kernel) (by decide +kernel)
set_option maxRecDepth 20000 in
theorem gX10_may_X8_bears_u103X8 : GoodIn wsX10_may (va_wsO RX10 103 RX8 "DealtByOpposite$Person" ⟨"DealtByOpposite$Person", "bears", "()I"⟩ yX8_bears wsX8_bears) := goodIn_app (goodIn_of _ (by decide +kernel)) ggX10_may_X8_bears
set_option maxRecDepth 20000 in
theorem ggX10_may_X9_bears : GoodIn wsX10_may wsX9_bears := goodIn_r _ [41, 42, 26, 43, 28, 29, 30] (by decide +kernel) (by decide +kernel)
set_option maxRecDepth 20000 in
theorem gX10_may_X9_bears_u103X9 : GoodIn wsX10_may (va_wsO RX10 103 RX9 "DealtByOpposite$Person" ⟨"DealtByOpposite$Person", "bears", "()I"⟩ yX9_bears wsX9_bears) := goodIn_app (goodIn_of _ (by decide +kernel)) ggX10_may_X9_bears
theorem dX10_may_0 : decode cX10_may 0 = .ok (.aload_n 0, 1) := by decide +kernel
theorem dX10_may_1 : decode cX10_may 1 = .ok (.iload_n 1, 1) := by decide +kernel
theorem dX10_may_2 : decode cX10_may 2 = .ok (.iload_n 2, 1) := by decide +kernel
theorem dX10_may_3 : decode cX10_may 3 = .ok (.invokevirtual 57, 3) := by decide +kernel
theorem dX10_may_6 : decode cX10_may 6 = .ok (.ifCond .eq 26, 3) := by decide +kernel
theorem dX10_may_9 : decode cX10_may 9 = .ok (.aload_n 0, 1) := by decide +kernel
theorem dX10_may_10 : decode cX10_may 10 = .ok (.iload_n 1, 1) := by decide +kernel
theorem dX10_may_11 : decode cX10_may 11 = .ok (.iload_n 2, 1) := by decide +kernel
theorem dX10_may_12 : decode cX10_may 12 = .ok (.invokevirtual 99, 3) := by decide +kernel
theorem dX10_may_15 : decode cX10_may 15 = .ok (.aload_n 0, 1) := by decide +kernel
theorem dX10_may_16 : decode cX10_may 16 = .ok (.iload_n 1, 1) := by decide +kernel
theorem dX10_may_17 : decode cX10_may 17 = .ok (.invokevirtual 41, 3) := by decide +kernel
theorem dX10_may_20 : decode cX10_may 20 = .ok (.invokevirtual 103, 3) := by decide +kernel
theorem dX10_may_23 : decode cX10_may 23 = .ok (.iload_n 3, 1) := by decide +kernel
theorem dX10_may_24 : decode cX10_may 24 = .ok (.iadd, 1) := by decide +kernel
theorem dX10_may_25 : decode cX10_may 25 = .ok (.if_icmp .gt 7, 3) := by decide +kernel
theorem dX10_may_28 : decode cX10_may 28 = .ok (.iconst 1, 1) := by decide +kernel
theorem dX10_may_29 : decode cX10_may 29 = .ok (.goto 4, 3) := by decide +kernel
theorem dX10_may_32 : decode cX10_may 32 = .ok (.iconst 0, 1) := by decide +kernel
theorem dX10_may_33 : decode cX10_may 33 = .ok (.ireturn, 1) := by decide +kernel
set_option maxRecDepth 20000 in
theorem ggX10_turnCards_X10_turnedOf : GoodIn wsX10_turnCards wsX10_turnedOf := goodIn_r _ [10, 1, 11, 12, 13, 9, 14, 15, 16, 17, 18, 127, 128, 129, 130, 131, 132, 133] (by decide +kernel) (by decide +kernel)
set_option maxRecDepth 20000 in
theorem gX10_turnCards_X10_turnedOf : GoodIn wsX10_turnCards (wsV RX10 92 RX10 yX10_turnedOf wsX10_turnedOf) := goodIn_app (goodIn_of _ (by decide +kernel)) ggX10_turnCards_X10_turnedOf
set_option maxRecDepth 20000 in
theorem ggX10_turnCards_X10_at : GoodIn wsX10_turnCards wsX10_at := goodIn_r _ [22, 23, 24, 127, 128, 129, 130, 131, 132, 133] (by decide +kernel) (by decide +kernel)
set_option maxRecDepth 20000 in
theorem gX10_turnCards_X10_at : GoodIn wsX10_turnCards (wsV RX10 41 RX10 yX10_at wsX10_at) := goodIn_app (goodIn_of _ (by decide +kernel)) ggX10_turnCards_X10_at
set_option maxRecDepth 20000 in
theorem ggX10_turnCards_X0_turns : GoodIn wsX10_turnCards wsX0_turns := goodIn_r _ [31, 32, 26, 33, 34, 35, 36] (by decide +kernel) (by decide +kernel)
set_option maxRecDepth 20000 in
theorem gX10_turnCards_X0_turns_u107X0 : GoodIn wsX10_turnCards (va_wsO RX10 107 RX0 "DealtByOpposite$Person" ⟨"DealtByOpposite$Person", "turns", "()I"⟩ yX0_turns wsX0_turns) := goodIn_app (goodIn_of _ (by decide +kernel)) ggX10_turnCards_X0_turns
set_option maxRecDepth 20000 in
theorem ggX10_turnCards_X1_turns : GoodIn wsX10_turnCards wsX1_turns := goodIn_r _ [40] (by decide +kernel) (by decide +kernel)
set_option maxRecDepth 20000 in
theorem gX10_turnCards_X1_turns_u107X1 : GoodIn wsX10_turnCards (va_wsO RX10 107 RX1 "DealtByOpposite$Person" ⟨"DealtByOpposite$Person", "turns", "()I"⟩ yX1_turns wsX1_turns) := goodIn_app (goodIn_of _ (by decide +kernel)) ggX10_turnCards_X1_turns
set_option maxRecDepth 20000 in
theorem ggX10_turnCards_X3_turns : GoodIn wsX10_turnCards wsX3_turns := goodIn_r _ [44, 45, 46, 47, 48, 49, 29, 30, 31, 32, 26, 33, 34, 35, 36, 134, 135, 136, 137, 138, 139, 140, 141] (by decide +kernel) (by decide +kernel)
set_option maxRecDepth 20000 in
theorem gX10_turnCards_X3_turns_u107X3 : GoodIn wsX10_turnCards (va_wsO RX10 107 RX3 "DealtByOpposite$Person" ⟨"DealtByOpposite$Person", "turns", "()I"⟩ yX3_turns wsX3_turns) := goodIn_app (goodIn_of _ (by decide +kernel)) ggX10_turnCards_X3_turns
set_option maxRecDepth 20000 in
theorem ggX10_turnCards_X6_turns : GoodIn wsX10_turnCards wsX6_turns := goodIn_r _ [36] (by decide +kernel) (by decide +kernel)
set_option maxRecDepth 20000 in
theorem gX10_turnCards_X6_turns_u107X4 : GoodIn wsX10_turnCards (va_wsU RX10 107 RX4 "DealtByOpposite$Person" ⟨"DealtByOpposite$Person", "turns", "()I"⟩ yX6_turns wsX6_turns) := goodIn_app (goodIn_of _ (by decide +kernel)) ggX10_turnCards_X6_turns
set_option maxRecDepth 20000 in
theorem ggX10_turnCards_X5_turns : GoodIn wsX10_turnCards wsX5_turns := goodIn_r _ [54] (by decide +kernel) (by decide +kernel)
set_option maxRecDepth 20000 in
theorem gX10_turnCards_X5_turns_u107X5 : GoodIn wsX10_turnCards (va_wsO RX10 107 RX5 "DealtByOpposite$Person" ⟨"DealtByOpposite$Person", "turns", "()I"⟩ yX5_turns wsX5_turns) := goodIn_app (goodIn_of _ (by decide +kernel)) ggX10_turnCards_X5_turns
set_option maxRecDepth 20000 in
theorem gX10_turnCards_X6_turns : GoodIn wsX10_turnCards (wsV RX10 107 RX6 yX6_turns wsX6_turns) := goodIn_app (goodIn_of _ (by decide +kernel)) ggX10_turnCards_X6_turns
set_option maxRecDepth 20000 in
theorem ggX10_turnCards_X8_turns : GoodIn wsX10_turnCards wsX8_turns := goodIn_r _ [60] (by decide +kernel) (by decide +kernel)
set_option maxRecDepth 20000 in
theorem gX10_turnCards_X8_turns_u107X8 : GoodIn wsX10_turnCards (va_wsO RX10 107 RX8 "DealtByOpposite$Person" ⟨"DealtByOpposite$Person", "turns", "()I"⟩ yX8_turns wsX8_turns) := goodIn_app (goodIn_of _ (by decide +kernel)) ggX10_turnCards_X8_turns
set_option maxRecDepth 20000 in
theorem gX10_turnCards_X6_turns_u107X9 : GoodIn wsX10_turnCards (va_wsU RX10 107 RX9 "DealtByOpposite$Person" ⟨"DealtByOpposite$Person", "turns", "()I"⟩ yX6_turns wsX6_turns) := goodIn_app (goodIn_of _ (by decide +kernel)) ggX10_turnCards_X6_turns
set_option maxRecDepth 20000 in
theorem ggX10_turnCards_X11_write : GoodIn wsX10_turnCards wsX11_write := goodIn_r _ [63] (by decide +kernel) (by decide +kernel)
set_option maxRecDepth 20000 in
theorem gX10_turnCards_X11_write_n49 : GoodIn wsX10_turnCards (wsX11_write) := ggX10_turnCards_X11_write
set_option maxRecDepth 20000 in
theorem ggX10_turnCards_X10_becomeFonder : GoodIn wsX10_turnCards wsX10_becomeFonder := goodIn_r _ [67, 2, 3, 4, 5, 68, 69, 70, 9, 71, 72, 73, 74, 75, 76, 11, 12, 13, 14, 15, 16, 17, 18, 19, 20, 21, 22, 23, 24, 77, 78, 79, 80, 81, 30, 82, 83, 84, 85, 33, 86, 35, 87, 88, 89, 39, 90, 91, 92, 43, 93, 94, 95, 49, 96, 97, 98, 99, 100, 101, 102, 103, 53, 104, 105, 106, 107, 108, 109, 110, 111, 112, 113, 114, 115, 116, 117, 118, 59, 119, 120, 121, 122, 123, 124, 125, 126, 62, 63, 127, 128, 129, 130, 131, 132, 133, 134, 135, 136, 137, 138, 139, 140, 141] (by decide +kernel) (by decide +kernel)
set_option maxRecDepth 20000 in
theorem gX10_turnCards_X10_becomeFonder : GoodIn wsX10_turnCards (wsV RX10 85 RX10 yX10_becomeFonder wsX10_becomeFonder) := goodIn_app (goodIn_of _ (by decide +kernel)) ggX10_turnCards_X10_becomeFonder
theorem dX10_turnCards_0 : decode cX10_turnCards 0 = .ok (.aload_n 0, 1) := by decide +kernel
theorem dX10_turnCards_1 : decode cX10_turnCards 1 = .ok (.getfield 17, 3) := by decide +kernel
theorem dX10_turnCards_4 : decode cX10_turnCards 4 = .ok (.iload_n 2, 1) := by decide +kernel
theorem dX10_turnCards_5 : decode cX10_turnCards 5 = .ok (.bipush 9, 2) := by decide +kernel
theorem dX10_turnCards_7 : decode cX10_turnCards 7 = .ok (.aload_n 0, 1) := by decide +kernel
theorem dX10_turnCards_8 : decode cX10_turnCards 8 = .ok (.iload_n 2, 1) := by decide +kernel
theorem dX10_turnCards_9 : decode cX10_turnCards 9 = .ok (.invokevirtual 92, 3) := by decide +kernel
theorem dX10_turnCards_12 : decode cX10_turnCards 12 = .ok (.aload_n 0, 1) := by decide +kernel
theorem dX10_turnCards_13 : decode cX10_turnCards 13 = .ok (.iload_n 1, 1) := by decide +kernel
theorem dX10_turnCards_14 : decode cX10_turnCards 14 = .ok (.invokevirtual 41, 3) := by decide +kernel
theorem dX10_turnCards_17 : decode cX10_turnCards 17 = .ok (.invokevirtual 107, 3) := by decide +kernel
theorem dX10_turnCards_20 : decode cX10_turnCards 20 = .ok (.iadd, 1) := by decide +kernel
theorem dX10_turnCards_21 : decode cX10_turnCards 21 = .ok (.invokestatic 110, 3) := by decide +kernel
theorem dX10_turnCards_24 : decode cX10_turnCards 24 = .ok (.invokestatic 49, 3) := by decide +kernel
theorem dX10_turnCards_27 : decode cX10_turnCards 27 = .ok (.aload_n 0, 1) := by decide +kernel
theorem dX10_turnCards_28 : decode cX10_turnCards 28 = .ok (.iload_n 1, 1) := by decide +kernel
theorem dX10_turnCards_29 : decode cX10_turnCards 29 = .ok (.iload_n 2, 1) := by decide +kernel
theorem dX10_turnCards_30 : decode cX10_turnCards 30 = .ok (.invokevirtual 85, 3) := by decide +kernel
theorem dX10_turnCards_33 : decode cX10_turnCards 33 = .ok (.return_, 1) := by decide +kernel
set_option maxRecDepth 20000 in
theorem ggX10_becomeFonder_X10_fondOf : GoodIn wsX10_becomeFonder wsX10_fondOf := goodIn_r _ [9, 10, 11, 12, 13, 8, 14, 15, 16, 17, 18, 19, 20, 21, 22, 89, 90, 91, 92, 93, 94, 95] (by decide +kernel) (by decide +kernel)
set_option maxRecDepth 20000 in
theorem gX10_becomeFonder_X10_fondOf : GoodIn wsX10_becomeFonder (wsV RX10 99 RX10 yX10_fondOf wsX10_fondOf) := goodIn_app (goodIn_of _ (by decide +kernel)) ggX10_becomeFonder_X10_fondOf
set_option maxRecDepth 20000 in
theorem ggX10_becomeFonder_X10_at : GoodIn wsX10_becomeFonder wsX10_at := goodIn_r _ [26, 27, 28, 89, 90, 91, 92, 93, 94, 95] (by decide +kernel) (by decide +kernel)
set_option maxRecDepth 20000 in
theorem gX10_becomeFonder_X10_at : GoodIn wsX10_becomeFonder (wsV RX10 41 RX10 yX10_at wsX10_at) := goodIn_app (goodIn_of _ (by decide +kernel)) ggX10_becomeFonder_X10_at
set_option maxRecDepth 20000 in
theorem ggX10_becomeFonder_X0_grows : GoodIn wsX10_becomeFonder wsX0_grows := goodIn_r _ [35, 36, 37, 38, 30, 39, 40, 41, 42, 96, 97, 98, 99, 100, 101, 102, 103] (by decide +kernel) (by decide +kernel)
set_option maxRecDepth 20000 in
theorem gX10_becomeFonder_X0_grows_u115X0 : GoodIn wsX10_becomeFonder (va_wsO RX10 115 RX0 "DealtByOpposite$Person" ⟨"DealtByOpposite$Person", "grows", "()I"⟩ yX0_grows wsX0_grows) := goodIn_app (goodIn_of _ (by decide +kernel)) ggX10_becomeFonder_X0_grows
set_option maxRecDepth 20000 in
theorem ggX10_becomeFonder_X1_grows : GoodIn wsX10_becomeFonder wsX1_grows := goodIn_r _ [46] (by decide +kernel) (by decide +kernel)
set_option maxRecDepth 20000 in
theorem gX10_becomeFonder_X1_grows_u115X1 : GoodIn wsX10_becomeFonder (va_wsO RX10 115 RX1 "DealtByOpposite$Person" ⟨"DealtByOpposite$Person", "grows", "()I"⟩ yX1_grows wsX1_grows) := goodIn_app (goodIn_of _ (by decide +kernel)) ggX10_becomeFonder_X1_grows
set_option maxRecDepth 20000 in
theorem ggX10_becomeFonder_X3_grows : GoodIn wsX10_becomeFonder wsX3_grows := goodIn_r _ [50, 51, 52, 53, 33, 34, 35, 36, 37, 38, 30, 39, 40, 41, 42, 96, 97, 98, 99, 100, 101, 102, 103] (by decide +kernel) (by decide +kernel)
set_option maxRecDepth 20000 in
theorem gX10_becomeFonder_X3_grows_u115X3 : GoodIn wsX10_becomeFonder (va_wsO RX10 115 RX3 "DealtByOpposite$Person" ⟨"DealtByOpposite$Person", "grows", "()I"⟩ yX3_grows wsX3_grows) := goodIn_app (goodIn_of _ (by decide +kernel)) ggX10_becomeFonder_X3_grows
set_option maxRecDepth 20000 in
theorem ggX10_becomeFonder_X4_grows : GoodIn wsX10_becomeFonder wsX4_grows := goodIn_r _ [57, 58, 59, 96, 97, 98, 99, 100, 101, 102, 103] (by decide +kernel) (by decide +kernel)
set_option maxRecDepth 20000 in
theorem gX10_becomeFonder_X4_grows_u115X4 : GoodIn wsX10_becomeFonder (va_wsO RX10 115 RX4 "DealtByOpposite$Person" ⟨"DealtByOpposite$Person", "grows", "()I"⟩ yX4_grows wsX4_grows) := goodIn_app (goodIn_of _ (by decide +kernel)) ggX10_becomeFonder_X4_grows
set_option maxRecDepth 20000 in
theorem ggX10_becomeFonder_X5_grows : GoodIn wsX10_becomeFonder wsX5_grows := goodIn_r _ [63, 64, 65, 66, 67, 68, 69, 70, 71, 72, 30, 73, 40, 41, 42, 96, 97, 98, 99, 100, 101, 102, 103] (by decide +kernel) (by decide +kernel)
set_option maxRecDepth 20000 in
theorem gX10_becomeFonder_X5_grows_u115X5 : GoodIn wsX10_becomeFonder (va_wsO RX10 115 RX5 "DealtByOpposite$Person" ⟨"DealtByOpposite$Person", "grows", "()I"⟩ yX5_grows wsX5_grows) := goodIn_app (goodIn_of _ (by decide +kernel)) ggX10_becomeFonder_X5_grows
set_option maxRecDepth 20000 in
theorem ggX10_becomeFonder_X6_grows : GoodIn wsX10_becomeFonder wsX6_grows := goodIn_r _ [42] (by decide +kernel) (by decide +kernel)
set_option maxRecDepth 20000 in
theorem gX10_becomeFonder_X6_grows : GoodIn wsX10_becomeFonder (wsV RX10 115 RX6 yX6_grows wsX6_grows) := goodIn_app (goodIn_of _ (by decide +kernel)) ggX10_becomeFonder_X6_grows
set_option maxRecDepth 20000 in
theorem ggX10_becomeFonder_X8_grows : GoodIn wsX10_becomeFonder wsX8_grows := goodIn_r _ [79, 80, 67, 81, 69, 70, 71, 72, 30, 73, 40, 41, 42] (by decide +kernel) (by decide +kernel)
set_option maxRecDepth 20000 in
theorem gX10_becomeFonder_X8_grows_u115X8 : GoodIn wsX10_becomeFonder (va_wsO RX10 115 RX8 "DealtByOpposite$Person" ⟨"DealtByOpposite$Person", "grows", "()I"⟩ yX8_grows wsX8_grows) := goodIn_app (goodIn_of _ (by decide +kernel)) ggX10_becomeFonder_X8_grows
set_option maxRecDepth 20000 in
theorem ggX10_becomeFonder_X9_grows : GoodIn wsX10_becomeFonder wsX9_grows := goodIn_r _ [71, 72, 30, 73, 40, 41, 42] (by decide +kernel) (by decide +kernel)
set_option maxRecDepth 20000 in
theorem gX10_becomeFonder_X9_grows_u115X9 : GoodIn wsX10_becomeFonder (va_wsO RX10 115 RX9 "DealtByOpposite$Person" ⟨"DealtByOpposite$Person", "grows", "()I"⟩ yX9_grows wsX9_grows) := goodIn_app (goodIn_of _ (by decide +kernel)) ggX10_becomeFonder_X9_grows
set_option maxRecDepth 20000 in
theorem ggX10_becomeFonder_X10_setFond : GoodIn wsX10_becomeFonder wsX10_setFond := goodIn_r _ [86, 10, 11, 12, 13, 8, 14, 15, 16, 17, 18, 19, 87, 21, 88, 89, 90, 91, 92, 93, 94, 95] (by decide +kernel) (by decide +kernel)
set_option maxRecDepth 20000 in
theorem gX10_becomeFonder_X10_setFond : GoodIn wsX10_becomeFonder (wsV RX10 69 RX10 yX10_setFond wsX10_setFond) := goodIn_app (goodIn_of _ (by decide +kernel)) ggX10_becomeFonder_X10_setFond
theorem dX10_becomeFonder_0 : decode cX10_becomeFonder 0 = .ok (.aload_n 0, 1) := by decide +kernel
theorem dX10_becomeFonder_1 : decode cX10_becomeFonder 1 = .ok (.iload_n 1, 1) := by decide +kernel
theorem dX10_becomeFonder_2 : decode cX10_becomeFonder 2 = .ok (.iload_n 2, 1) := by decide +kernel
theorem dX10_becomeFonder_3 : decode cX10_becomeFonder 3 = .ok (.bipush 9, 2) := by decide +kernel
theorem dX10_becomeFonder_5 : decode cX10_becomeFonder 5 = .ok (.aload_n 0, 1) := by decide +kernel
theorem dX10_becomeFonder_6 : decode cX10_becomeFonder 6 = .ok (.iload_n 1, 1) := by decide +kernel
theorem dX10_becomeFonder_7 : decode cX10_becomeFonder 7 = .ok (.iload_n 2, 1) := by decide +kernel
theorem dX10_becomeFonder_8 : decode cX10_becomeFonder 8 = .ok (.invokevirtual 99, 3) := by decide +kernel
theorem dX10_becomeFonder_11 : decode cX10_becomeFonder 11 = .ok (.aload_n 0, 1) := by decide +kernel
theorem dX10_becomeFonder_12 : decode cX10_becomeFonder 12 = .ok (.iload_n 1, 1) := by decide +kernel
theorem dX10_becomeFonder_13 : decode cX10_becomeFonder 13 = .ok (.invokevirtual 41, 3) := by decide +kernel
theorem dX10_becomeFonder_16 : decode cX10_becomeFonder 16 = .ok (.invokevirtual 115, 3) := by decide +kernel
theorem dX10_becomeFonder_19 : decode cX10_becomeFonder 19 = .ok (.iadd, 1) := by decide +kernel
theorem dX10_becomeFonder_20 : decode cX10_becomeFonder 20 = .ok (.invokestatic 110, 3) := by decide +kernel
theorem dX10_becomeFonder_23 : decode cX10_becomeFonder 23 = .ok (.invokevirtual 69, 3) := by decide +kernel
theorem dX10_becomeFonder_26 : decode cX10_becomeFonder 26 = .ok (.pop, 1) := by decide +kernel
theorem dX10_becomeFonder_27 : decode cX10_becomeFonder 27 = .ok (.return_, 1) := by decide +kernel
set_option maxRecDepth 20000 in
theorem ggX10_turnByTheLeast_X10_may : GoodIn wsX10_turnByTheLeast wsX10_may := goodIn_r _ [7, 8, 9, 10, 6, 11, 12, 13, 14, 15, 1, 16, 17, 18, 19, 20, 21, 22, 23, 24, 25, 26, 27, 28, 29, 30, 31, 32, 33, 34, 35, 36, 37, 38, 39, 40, 41, 42, 43, 44, 45, 46, 47, 48, 49, 50, 51, 52, 53, 54, 55, 56, 57, 58, 59, 60, 61, 62, 63, 64, 65, 66, 67, 68, 166, 167, 168, 169, 170, 171, 172] (by decide +kernel) (by decide +kernel)
set_option maxRecDepth 20000 in
theorem gX10_turnByTheLeast_X10_may : GoodIn wsX10_turnByTheLeast (wsV RX10 89 RX10 yX10_may wsX10_may) := goodIn_app (goodIn_of _ (by decide +kernel)) ggX10_turnByTheLeast_X10_may
set_option maxRecDepth 20000 in
theorem ggX10_turnByTheLeast_X10_turnedOf : GoodIn wsX10_turnByTheLeast wsX10_turnedOf := goodIn_r _ [72, 73, 12, 13, 14, 6, 15, 1, 21, 22, 23, 166, 167, 168, 169, 170, 171, 172] (by decide +kernel) (by decide +kernel)
set_option maxRecDepth 20000 in
theorem gX10_turnByTheLeast_X10_turnedOf : GoodIn wsX10_turnByTheLeast (wsV RX10 92 RX10 yX10_turnedOf wsX10_turnedOf) := goodIn_app (goodIn_of _ (by decide +kernel)) ggX10_turnByTheLeast_X10_turnedOf
set_option maxRecDepth 20000 in
theorem ggX10_turnByTheLeast_X10_turnCards : GoodIn wsX10_turnByTheLeast wsX10_turnCards := goodIn_r _ [77, 73, 78, 79, 80, 81, 69, 70, 71, 6, 72, 12, 13, 14, 15, 1, 21, 22, 23, 24, 25, 26, 27, 28, 29, 82, 83, 84, 85, 86, 87, 88, 89, 90, 91, 34, 92, 93, 94, 39, 95, 96, 97, 98, 99, 100, 101, 102, 103, 104, 105, 106, 107, 56, 108, 109, 110, 111, 112, 64, 113, 114, 115, 116, 117, 118, 119, 120, 16, 17, 18, 19, 20, 8, 9, 10, 11, 121, 122, 123, 124, 125, 126, 127, 128, 129, 130, 131, 132, 133, 134, 135, 136, 137, 138, 139, 140, 141, 52, 142, 143, 144, 145, 146, 147, 148, 149, 150, 151, 59, 152, 45, 153, 154, 48, 155, 156, 157, 158, 159, 160, 67, 161, 162, 163, 164, 165, 166, 167, 168, 169, 170, 171, 172, 173, 174, 175, 176, 177, 178, 179, 180] (by decide +kernel) (by decide +kernel)
set_option maxRecDepth 20000 in
theorem gX10_turnByTheLeast_X10_turnCards : GoodIn wsX10_turnByTheLeast (wsV RX10 96 RX10 yX10_turnCards wsX10_turnCards) := goodIn_app (goodIn_of _ (by decide +kernel)) ggX10_turnByTheLeast_X10_turnCards
theorem dX10_turnByTheLeast_0 : decode cX10_turnByTheLeast 0 = .ok (.iconst 0, 1) := by decide +kernel
theorem dX10_turnByTheLeast_1 : decode cX10_turnByTheLeast 1 = .ok (.istore_n 2, 1) := by decide +kernel
theorem dX10_turnByTheLeast_2 : decode cX10_turnByTheLeast 2 = .ok (.iload_n 2, 1) := by decide +kernel
theorem dX10_turnByTheLeast_3 : decode cX10_turnByTheLeast 3 = .ok (.aload_n 0, 1) := by decide +kernel
theorem dX10_turnByTheLeast_4 : decode cX10_turnByTheLeast 4 = .ok (.getfield 31, 3) := by decide +kernel
theorem dX10_turnByTheLeast_7 : decode cX10_turnByTheLeast 7 = .ok (.if_icmp .ge 40, 3) := by decide +kernel
theorem dX10_turnByTheLeast_10 : decode cX10_turnByTheLeast 10 = .ok (.aload_n 0, 1) := by decide +kernel
theorem dX10_turnByTheLeast_11 : decode cX10_turnByTheLeast 11 = .ok (.iload_n 2, 1) := by decide +kernel
theorem dX10_turnByTheLeast_12 : decode cX10_turnByTheLeast 12 = .ok (.iload_n 1, 1) := by decide +kernel
theorem dX10_turnByTheLeast_13 : decode cX10_turnByTheLeast 13 = .ok (.aload_n 0, 1) := by decide +kernel
theorem dX10_turnByTheLeast_14 : decode cX10_turnByTheLeast 14 = .ok (.getfield 35, 3) := by decide +kernel
theorem dX10_turnByTheLeast_17 : decode cX10_turnByTheLeast 17 = .ok (.invokevirtual 89, 3) := by decide +kernel
theorem dX10_turnByTheLeast_20 : decode cX10_turnByTheLeast 20 = .ok (.ifCond .eq 21, 3) := by decide +kernel
theorem dX10_turnByTheLeast_23 : decode cX10_turnByTheLeast 23 = .ok (.aload_n 0, 1) := by decide +kernel
theorem dX10_turnByTheLeast_24 : decode cX10_turnByTheLeast 24 = .ok (.iload_n 1, 1) := by decide +kernel
theorem dX10_turnByTheLeast_25 : decode cX10_turnByTheLeast 25 = .ok (.invokevirtual 92, 3) := by decide +kernel
theorem dX10_turnByTheLeast_28 : decode cX10_turnByTheLeast 28 = .ok (.bipush 9, 2) := by decide +kernel
theorem dX10_turnByTheLeast_30 : decode cX10_turnByTheLeast 30 = .ok (.if_icmp .ge 11, 3) := by decide +kernel
theorem dX10_turnByTheLeast_33 : decode cX10_turnByTheLeast 33 = .ok (.aload_n 0, 1) := by decide +kernel
theorem dX10_turnByTheLeast_34 : decode cX10_turnByTheLeast 34 = .ok (.iload_n 2, 1) := by decide +kernel
theorem dX10_turnByTheLeast_35 : decode cX10_turnByTheLeast 35 = .ok (.iload_n 1, 1) := by decide +kernel
theorem dX10_turnByTheLeast_36 : decode cX10_turnByTheLeast 36 = .ok (.invokevirtual 96, 3) := by decide +kernel
theorem dX10_turnByTheLeast_39 : decode cX10_turnByTheLeast 39 = .ok (.iconst 1, 1) := by decide +kernel
theorem dX10_turnByTheLeast_40 : decode cX10_turnByTheLeast 40 = .ok (.ireturn, 1) := by decide +kernel
theorem dX10_turnByTheLeast_41 : decode cX10_turnByTheLeast 41 = .ok (.iinc 2 1, 3) := by decide +kernel
theorem dX10_turnByTheLeast_44 : decode cX10_turnByTheLeast 44 = .ok (.goto (-42), 3) := by decide +kernel
theorem dX10_turnByTheLeast_47 : decode cX10_turnByTheLeast 47 = .ok (.iconst 0, 1) := by decide +kernel
theorem dX10_turnByTheLeast_48 : decode cX10_turnByTheLeast 48 = .ok (.ireturn, 1) := by decide +kernel
set_option maxRecDepth 20000 in
theorem ggX10_turnElseSee_X10_may : GoodIn wsX10_turnElseSee wsX10_may := goodIn_r _ [6, 7, 8, 9, 5, 10, 11, 12, 13, 14, 15, 16, 17, 18, 19, 20, 21, 22, 23, 24, 25, 26, 27, 28, 29, 30, 31, 32, 33, 34, 35, 36, 37, 38, 39, 40, 41, 42, 43, 44, 45, 46, 47, 48, 49, 50, 51, 52, 53, 54, 55, 56, 57, 58, 59, 60, 61, 62, 63, 64, 65, 66, 67, 68, 166, 167, 168, 169, 170, 171, 172] (by decide +kernel) (by decide +kernel)
set_option maxRecDepth 20000 in
theorem gX10_turnElseSee_X10_may : GoodIn wsX10_turnElseSee (wsV RX10 89 RX10 yX10_may wsX10_may) := goodIn_app (goodIn_of _ (by decide +kernel)) ggX10_turnElseSee_X10_may
set_option maxRecDepth 20000 in
theorem ggX10_turnElseSee_X10_turnedOf : GoodIn wsX10_turnElseSee wsX10_turnedOf := goodIn_r _ [72, 73, 11, 12, 13, 5, 14, 15, 21, 22, 23, 166, 167, 168, 169, 170, 171, 172] (by decide +kernel) (by decide +kernel)
set_option maxRecDepth 20000 in
theorem gX10_turnElseSee_X10_turnedOf : GoodIn wsX10_turnElseSee (wsV RX10 92 RX10 yX10_turnedOf wsX10_turnedOf) := goodIn_app (goodIn_of _ (by decide +kernel)) ggX10_turnElseSee_X10_turnedOf
set_option maxRecDepth 20000 in
theorem ggX10_turnElseSee_X10_turnCards : GoodIn wsX10_turnElseSee wsX10_turnCards := goodIn_r _ [77, 73, 78, 79, 80, 81, 69, 70, 71, 5, 72, 11, 12, 13, 14, 15, 21, 22, 23, 24, 25, 26, 27, 28, 29, 82, 83, 84, 85, 86, 87, 88, 89, 90, 91, 34, 92, 93, 94, 39, 95, 96, 97, 98, 99, 100, 101, 102, 103, 104, 105, 106, 107, 56, 108, 109, 110, 111, 112, 64, 113, 114, 115, 116, 117, 118, 119, 120, 16, 17, 18, 19, 20, 7, 8, 9, 10, 121, 122, 123, 124, 125, 126, 127, 128, 129, 130, 131, 132, 133, 134, 135, 136, 137, 138, 139, 140, 141, 52, 142, 143, 144, 145, 146, 147, 148, 149, 150, 151, 59, 152, 45, 153, 154, 48, 155, 156, 157, 158, 159, 160, 67, 161, 162, 163, 164, 165, 166, 167, 168, 169, 170, 171, 172, 173, 174, 175, 176, 177, 178, 179, 180] (by decide +kernel) (by decide +kernel)
set_option maxRecDepth 20000 in
theorem gX10_turnElseSee_X10_turnCards : GoodIn wsX10_turnElseSee (wsV RX10 96 RX10 yX10_turnCards wsX10_turnCards) := goodIn_app (goodIn_of _ (by decide +kernel)) ggX10_turnElseSee_X10_turnCards
set_option maxRecDepth 20000 in
theorem ggX10_turnElseSee_X10_areTwo : GoodIn wsX10_turnElseSee wsX10_areTwo := goodIn_r _ [10, 11, 12, 13, 5, 14, 15, 166, 167, 168, 169, 170, 171, 172] (by decide +kernel) (by decide +kernel)
set_option maxRecDepth 20000 in
theorem gX10_turnElseSee_X10_areTwo : GoodIn wsX10_turnElseSee (wsV RX10 57 RX10 yX10_areTwo wsX10_areTwo) := goodIn_app (goodIn_of _ (by decide +kernel)) ggX10_turnElseSee_X10_areTwo
set_option maxRecDepth 20000 in
theorem ggX10_turnElseSee_X10_becomeFonder : GoodIn wsX10_turnElseSee wsX10_becomeFonder := goodIn_r _ [120, 78, 79, 80, 81, 16, 17, 18, 5, 19, 20, 7, 8, 9, 10, 11, 12, 13, 14, 15, 21, 22, 23, 24, 25, 26, 27, 28, 29, 121, 122, 123, 124, 125, 87, 126, 127, 128, 129, 90, 130, 34, 131, 132, 133, 39, 134, 135, 136, 98, 137, 138, 139, 104, 140, 141, 52, 142, 143, 144, 145, 146, 56, 147, 148, 149, 150, 151, 59, 152, 45, 153, 154, 48, 155, 156, 157, 158, 64, 159, 160, 67, 161, 162, 163, 164, 165, 115, 116, 166, 167, 168, 169, 170, 171, 172, 173, 174, 175, 176, 177, 178, 179, 180] (by decide +kernel) (by decide +kernel)
set_option maxRecDepth 20000 in
theorem gX10_turnElseSee_X10_becomeFonder : GoodIn wsX10_turnElseSee (wsV RX10 85 RX10 yX10_becomeFonder wsX10_becomeFonder) := goodIn_app (goodIn_of _ (by decide +kernel)) ggX10_turnElseSee_X10_becomeFonder
theorem dX10_turnElseSee_0 : decode cX10_turnElseSee 0 = .ok (.aload_n 0, 1) := by decide +kernel
theorem dX10_turnElseSee_1 : decode cX10_turnElseSee 1 = .ok (.iload_n 1, 1) := by decide +kernel
theorem dX10_turnElseSee_2 : decode cX10_turnElseSee 2 = .ok (.iload_n 2, 1) := by decide +kernel
theorem dX10_turnElseSee_3 : decode cX10_turnElseSee 3 = .ok (.aload_n 0, 1) := by decide +kernel
theorem dX10_turnElseSee_4 : decode cX10_turnElseSee 4 = .ok (.getfield 35, 3) := by decide +kernel
theorem dX10_turnElseSee_7 : decode cX10_turnElseSee 7 = .ok (.invokevirtual 89, 3) := by decide +kernel
theorem dX10_turnElseSee_10 : decode cX10_turnElseSee 10 = .ok (.ifCond .eq 21, 3) := by decide +kernel
theorem dX10_turnElseSee_13 : decode cX10_turnElseSee 13 = .ok (.aload_n 0, 1) := by decide +kernel
theorem dX10_turnElseSee_14 : decode cX10_turnElseSee 14 = .ok (.iload_n 2, 1) := by decide +kernel
theorem dX10_turnElseSee_15 : decode cX10_turnElseSee 15 = .ok (.invokevirtual 92, 3) := by decide +kernel
theorem dX10_turnElseSee_18 : decode cX10_turnElseSee 18 = .ok (.bipush 9, 2) := by decide +kernel
theorem dX10_turnElseSee_20 : decode cX10_turnElseSee 20 = .ok (.if_icmp .ge 11, 3) := by decide +kernel
theorem dX10_turnElseSee_23 : decode cX10_turnElseSee 23 = .ok (.aload_n 0, 1) := by decide +kernel
theorem dX10_turnElseSee_24 : decode cX10_turnElseSee 24 = .ok (.iload_n 1, 1) := by decide +kernel
theorem dX10_turnElseSee_25 : decode cX10_turnElseSee 25 = .ok (.iload_n 2, 1) := by decide +kernel
theorem dX10_turnElseSee_26 : decode cX10_turnElseSee 26 = .ok (.invokevirtual 96, 3) := by decide +kernel
theorem dX10_turnElseSee_29 : decode cX10_turnElseSee 29 = .ok (.iconst 1, 1) := by decide +kernel
theorem dX10_turnElseSee_30 : decode cX10_turnElseSee 30 = .ok (.ireturn, 1) := by decide +kernel
theorem dX10_turnElseSee_31 : decode cX10_turnElseSee 31 = .ok (.aload_n 0, 1) := by decide +kernel
theorem dX10_turnElseSee_32 : decode cX10_turnElseSee 32 = .ok (.iload_n 1, 1) := by decide +kernel
theorem dX10_turnElseSee_33 : decode cX10_turnElseSee 33 = .ok (.iload_n 2, 1) := by decide +kernel
theorem dX10_turnElseSee_34 : decode cX10_turnElseSee 34 = .ok (.invokevirtual 57, 3) := by decide +kernel
theorem dX10_turnElseSee_37 : decode cX10_turnElseSee 37 = .ok (.ifCond .eq 9, 3) := by decide +kernel
theorem dX10_turnElseSee_40 : decode cX10_turnElseSee 40 = .ok (.aload_n 0, 1) := by decide +kernel
theorem dX10_turnElseSee_41 : decode cX10_turnElseSee 41 = .ok (.iload_n 1, 1) := by decide +kernel
theorem dX10_turnElseSee_42 : decode cX10_turnElseSee 42 = .ok (.iload_n 2, 1) := by decide +kernel
theorem dX10_turnElseSee_43 : decode cX10_turnElseSee 43 = .ok (.invokevirtual 85, 3) := by decide +kernel
theorem dX10_turnElseSee_46 : decode cX10_turnElseSee 46 = .ok (.iconst 0, 1) := by decide +kernel
theorem dX10_turnElseSee_47 : decode cX10_turnElseSee 47 = .ok (.ireturn, 1) := by decide +kernel
set_option maxRecDepth 20000 in
theorem ggX10_fitFor_X10_may : GoodIn wsX10_fitFor wsX10_may := goodIn_r _ [6, 7, 8, 9, 5, 10, 11, 12, 13, 14, 1, 15, 16, 17, 18, 19, 20, 21, 22, 23, 24, 25, 26, 27, 28, 29, 30, 31, 32, 33, 34, 35, 36, 37, 38, 39, 40, 41, 42, 43, 44, 45, 46, 47, 48, 49, 50, 51, 52, 53, 54, 55, 56, 57, 58, 59, 60, 61, 62, 63, 64, 65, 66, 67, 68, 69, 70, 71, 72, 73, 74] (by decide +kernel) (by decide +kernel)
set_option maxRecDepth 20000 in
theorem gX10_fitFor_X10_may : GoodIn wsX10_fitFor (wsV RX10 89 RX10 yX10_may wsX10_may) := goodIn_app (goodIn_of _ (by decide +kernel)) ggX10_fitFor_X10_may
theorem dX10_fitFor_0 : decode cX10_fitFor 0 = .ok (.iconst 0, 1) := by decide +kernel
theorem dX10_fitFor_1 : decode cX10_fitFor 1 = .ok (.istore_n 3, 1) := by decide +kernel
theorem dX10_fitFor_2 : decode cX10_fitFor 2 = .ok (.iconst 0, 1) := by decide +kernel
theorem dX10_fitFor_3 : decode cX10_fitFor 3 = .ok (.istore 4, 2) := by decide +kernel
theorem dX10_fitFor_5 : decode cX10_fitFor 5 = .ok (.iload 4, 2) := by decide +kernel
theorem dX10_fitFor_7 : decode cX10_fitFor 7 = .ok (.aload_n 0, 1) := by decide +kernel
theorem dX10_fitFor_8 : decode cX10_fitFor 8 = .ok (.getfield 31, 3) := by decide +kernel
theorem dX10_fitFor_11 : decode cX10_fitFor 11 = .ok (.if_icmp .ge 27, 3) := by decide +kernel
theorem dX10_fitFor_14 : decode cX10_fitFor 14 = .ok (.aload_n 0, 1) := by decide +kernel
theorem dX10_fitFor_15 : decode cX10_fitFor 15 = .ok (.iload 4, 2) := by decide +kernel
theorem dX10_fitFor_17 : decode cX10_fitFor 17 = .ok (.iload_n 1, 1) := by decide +kernel
theorem dX10_fitFor_18 : decode cX10_fitFor 18 = .ok (.iload_n 2, 1) := by decide +kernel
theorem dX10_fitFor_19 : decode cX10_fitFor 19 = .ok (.invokevirtual 89, 3) := by decide +kernel
theorem dX10_fitFor_22 : decode cX10_fitFor 22 = .ok (.ifCond .eq 10, 3) := by decide +kernel
theorem dX10_fitFor_25 : decode cX10_fitFor 25 = .ok (.iload_n 3, 1) := by decide +kernel
theorem dX10_fitFor_26 : decode cX10_fitFor 26 = .ok (.iconst 1, 1) := by decide +kernel
theorem dX10_fitFor_27 : decode cX10_fitFor 27 = .ok (.iload 4, 2) := by decide +kernel
theorem dX10_fitFor_29 : decode cX10_fitFor 29 = .ok (.ishl, 1) := by decide +kernel
theorem dX10_fitFor_30 : decode cX10_fitFor 30 = .ok (.ior, 1) := by decide +kernel
theorem dX10_fitFor_31 : decode cX10_fitFor 31 = .ok (.istore_n 3, 1) := by decide +kernel
theorem dX10_fitFor_32 : decode cX10_fitFor 32 = .ok (.iinc 4 1, 3) := by decide +kernel
theorem dX10_fitFor_35 : decode cX10_fitFor 35 = .ok (.goto (-30), 3) := by decide +kernel
theorem dX10_fitFor_38 : decode cX10_fitFor 38 = .ok (.iload_n 3, 1) := by decide +kernel
theorem dX10_fitFor_39 : decode cX10_fitFor 39 = .ok (.ireturn, 1) := by decide +kernel
set_option maxRecDepth 20000 in
theorem ggX10_fitForAll_X10_fitFor : GoodIn wsX10_fitForAll wsX10_fitFor := goodIn_r _ [7, 1, 8, 9, 10, 6, 11, 12, 13, 14, 15, 16, 17, 18, 19, 20, 21, 22, 23, 24, 25, 26, 27, 28, 29, 30, 31, 32, 33, 34, 35, 36, 37, 38, 39, 40, 41, 42, 43, 44, 45, 46, 47, 48, 49, 50, 51, 52, 53, 54, 55, 56, 57, 58, 59, 60, 61, 62, 63, 64, 65, 66, 67, 68, 69, 70, 71, 72, 80, 81, 82, 83, 84, 85, 86] (by decide +kernel) (by decide +kernel)
set_option maxRecDepth 20000 in
theorem gX10_fitForAll_X10_fitFor : GoodIn wsX10_fitForAll (wsV RX10 118 RX10 yX10_fitFor wsX10_fitFor) := goodIn_app (goodIn_of _ (by decide +kernel)) ggX10_fitForAll_X10_fitFor
set_option maxRecDepth 20000 in
theorem ggX10_fitForAll_J6_bitCount_0f7a4 : GoodIn wsX10_fitForAll wsJ6_bitCount_0f7a4 := goodIn_r _ [76, 77, 78, 79] (by decide +kernel) (by decide +kernel)
set_option maxRecDepth 20000 in
theorem gX10_fitForAll_J6_bitCount_0f7a4 : GoodIn wsX10_fitForAll (va_wsS RX10 121 yJ6_bitCount_0f7a4 wsJ6_bitCount_0f7a4) := goodIn_app (goodIn_of _ (by decide +kernel)) ggX10_fitForAll_J6_bitCount_0f7a4
theorem dX10_fitForAll_0 : decode cX10_fitForAll 0 = .ok (.iconst 0, 1) := by decide +kernel
theorem dX10_fitForAll_1 : decode cX10_fitForAll 1 = .ok (.istore_n 1, 1) := by decide +kernel
theorem dX10_fitForAll_2 : decode cX10_fitForAll 2 = .ok (.iconst 0, 1) := by decide +kernel
theorem dX10_fitForAll_3 : decode cX10_fitForAll 3 = .ok (.istore_n 2, 1) := by decide +kernel
theorem dX10_fitForAll_4 : decode cX10_fitForAll 4 = .ok (.iload_n 2, 1) := by decide +kernel
theorem dX10_fitForAll_5 : decode cX10_fitForAll 5 = .ok (.aload_n 0, 1) := by decide +kernel
theorem dX10_fitForAll_6 : decode cX10_fitForAll 6 = .ok (.getfield 31, 3) := by decide +kernel
theorem dX10_fitForAll_9 : decode cX10_fitForAll 9 = .ok (.if_icmp .ge 24, 3) := by decide +kernel
theorem dX10_fitForAll_12 : decode cX10_fitForAll 12 = .ok (.iload_n 1, 1) := by decide +kernel
theorem dX10_fitForAll_13 : decode cX10_fitForAll 13 = .ok (.aload_n 0, 1) := by decide +kernel
theorem dX10_fitForAll_14 : decode cX10_fitForAll 14 = .ok (.iload_n 2, 1) := by decide +kernel
theorem dX10_fitForAll_15 : decode cX10_fitForAll 15 = .ok (.aload_n 0, 1) := by decide +kernel
theorem dX10_fitForAll_16 : decode cX10_fitForAll 16 = .ok (.getfield 35, 3) := by decide +kernel
theorem dX10_fitForAll_19 : decode cX10_fitForAll 19 = .ok (.invokevirtual 118, 3) := by decide +kernel
theorem dX10_fitForAll_22 : decode cX10_fitForAll 22 = .ok (.invokestatic 121, 3) := by decide +kernel
theorem dX10_fitForAll_25 : decode cX10_fitForAll 25 = .ok (.iadd, 1) := by decide +kernel
theorem dX10_fitForAll_26 : decode cX10_fitForAll 26 = .ok (.istore_n 1, 1) := by decide +kernel
theorem dX10_fitForAll_27 : decode cX10_fitForAll 27 = .ok (.iinc 2 1, 3) := by decide +kernel
theorem dX10_fitForAll_30 : decode cX10_fitForAll 30 = .ok (.goto (-26), 3) := by decide +kernel
theorem dX10_fitForAll_33 : decode cX10_fitForAll 33 = .ok (.iload_n 1, 1) := by decide +kernel
theorem dX10_fitForAll_34 : decode cX10_fitForAll 34 = .ok (.ireturn, 1) := by decide +kernel
set_option maxRecDepth 20000 in
theorem ggX10_turningsTillUnfit_X10_at : GoodIn wsX10_turningsTillUnfit wsX10_at := goodIn_r _ [10, 11, 12, 114, 115, 116, 117, 118, 119, 120] (by decide +kernel) (by decide +kernel)
set_option maxRecDepth 20000 in
theorem gX10_turningsTillUnfit_X10_at : GoodIn wsX10_turningsTillUnfit (wsV RX10 41 RX10 yX10_at wsX10_at) := goodIn_app (goodIn_of _ (by decide +kernel)) ggX10_turningsTillUnfit_X10_at
set_option maxRecDepth 20000 in
theorem ggX10_turningsTillUnfit_X6_bears : GoodIn wsX10_turningsTillUnfit wsX6_bears := goodIn_r _ [18] (by decide +kernel) (by decide +kernel)
set_option maxRecDepth 20000 in
theorem gX10_turningsTillUnfit_X6_bears_u103X0 : GoodIn wsX10_turningsTillUnfit (va_wsU RX10 103 RX0 "DealtByOpposite$Person" ⟨"DealtByOpposite$Person", "bears", "()I"⟩ yX6_bears wsX6_bears) := goodIn_app (goodIn_of _ (by decide +kernel)) ggX10_turningsTillUnfit_X6_bears
set_option maxRecDepth 20000 in
theorem ggX10_turningsTillUnfit_X1_bears : GoodIn wsX10_turningsTillUnfit wsX1_bears := goodIn_r _ [23, 24, 25, 26, 27, 28, 29, 30, 14, 31, 16, 17, 18] (by decide +kernel) (by decide +kernel)
set_option maxRecDepth 20000 in
theorem gX10_turningsTillUnfit_X1_bears_u103X1 : GoodIn wsX10_turningsTillUnfit (va_wsO RX10 103 RX1 "DealtByOpposite$Person" ⟨"DealtByOpposite$Person", "bears", "()I"⟩ yX1_bears wsX1_bears) := goodIn_app (goodIn_of _ (by decide +kernel)) ggX10_turningsTillUnfit_X1_bears
set_option maxRecDepth 20000 in
theorem gX10_turningsTillUnfit_X6_bears_u103X3 : GoodIn wsX10_turningsTillUnfit (va_wsU RX10 103 RX3 "DealtByOpposite$Person" ⟨"DealtByOpposite$Person", "bears", "()I"⟩ yX6_bears wsX6_bears) := goodIn_app (goodIn_of _ (by decide +kernel)) ggX10_turningsTillUnfit_X6_bears
set_option maxRecDepth 20000 in
theorem ggX10_turningsTillUnfit_X4_bears : GoodIn wsX10_turningsTillUnfit wsX4_bears := goodIn_r _ [36] (by decide +kernel) (by decide +kernel)
set_option maxRecDepth 20000 in
theorem gX10_turningsTillUnfit_X4_bears_u103X4 : GoodIn wsX10_turningsTillUnfit (va_wsO RX10 103 RX4 "DealtByOpposite$Person" ⟨"DealtByOpposite$Person", "bears", "()I"⟩ yX4_bears wsX4_bears) := goodIn_app (goodIn_of _ (by decide +kernel)) ggX10_turningsTillUnfit_X4_bears
set_option maxRecDepth 20000 in
theorem ggX10_turningsTillUnfit_X5_bears : GoodIn wsX10_turningsTillUnfit wsX5_bears := goodIn_r _ [40, 41, 25, 42, 27, 28, 29, 30, 14, 31, 16, 17, 18] (by decide +kernel) (by decide +kernel)
set_option maxRecDepth 20000 in
theorem gX10_turningsTillUnfit_X5_bears_u103X5 : GoodIn wsX10_turningsTillUnfit (va_wsO RX10 103 RX5 "DealtByOpposite$Person" ⟨"DealtByOpposite$Person", "bears", "()I"⟩ yX5_bears wsX5_bears) := goodIn_app (goodIn_of _ (by decide +kernel)) ggX10_turningsTillUnfit_X5_bears
set_option maxRecDepth 20000 in
theorem gX10_turningsTillUnfit_X6_bears : GoodIn wsX10_turningsTillUnfit (wsV RX10 103 RX6 yX6_bears wsX6_bears) := goodIn_app (goodIn_of _ (by decide +kernel)) ggX10_turningsTillUnfit_X6_bears
set_option maxRecDepth 20000 in
theorem ggX10_turningsTillUnfit_X8_bears : GoodIn wsX10_turningsTillUnfit wsX8_bears := goodIn_r _ [48, 49, 25, 50, 27, 28, 29, 30, 14, 31, 16, 17, 18] (by decide +kernel) (by decide +kernel)
set_option maxRecDepth 20000 in
theorem gX10_turningsTillUnfit_X8_bears_u103X8 : GoodIn wsX10_turningsTillUnfit (va_wsO RX10 103 RX8 "DealtByOpposite$Person" ⟨"DealtByOpposite$Person", "bears", "()I"⟩ yX8_bears wsX8_bears) := goodIn_app (goodIn_of _ (by decide +kernel)) ggX10_turningsTillUnfit_X8_bears
set_option maxRecDepth 20000 in
theorem ggX10_turningsTillUnfit_X9_bears : GoodIn wsX10_turningsTillUnfit wsX9_bears := goodIn_r _ [29, 30, 14, 31, 16, 17, 18] (by decide +kernel) (by decide +kernel)
set_option maxRecDepth 20000 in
theorem gX10_turningsTillUnfit_X9_bears_u103X9 : GoodIn wsX10_turningsTillUnfit (va_wsO RX10 103 RX9 "DealtByOpposite$Person" ⟨"DealtByOpposite$Person", "bears", "()I"⟩ yX9_bears wsX9_bears) := goodIn_app (goodIn_of _ (by decide +kernel)) ggX10_turningsTillUnfit_X9_bears
set_option maxRecDepth 20000 in
theorem ggX10_turningsTillUnfit_X0_grows : GoodIn wsX10_turningsTillUnfit wsX0_grows := goodIn_r _ [58, 59, 60, 61, 53, 62, 63, 17, 64, 121, 122, 123, 124, 125, 126, 127, 128] (by decide +kernel) (by decide +kernel)
set_option maxRecDepth 20000 in
theorem gX10_turningsTillUnfit_X0_grows_u115X0 : GoodIn wsX10_turningsTillUnfit (va_wsO RX10 115 RX0 "DealtByOpposite$Person" ⟨"DealtByOpposite$Person", "grows", "()I"⟩ yX0_grows wsX0_grows) := goodIn_app (goodIn_of _ (by decide +kernel)) ggX10_turningsTillUnfit_X0_grows
set_option maxRecDepth 20000 in
theorem ggX10_turningsTillUnfit_X1_grows : GoodIn wsX10_turningsTillUnfit wsX1_grows := goodIn_r _ [67] (by decide +kernel) (by decide +kernel)
set_option maxRecDepth 20000 in
theorem gX10_turningsTillUnfit_X1_grows_u115X1 : GoodIn wsX10_turningsTillUnfit (va_wsO RX10 115 RX1 "DealtByOpposite$Person" ⟨"DealtByOpposite$Person", "grows", "()I"⟩ yX1_grows wsX1_grows) := goodIn_app (goodIn_of _ (by decide +kernel)) ggX10_turningsTillUnfit_X1_grows
set_option maxRecDepth 20000 in
theorem ggX10_turningsTillUnfit_X3_grows : GoodIn wsX10_turningsTillUnfit wsX3_grows := goodIn_r _ [71, 72, 73, 74, 56, 57, 58, 59, 60, 61, 53, 62, 63, 17, 64, 121, 122, 123, 124, 125, 126, 127, 128] (by decide +kernel) (by decide +kernel)
set_option maxRecDepth 20000 in
theorem gX10_turningsTillUnfit_X3_grows_u115X3 : GoodIn wsX10_turningsTillUnfit (va_wsO RX10 115 RX3 "DealtByOpposite$Person" ⟨"DealtByOpposite$Person", "grows", "()I"⟩ yX3_grows wsX3_grows) := goodIn_app (goodIn_of _ (by decide +kernel)) ggX10_turningsTillUnfit_X3_grows
set_option maxRecDepth 20000 in
theorem ggX10_turningsTillUnfit_X4_grows : GoodIn wsX10_turningsTillUnfit wsX4_grows := goodIn_r _ [77, 78, 79, 121, 122, 123, 124, 125, 126, 127, 128] (by decide +kernel) (by decide +kernel)
set_option maxRecDepth 20000 in
theorem gX10_turningsTillUnfit_X4_grows_u115X4 : GoodIn wsX10_turningsTillUnfit (va_wsO RX10 115 RX4 "DealtByOpposite$Person" ⟨"DealtByOpposite$Person", "grows", "()I"⟩ yX4_grows wsX4_grows) := goodIn_app (goodIn_of _ (by decide +kernel)) ggX10_turningsTillUnfit_X4_grows
set_option maxRecDepth 20000 in
theorem ggX10_turningsTillUnfit_X5_grows : GoodIn wsX10_turningsTillUnfit wsX5_grows := goodIn_r _ [82, 83, 84, 85, 86, 42, 87, 28, 88, 89, 53, 31, 63, 17, 64, 121, 122, 123, 124, 125, 126, 127, 128] (by decide +kernel) (by decide +kernel)
set_option maxRecDepth 20000 in
theorem gX10_turningsTillUnfit_X5_grows_u115X5 : GoodIn wsX10_turningsTillUnfit (va_wsO RX10 115 RX5 "DealtByOpposite$Person" ⟨"DealtByOpposite$Person", "grows", "()I"⟩ yX5_grows wsX5_grows) := goodIn_app (goodIn_of _ (by decide +kernel)) ggX10_turningsTillUnfit_X5_grows
set_option maxRecDepth 20000 in
theorem ggX10_turningsTillUnfit_X6_grows : GoodIn wsX10_turningsTillUnfit wsX6_grows := goodIn_r _ [64] (by decide +kernel) (by decide +kernel)
set_option maxRecDepth 20000 in
theorem gX10_turningsTillUnfit_X6_grows : GoodIn wsX10_turningsTillUnfit (wsV RX10 115 RX6 yX6_grows wsX6_grows) := goodIn_app (goodIn_of _ (by decide +kernel)) ggX10_turningsTillUnfit_X6_grows
set_option maxRecDepth 20000 in
theorem ggX10_turningsTillUnfit_X8_grows : GoodIn wsX10_turningsTillUnfit wsX8_grows := goodIn_r _ [94, 95, 86, 50, 87, 28, 88, 89, 53, 31, 63, 17, 64] (by decide +kernel) (by decide +kernel)
set_option maxRecDepth 20000 in
theorem gX10_turningsTillUnfit_X8_grows_u115X8 : GoodIn wsX10_turningsTillUnfit (va_wsO RX10 115 RX8 "DealtByOpposite$Person" ⟨"DealtByOpposite$Person", "grows", "()I"⟩ yX8_grows wsX8_grows) := goodIn_app (goodIn_of _ (by decide +kernel)) ggX10_turningsTillUnfit_X8_grows
set_option maxRecDepth 20000 in
theorem ggX10_turningsTillUnfit_X9_grows : GoodIn wsX10_turningsTillUnfit wsX9_grows := goodIn_r _ [88, 89, 53, 31, 63, 17, 64] (by decide +kernel) (by decide +kernel)
set_option maxRecDepth 20000 in
theorem gX10_turningsTillUnfit_X9_grows_u115X9 : GoodIn wsX10_turningsTillUnfit (va_wsO RX10 115 RX9 "DealtByOpposite$Person" ⟨"DealtByOpposite$Person", "grows", "()I"⟩ yX9_grows wsX9_grows) := goodIn_app (goodIn_of _ (by decide +kernel)) ggX10_turningsTillUnfit_X9_grows
set_option maxRecDepth 20000 in
theorem ggX10_turningsTillUnfit_X10_fondOf : GoodIn wsX10_turningsTillUnfit wsX10_fondOf := goodIn_r _ [100, 101, 102, 103, 104, 9, 105, 106, 107, 108, 109, 110, 111, 112, 113, 114, 115, 116, 117, 118, 119, 120] (by decide +kernel) (by decide +kernel)
set_option maxRecDepth 20000 in
theorem gX10_turningsTillUnfit_X10_fondOf : GoodIn wsX10_turningsTillUnfit (wsV RX10 99 RX10 yX10_fondOf wsX10_fondOf) := goodIn_app (goodIn_of _ (by decide +kernel)) ggX10_turningsTillUnfit_X10_fondOf
theorem dX10_turningsTillUnfit_0 : decode cX10_turningsTillUnfit 0 = .ok (.aload_n 0, 1) := by decide +kernel
theorem dX10_turningsTillUnfit_1 : decode cX10_turningsTillUnfit 1 = .ok (.iload_n 1, 1) := by decide +kernel
theorem dX10_turningsTillUnfit_2 : decode cX10_turningsTillUnfit 2 = .ok (.invokevirtual 41, 3) := by decide +kernel
theorem dX10_turningsTillUnfit_5 : decode cX10_turningsTillUnfit 5 = .ok (.invokevirtual 103, 3) := by decide +kernel
theorem dX10_turningsTillUnfit_8 : decode cX10_turningsTillUnfit 8 = .ok (.aload_n 0, 1) := by decide +kernel
theorem dX10_turningsTillUnfit_9 : decode cX10_turningsTillUnfit 9 = .ok (.getfield 35, 3) := by decide +kernel
theorem dX10_turningsTillUnfit_12 : decode cX10_turningsTillUnfit 12 = .ok (.iadd, 1) := by decide +kernel
theorem dX10_turningsTillUnfit_13 : decode cX10_turningsTillUnfit 13 = .ok (.istore_n 3, 1) := by decide +kernel
theorem dX10_turningsTillUnfit_14 : decode cX10_turningsTillUnfit 14 = .ok (.aload_n 0, 1) := by decide +kernel
theorem dX10_turningsTillUnfit_15 : decode cX10_turningsTillUnfit 15 = .ok (.iload_n 1, 1) := by decide +kernel
theorem dX10_turningsTillUnfit_16 : decode cX10_turningsTillUnfit 16 = .ok (.invokevirtual 41, 3) := by decide +kernel
theorem dX10_turningsTillUnfit_19 : decode cX10_turningsTillUnfit 19 = .ok (.invokevirtual 115, 3) := by decide +kernel
theorem dX10_turningsTillUnfit_22 : decode cX10_turningsTillUnfit 22 = .ok (.istore 4, 2) := by decide +kernel
theorem dX10_turningsTillUnfit_24 : decode cX10_turningsTillUnfit 24 = .ok (.aload_n 0, 1) := by decide +kernel
theorem dX10_turningsTillUnfit_25 : decode cX10_turningsTillUnfit 25 = .ok (.iload_n 1, 1) := by decide +kernel
theorem dX10_turningsTillUnfit_26 : decode cX10_turningsTillUnfit 26 = .ok (.iload_n 2, 1) := by decide +kernel
theorem dX10_turningsTillUnfit_27 : decode cX10_turningsTillUnfit 27 = .ok (.invokevirtual 99, 3) := by decide +kernel
theorem dX10_turningsTillUnfit_30 : decode cX10_turningsTillUnfit 30 = .ok (.istore 5, 2) := by decide +kernel
theorem dX10_turningsTillUnfit_32 : decode cX10_turningsTillUnfit 32 = .ok (.iconst 0, 1) := by decide +kernel
theorem dX10_turningsTillUnfit_33 : decode cX10_turningsTillUnfit 33 = .ok (.istore 6, 2) := by decide +kernel
theorem dX10_turningsTillUnfit_35 : decode cX10_turningsTillUnfit 35 = .ok (.iload 6, 2) := by decide +kernel
theorem dX10_turningsTillUnfit_37 : decode cX10_turningsTillUnfit 37 = .ok (.bipush 99, 2) := by decide +kernel
theorem dX10_turningsTillUnfit_39 : decode cX10_turningsTillUnfit 39 = .ok (.if_icmp .ge 30, 3) := by decide +kernel
theorem dX10_turningsTillUnfit_42 : decode cX10_turningsTillUnfit 42 = .ok (.iload 5, 2) := by decide +kernel
theorem dX10_turningsTillUnfit_44 : decode cX10_turningsTillUnfit 44 = .ok (.iload_n 3, 1) := by decide +kernel
theorem dX10_turningsTillUnfit_45 : decode cX10_turningsTillUnfit 45 = .ok (.if_icmp .le 6, 3) := by decide +kernel
theorem dX10_turningsTillUnfit_48 : decode cX10_turningsTillUnfit 48 = .ok (.iload 6, 2) := by decide +kernel
theorem dX10_turningsTillUnfit_50 : decode cX10_turningsTillUnfit 50 = .ok (.ireturn, 1) := by decide +kernel
theorem dX10_turningsTillUnfit_51 : decode cX10_turningsTillUnfit 51 = .ok (.bipush 9, 2) := by decide +kernel
theorem dX10_turningsTillUnfit_53 : decode cX10_turningsTillUnfit 53 = .ok (.iload 5, 2) := by decide +kernel
theorem dX10_turningsTillUnfit_55 : decode cX10_turningsTillUnfit 55 = .ok (.iload 4, 2) := by decide +kernel
theorem dX10_turningsTillUnfit_57 : decode cX10_turningsTillUnfit 57 = .ok (.iadd, 1) := by decide +kernel
theorem dX10_turningsTillUnfit_58 : decode cX10_turningsTillUnfit 58 = .ok (.invokestatic 110, 3) := by decide +kernel
theorem dX10_turningsTillUnfit_61 : decode cX10_turningsTillUnfit 61 = .ok (.istore 5, 2) := by decide +kernel
theorem dX10_turningsTillUnfit_63 : decode cX10_turningsTillUnfit 63 = .ok (.iinc 6 1, 3) := by decide +kernel
theorem dX10_turningsTillUnfit_66 : decode cX10_turningsTillUnfit 66 = .ok (.goto (-31), 3) := by decide +kernel
theorem dX10_turningsTillUnfit_69 : decode cX10_turningsTillUnfit 69 = .ok (.bipush 99, 2) := by decide +kernel
theorem dX10_turningsTillUnfit_71 : decode cX10_turningsTillUnfit 71 = .ok (.ireturn, 1) := by decide +kernel
set_option maxRecDepth 20000 in
theorem ggX10_allTurned_X10_turnedOf : GoodIn wsX10_allTurned wsX10_turnedOf := goodIn_r _ [6, 7, 8, 9, 10, 5, 11, 1, 12, 13, 14, 15, 16, 17, 18, 19, 20, 21] (by decide +kernel) (by decide +kernel)
set_option maxRecDepth 20000 in
theorem gX10_allTurned_X10_turnedOf : GoodIn wsX10_allTurned (wsV RX10 92 RX10 yX10_turnedOf wsX10_turnedOf) := goodIn_app (goodIn_of _ (by decide +kernel)) ggX10_allTurned_X10_turnedOf
theorem dX10_allTurned_0 : decode cX10_allTurned 0 = .ok (.iconst 0, 1) := by decide +kernel
theorem dX10_allTurned_1 : decode cX10_allTurned 1 = .ok (.istore_n 1, 1) := by decide +kernel
theorem dX10_allTurned_2 : decode cX10_allTurned 2 = .ok (.iconst 0, 1) := by decide +kernel
theorem dX10_allTurned_3 : decode cX10_allTurned 3 = .ok (.istore_n 2, 1) := by decide +kernel
theorem dX10_allTurned_4 : decode cX10_allTurned 4 = .ok (.iload_n 2, 1) := by decide +kernel
theorem dX10_allTurned_5 : decode cX10_allTurned 5 = .ok (.aload_n 0, 1) := by decide +kernel
theorem dX10_allTurned_6 : decode cX10_allTurned 6 = .ok (.getfield 31, 3) := by decide +kernel
theorem dX10_allTurned_9 : decode cX10_allTurned 9 = .ok (.if_icmp .ge 17, 3) := by decide +kernel
theorem dX10_allTurned_12 : decode cX10_allTurned 12 = .ok (.iload_n 1, 1) := by decide +kernel
theorem dX10_allTurned_13 : decode cX10_allTurned 13 = .ok (.aload_n 0, 1) := by decide +kernel
theorem dX10_allTurned_14 : decode cX10_allTurned 14 = .ok (.iload_n 2, 1) := by decide +kernel
theorem dX10_allTurned_15 : decode cX10_allTurned 15 = .ok (.invokevirtual 92, 3) := by decide +kernel
theorem dX10_allTurned_18 : decode cX10_allTurned 18 = .ok (.iadd, 1) := by decide +kernel
theorem dX10_allTurned_19 : decode cX10_allTurned 19 = .ok (.istore_n 1, 1) := by decide +kernel
theorem dX10_allTurned_20 : decode cX10_allTurned 20 = .ok (.iinc 2 1, 3) := by decide +kernel
theorem dX10_allTurned_23 : decode cX10_allTurned 23 = .ok (.goto (-19), 3) := by decide +kernel
theorem dX10_allTurned_26 : decode cX10_allTurned 26 = .ok (.iload_n 1, 1) := by decide +kernel
theorem dX10_allTurned_27 : decode cX10_allTurned 27 = .ok (.ireturn, 1) := by decide +kernel
set_option maxRecDepth 20000 in
theorem ggX10_allFond_X10_fondOf : GoodIn wsX10_allFond wsX10_fondOf := goodIn_r _ [6, 7, 8, 9, 10, 5, 11, 12, 13, 14, 15, 1, 16, 17, 18, 19, 20, 21, 22, 23, 24, 25] (by decide +kernel) (by decide +kernel)
set_option maxRecDepth 20000 in
theorem gX10_allFond_X10_fondOf : GoodIn wsX10_allFond (wsV RX10 99 RX10 yX10_fondOf wsX10_fondOf) := goodIn_app (goodIn_of _ (by decide +kernel)) ggX10_allFond_X10_fondOf
theorem dX10_allFond_0 : decode cX10_allFond 0 = .ok (.iconst 0, 1) := by decide +kernel
theorem dX10_allFond_1 : decode cX10_allFond 1 = .ok (.istore_n 1, 1) := by decide +kernel
theorem dX10_allFond_2 : decode cX10_allFond 2 = .ok (.iconst 0, 1) := by decide +kernel
theorem dX10_allFond_3 : decode cX10_allFond 3 = .ok (.istore_n 2, 1) := by decide +kernel
theorem dX10_allFond_4 : decode cX10_allFond 4 = .ok (.iload_n 2, 1) := by decide +kernel
theorem dX10_allFond_5 : decode cX10_allFond 5 = .ok (.aload_n 0, 1) := by decide +kernel
theorem dX10_allFond_6 : decode cX10_allFond 6 = .ok (.getfield 31, 3) := by decide +kernel
theorem dX10_allFond_9 : decode cX10_allFond 9 = .ok (.if_icmp .ge 34, 3) := by decide +kernel
theorem dX10_allFond_12 : decode cX10_allFond 12 = .ok (.iconst 0, 1) := by decide +kernel
theorem dX10_allFond_13 : decode cX10_allFond 13 = .ok (.istore_n 3, 1) := by decide +kernel
theorem dX10_allFond_14 : decode cX10_allFond 14 = .ok (.iload_n 3, 1) := by decide +kernel
theorem dX10_allFond_15 : decode cX10_allFond 15 = .ok (.aload_n 0, 1) := by decide +kernel
theorem dX10_allFond_16 : decode cX10_allFond 16 = .ok (.getfield 31, 3) := by decide +kernel
theorem dX10_allFond_19 : decode cX10_allFond 19 = .ok (.if_icmp .ge 18, 3) := by decide +kernel
theorem dX10_allFond_22 : decode cX10_allFond 22 = .ok (.iload_n 1, 1) := by decide +kernel
theorem dX10_allFond_23 : decode cX10_allFond 23 = .ok (.aload_n 0, 1) := by decide +kernel
theorem dX10_allFond_24 : decode cX10_allFond 24 = .ok (.iload_n 2, 1) := by decide +kernel
theorem dX10_allFond_25 : decode cX10_allFond 25 = .ok (.iload_n 3, 1) := by decide +kernel
theorem dX10_allFond_26 : decode cX10_allFond 26 = .ok (.invokevirtual 99, 3) := by decide +kernel
theorem dX10_allFond_29 : decode cX10_allFond 29 = .ok (.iadd, 1) := by decide +kernel
theorem dX10_allFond_30 : decode cX10_allFond 30 = .ok (.istore_n 1, 1) := by decide +kernel
theorem dX10_allFond_31 : decode cX10_allFond 31 = .ok (.iinc 3 1, 3) := by decide +kernel
theorem dX10_allFond_34 : decode cX10_allFond 34 = .ok (.goto (-20), 3) := by decide +kernel
theorem dX10_allFond_37 : decode cX10_allFond 37 = .ok (.iinc 2 1, 3) := by decide +kernel
theorem dX10_allFond_40 : decode cX10_allFond 40 = .ok (.goto (-36), 3) := by decide +kernel
theorem dX10_allFond_43 : decode cX10_allFond 43 = .ok (.iload_n 1, 1) := by decide +kernel
theorem dX10_allFond_44 : decode cX10_allFond 44 = .ok (.ireturn, 1) := by decide +kernel
set_option maxRecDepth 20000 in
theorem ggX10_toldWhole_X10_turnedOf : GoodIn wsX10_toldWhole wsX10_turnedOf := goodIn_r _ [6, 7, 8, 9, 10, 5, 11, 1, 12, 13, 14, 15, 16, 17, 18, 19, 20, 21] (by decide +kernel) (by decide +kernel)
set_option maxRecDepth 20000 in
theorem gX10_toldWhole_X10_turnedOf : GoodIn wsX10_toldWhole (wsV RX10 92 RX10 yX10_turnedOf wsX10_turnedOf) := goodIn_app (goodIn_of _ (by decide +kernel)) ggX10_toldWhole_X10_turnedOf
theorem dX10_toldWhole_0 : decode cX10_toldWhole 0 = .ok (.iconst 0, 1) := by decide +kernel
theorem dX10_toldWhole_1 : decode cX10_toldWhole 1 = .ok (.istore_n 1, 1) := by decide +kernel
theorem dX10_toldWhole_2 : decode cX10_toldWhole 2 = .ok (.iconst 0, 1) := by decide +kernel
theorem dX10_toldWhole_3 : decode cX10_toldWhole 3 = .ok (.istore_n 2, 1) := by decide +kernel
theorem dX10_toldWhole_4 : decode cX10_toldWhole 4 = .ok (.iload_n 2, 1) := by decide +kernel
theorem dX10_toldWhole_5 : decode cX10_toldWhole 5 = .ok (.aload_n 0, 1) := by decide +kernel
theorem dX10_toldWhole_6 : decode cX10_toldWhole 6 = .ok (.getfield 31, 3) := by decide +kernel
theorem dX10_toldWhole_9 : decode cX10_toldWhole 9 = .ok (.if_icmp .ge 25, 3) := by decide +kernel
theorem dX10_toldWhole_12 : decode cX10_toldWhole 12 = .ok (.aload_n 0, 1) := by decide +kernel
theorem dX10_toldWhole_13 : decode cX10_toldWhole 13 = .ok (.iload_n 2, 1) := by decide +kernel
theorem dX10_toldWhole_14 : decode cX10_toldWhole 14 = .ok (.invokevirtual 92, 3) := by decide +kernel
theorem dX10_toldWhole_17 : decode cX10_toldWhole 17 = .ok (.bipush 9, 2) := by decide +kernel
theorem dX10_toldWhole_19 : decode cX10_toldWhole 19 = .ok (.if_icmp .lt 9, 3) := by decide +kernel
theorem dX10_toldWhole_22 : decode cX10_toldWhole 22 = .ok (.iload_n 1, 1) := by decide +kernel
theorem dX10_toldWhole_23 : decode cX10_toldWhole 23 = .ok (.iconst 1, 1) := by decide +kernel
theorem dX10_toldWhole_24 : decode cX10_toldWhole 24 = .ok (.iload_n 2, 1) := by decide +kernel
theorem dX10_toldWhole_25 : decode cX10_toldWhole 25 = .ok (.ishl, 1) := by decide +kernel
theorem dX10_toldWhole_26 : decode cX10_toldWhole 26 = .ok (.ior, 1) := by decide +kernel
theorem dX10_toldWhole_27 : decode cX10_toldWhole 27 = .ok (.istore_n 1, 1) := by decide +kernel
theorem dX10_toldWhole_28 : decode cX10_toldWhole 28 = .ok (.iinc 2 1, 3) := by decide +kernel
theorem dX10_toldWhole_31 : decode cX10_toldWhole 31 = .ok (.goto (-27), 3) := by decide +kernel
theorem dX10_toldWhole_34 : decode cX10_toldWhole 34 = .ok (.iload_n 1, 1) := by decide +kernel
theorem dX10_toldWhole_35 : decode cX10_toldWhole 35 = .ok (.ireturn, 1) := by decide +kernel
