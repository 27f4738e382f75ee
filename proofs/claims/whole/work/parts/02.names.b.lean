theorem dX0_init_0 : decode cX0_init 0 = .ok (.aload_n 0, 1) := by decide +kernel
theorem dX0_init_1 : decode cX0_init 1 = .ok (.invokespecial 3, 3) := by decide +kernel
theorem dX0_init_4 : decode cX0_init 4 = .ok (.aload_n 0, 1) := by decide +kernel
theorem dX0_init_5 : decode cX0_init 5 = .ok (.bipush 120, 2) := by decide +kernel
theorem dX0_init_7 : decode cX0_init 7 = .ok (.newarray .int, 2) := by decide +kernel
theorem dX0_init_9 : decode cX0_init 9 = .ok (.putfield 9, 3) := by decide +kernel
theorem dX0_init_12 : decode cX0_init 12 = .ok (.return_, 1) := by decide +kernel
set_option maxRecDepth 20000 in
theorem ggX0_owed_X7_isFarmer : GoodIn wsX0_owed wsX7_isFarmer := goodIn_r _ [4, 5, 6, 3, 7] (by decide +kernel) (by decide +kernel)
set_option maxRecDepth 20000 in
theorem gX0_owed_X7_isFarmer_n15 : GoodIn wsX0_owed (wsX7_isFarmer) := ggX0_owed_X7_isFarmer
set_option maxRecDepth 20000 in
theorem ggX0_owed_X7_isSort : GoodIn wsX0_owed wsX7_isSort := goodIn_r _ [9, 5, 6, 3, 7] (by decide +kernel) (by decide +kernel)
set_option maxRecDepth 20000 in
theorem gX0_owed_X7_isSort_n19 : GoodIn wsX0_owed (wsX7_isSort) := ggX0_owed_X7_isSort
theorem dX0_owed_0 : decode cX0_owed 0 = .ok (.iload_n 1, 1) := by decide +kernel
theorem dX0_owed_1 : decode cX0_owed 1 = .ok (.invokestatic 15, 3) := by decide +kernel
theorem dX0_owed_4 : decode cX0_owed 4 = .ok (.ifCond .eq 23, 3) := by decide +kernel
theorem dX0_owed_7 : decode cX0_owed 7 = .ok (.iload_n 2, 1) := by decide +kernel
theorem dX0_owed_8 : decode cX0_owed 8 = .ok (.invokestatic 19, 3) := by decide +kernel
theorem dX0_owed_11 : decode cX0_owed 11 = .ok (.ifCond .eq 16, 3) := by decide +kernel
theorem dX0_owed_14 : decode cX0_owed 14 = .ok (.aload_n 0, 1) := by decide +kernel
theorem dX0_owed_15 : decode cX0_owed 15 = .ok (.getfield 9, 3) := by decide +kernel
theorem dX0_owed_18 : decode cX0_owed 18 = .ok (.iload_n 1, 1) := by decide +kernel
theorem dX0_owed_19 : decode cX0_owed 19 = .ok (.iconst 3, 1) := by decide +kernel
theorem dX0_owed_20 : decode cX0_owed 20 = .ok (.imul, 1) := by decide +kernel
theorem dX0_owed_21 : decode cX0_owed 21 = .ok (.iload_n 2, 1) := by decide +kernel
theorem dX0_owed_22 : decode cX0_owed 22 = .ok (.iadd, 1) := by decide +kernel
theorem dX0_owed_23 : decode cX0_owed 23 = .ok (.iaload, 1) := by decide +kernel
theorem dX0_owed_24 : decode cX0_owed 24 = .ok (.goto 4, 3) := by decide +kernel
theorem dX0_owed_27 : decode cX0_owed 27 = .ok (.iconst 0, 1) := by decide +kernel
theorem dX0_owed_28 : decode cX0_owed 28 = .ok (.ireturn, 1) := by decide +kernel
set_option maxRecDepth 20000 in
theorem ggX0_change_X7_isFarmer : GoodIn wsX0_change wsX7_isFarmer := goodIn_r _ [4, 5, 6, 3, 7] (by decide +kernel) (by decide +kernel)
set_option maxRecDepth 20000 in
theorem gX0_change_X7_isFarmer_n15 : GoodIn wsX0_change (wsX7_isFarmer) := ggX0_change_X7_isFarmer
set_option maxRecDepth 20000 in
theorem ggX0_change_X7_isSort : GoodIn wsX0_change wsX7_isSort := goodIn_r _ [9, 5, 6, 3, 7] (by decide +kernel) (by decide +kernel)
set_option maxRecDepth 20000 in
theorem gX0_change_X7_isSort_n19 : GoodIn wsX0_change (wsX7_isSort) := ggX0_change_X7_isSort
theorem dX0_change_0 : decode cX0_change 0 = .ok (.iload_n 1, 1) := by decide +kernel
theorem dX0_change_1 : decode cX0_change 1 = .ok (.invokestatic 15, 3) := by decide +kernel
theorem dX0_change_4 : decode cX0_change 4 = .ok (.ifCond .eq 24, 3) := by decide +kernel
theorem dX0_change_7 : decode cX0_change 7 = .ok (.iload_n 2, 1) := by decide +kernel
theorem dX0_change_8 : decode cX0_change 8 = .ok (.invokestatic 19, 3) := by decide +kernel
theorem dX0_change_11 : decode cX0_change 11 = .ok (.ifCond .eq 17, 3) := by decide +kernel
theorem dX0_change_14 : decode cX0_change 14 = .ok (.aload_n 0, 1) := by decide +kernel
theorem dX0_change_15 : decode cX0_change 15 = .ok (.getfield 9, 3) := by decide +kernel
theorem dX0_change_18 : decode cX0_change 18 = .ok (.iload_n 1, 1) := by decide +kernel
theorem dX0_change_19 : decode cX0_change 19 = .ok (.iconst 3, 1) := by decide +kernel
theorem dX0_change_20 : decode cX0_change 20 = .ok (.imul, 1) := by decide +kernel
theorem dX0_change_21 : decode cX0_change 21 = .ok (.iload_n 2, 1) := by decide +kernel
theorem dX0_change_22 : decode cX0_change 22 = .ok (.iadd, 1) := by decide +kernel
theorem dX0_change_23 : decode cX0_change 23 = .ok (.dup2, 1) := by decide +kernel
theorem dX0_change_24 : decode cX0_change 24 = .ok (.iaload, 1) := by decide +kernel
theorem dX0_change_25 : decode cX0_change 25 = .ok (.iload_n 3, 1) := by decide +kernel
theorem dX0_change_26 : decode cX0_change 26 = .ok (.iadd, 1) := by decide +kernel
theorem dX0_change_27 : decode cX0_change 27 = .ok (.iastore, 1) := by decide +kernel
theorem dX0_change_28 : decode cX0_change 28 = .ok (.return_, 1) := by decide +kernel
set_option maxRecDepth 20000 in
theorem ggX0_settle_X0_owed : GoodIn wsX0_settle wsX0_owed := goodIn_r _ [10, 11, 12, 13, 14, 15, 16, 17, 18, 19, 26] (by decide +kernel) (by decide +kernel)
set_option maxRecDepth 20000 in
theorem gX0_settle_X0_owed : GoodIn wsX0_settle (wsV RX0 22 RX0 yX0_owed wsX0_owed) := goodIn_app (goodIn_of _ (by decide +kernel)) ggX0_settle_X0_owed
set_option maxRecDepth 20000 in
theorem ggX0_settle_X7_divideUp : GoodIn wsX0_settle wsX7_divideUp := goodIn_r _ [21] (by decide +kernel) (by decide +kernel)
set_option maxRecDepth 20000 in
theorem gX0_settle_X7_divideUp_n28 : GoodIn wsX0_settle (wsX7_divideUp) := ggX0_settle_X7_divideUp
set_option maxRecDepth 20000 in
theorem ggX0_settle_X0_change : GoodIn wsX0_settle wsX0_change := goodIn_r _ [25, 11, 12, 13, 14, 15, 16, 17, 18, 19, 26] (by decide +kernel) (by decide +kernel)
set_option maxRecDepth 20000 in
theorem gX0_settle_X0_change : GoodIn wsX0_settle (wsV RX0 37 RX0 yX0_change wsX0_change) := goodIn_app (goodIn_of _ (by decide +kernel)) ggX0_settle_X0_change
theorem dX0_settle_0 : decode cX0_settle 0 = .ok (.iload_n 3, 1) := by decide +kernel
theorem dX0_settle_1 : decode cX0_settle 1 = .ok (.istore 4, 2) := by decide +kernel
theorem dX0_settle_3 : decode cX0_settle 3 = .ok (.iload_n 2, 1) := by decide +kernel
theorem dX0_settle_4 : decode cX0_settle 4 = .ok (.istore 5, 2) := by decide +kernel
theorem dX0_settle_6 : decode cX0_settle 6 = .ok (.iload 5, 2) := by decide +kernel
theorem dX0_settle_8 : decode cX0_settle 8 = .ok (.iconst 3, 1) := by decide +kernel
theorem dX0_settle_9 : decode cX0_settle 9 = .ok (.if_icmp .ge 88, 3) := by decide +kernel
theorem dX0_settle_12 : decode cX0_settle 12 = .ok (.iload 4, 2) := by decide +kernel
theorem dX0_settle_14 : decode cX0_settle 14 = .ok (.ifCond .le 83, 3) := by decide +kernel
theorem dX0_settle_17 : decode cX0_settle 17 = .ok (.bipush 100, 2) := by decide +kernel
theorem dX0_settle_19 : decode cX0_settle 19 = .ok (.bipush 10, 2) := by decide +kernel
theorem dX0_settle_21 : decode cX0_settle 21 = .ok (.iload 5, 2) := by decide +kernel
theorem dX0_settle_23 : decode cX0_settle 23 = .ok (.iload_n 2, 1) := by decide +kernel
theorem dX0_settle_24 : decode cX0_settle 24 = .ok (.isub, 1) := by decide +kernel
theorem dX0_settle_25 : decode cX0_settle 25 = .ok (.imul, 1) := by decide +kernel
theorem dX0_settle_26 : decode cX0_settle 26 = .ok (.iadd, 1) := by decide +kernel
theorem dX0_settle_27 : decode cX0_settle 27 = .ok (.istore 6, 2) := by decide +kernel
theorem dX0_settle_29 : decode cX0_settle 29 = .ok (.aload_n 0, 1) := by decide +kernel
theorem dX0_settle_30 : decode cX0_settle 30 = .ok (.iload_n 1, 1) := by decide +kernel
theorem dX0_settle_31 : decode cX0_settle 31 = .ok (.iload 5, 2) := by decide +kernel
theorem dX0_settle_33 : decode cX0_settle 33 = .ok (.invokevirtual 22, 3) := by decide +kernel
theorem dX0_settle_36 : decode cX0_settle 36 = .ok (.i2l, 1) := by decide +kernel
theorem dX0_settle_37 : decode cX0_settle 37 = .ok (.lstore 7, 2) := by decide +kernel
theorem dX0_settle_39 : decode cX0_settle 39 = .ok (.iload 4, 2) := by decide +kernel
theorem dX0_settle_41 : decode cX0_settle 41 = .ok (.i2l, 1) := by decide +kernel
theorem dX0_settle_42 : decode cX0_settle 42 = .ok (.ldc2_w 26, 3) := by decide +kernel
theorem dX0_settle_45 : decode cX0_settle 45 = .ok (.lload 7, 2) := by decide +kernel
theorem dX0_settle_47 : decode cX0_settle 47 = .ok (.lmul, 1) := by decide +kernel
theorem dX0_settle_48 : decode cX0_settle 48 = .ok (.iload 6, 2) := by decide +kernel
theorem dX0_settle_50 : decode cX0_settle 50 = .ok (.i2l, 1) := by decide +kernel
theorem dX0_settle_51 : decode cX0_settle 51 = .ok (.invokestatic 28, 3) := by decide +kernel
theorem dX0_settle_54 : decode cX0_settle 54 = .ok (.invokestatic 32, 3) := by decide +kernel
theorem dX0_settle_57 : decode cX0_settle 57 = .ok (.lstore 9, 2) := by decide +kernel
theorem dX0_settle_59 : decode cX0_settle 59 = .ok (.aload_n 0, 1) := by decide +kernel
theorem dX0_settle_60 : decode cX0_settle 60 = .ok (.iload_n 1, 1) := by decide +kernel
theorem dX0_settle_61 : decode cX0_settle 61 = .ok (.iload 5, 2) := by decide +kernel
theorem dX0_settle_63 : decode cX0_settle 63 = .ok (.lload 7, 2) := by decide +kernel
theorem dX0_settle_65 : decode cX0_settle 65 = .ok (.lload 9, 2) := by decide +kernel
theorem dX0_settle_67 : decode cX0_settle 67 = .ok (.iload 6, 2) := by decide +kernel
theorem dX0_settle_69 : decode cX0_settle 69 = .ok (.i2l, 1) := by decide +kernel
theorem dX0_settle_70 : decode cX0_settle 70 = .ok (.lmul, 1) := by decide +kernel
theorem dX0_settle_71 : decode cX0_settle 71 = .ok (.ldc2_w 26, 3) := by decide +kernel
theorem dX0_settle_74 : decode cX0_settle 74 = .ok (.ldiv, 1) := by decide +kernel
theorem dX0_settle_75 : decode cX0_settle 75 = .ok (.invokestatic 32, 3) := by decide +kernel
theorem dX0_settle_78 : decode cX0_settle 78 = .ok (.lneg, 1) := by decide +kernel
theorem dX0_settle_79 : decode cX0_settle 79 = .ok (.l2i, 1) := by decide +kernel
theorem dX0_settle_80 : decode cX0_settle 80 = .ok (.invokevirtual 37, 3) := by decide +kernel
theorem dX0_settle_83 : decode cX0_settle 83 = .ok (.iload 4, 2) := by decide +kernel
theorem dX0_settle_85 : decode cX0_settle 85 = .ok (.lload 9, 2) := by decide +kernel
theorem dX0_settle_87 : decode cX0_settle 87 = .ok (.l2i, 1) := by decide +kernel
theorem dX0_settle_88 : decode cX0_settle 88 = .ok (.isub, 1) := by decide +kernel
theorem dX0_settle_89 : decode cX0_settle 89 = .ok (.istore 4, 2) := by decide +kernel
theorem dX0_settle_91 : decode cX0_settle 91 = .ok (.iinc 5 1, 3) := by decide +kernel
theorem dX0_settle_94 : decode cX0_settle 94 = .ok (.goto (-88), 3) := by decide +kernel
theorem dX0_settle_97 : decode cX0_settle 97 = .ok (.iload_n 3, 1) := by decide +kernel
theorem dX0_settle_98 : decode cX0_settle 98 = .ok (.iload 4, 2) := by decide +kernel
theorem dX0_settle_100 : decode cX0_settle 100 = .ok (.isub, 1) := by decide +kernel
theorem dX0_settle_101 : decode cX0_settle 101 = .ok (.ireturn, 1) := by decide +kernel
theorem dX1_init_0 : decode cX1_init 0 = .ok (.aload_n 0, 1) := by decide +kernel
theorem dX1_init_1 : decode cX1_init 1 = .ok (.invokespecial 1, 3) := by decide +kernel
theorem dX1_init_4 : decode cX1_init 4 = .ok (.aload_n 0, 1) := by decide +kernel
theorem dX1_init_5 : decode cX1_init 5 = .ok (.iload_n 1, 1) := by decide +kernel
theorem dX1_init_6 : decode cX1_init 6 = .ok (.putfield 7, 3) := by decide +kernel
theorem dX1_init_9 : decode cX1_init 9 = .ok (.aload_n 0, 1) := by decide +kernel
theorem dX1_init_10 : decode cX1_init 10 = .ok (.iload_n 2, 1) := by decide +kernel
theorem dX1_init_11 : decode cX1_init 11 = .ok (.putfield 13, 3) := by decide +kernel
theorem dX1_init_14 : decode cX1_init 14 = .ok (.aload_n 0, 1) := by decide +kernel
theorem dX1_init_15 : decode cX1_init 15 = .ok (.iload_n 3, 1) := by decide +kernel
theorem dX1_init_16 : decode cX1_init 16 = .ok (.putfield 16, 3) := by decide +kernel
theorem dX1_init_19 : decode cX1_init 19 = .ok (.return_, 1) := by decide +kernel
theorem dX2_init_0 : decode cX2_init 0 = .ok (.aload_n 0, 1) := by decide +kernel
theorem dX2_init_1 : decode cX2_init 1 = .ok (.invokespecial 3, 3) := by decide +kernel
theorem dX2_init_4 : decode cX2_init 4 = .ok (.aload_n 0, 1) := by decide +kernel
theorem dX2_init_5 : decode cX2_init 5 = .ok (.iconst 0, 1) := by decide +kernel
theorem dX2_init_6 : decode cX2_init 6 = .ok (.putfield 9, 3) := by decide +kernel
theorem dX2_init_9 : decode cX2_init 9 = .ok (.aload_n 0, 1) := by decide +kernel
theorem dX2_init_10 : decode cX2_init 10 = .ok (.iconst 0, 1) := by decide +kernel
theorem dX2_init_11 : decode cX2_init 11 = .ok (.putfield 15, 3) := by decide +kernel
theorem dX2_init_14 : decode cX2_init 14 = .ok (.aload_n 0, 1) := by decide +kernel
theorem dX2_init_15 : decode cX2_init 15 = .ok (.iconst 0, 1) := by decide +kernel
theorem dX2_init_16 : decode cX2_init 16 = .ok (.putfield 18, 3) := by decide +kernel
theorem dX2_init_19 : decode cX2_init 19 = .ok (.aload_n 0, 1) := by decide +kernel
theorem dX2_init_20 : decode cX2_init 20 = .ok (.iconst 0, 1) := by decide +kernel
theorem dX2_init_21 : decode cX2_init 21 = .ok (.putfield 21, 3) := by decide +kernel
theorem dX2_init_24 : decode cX2_init 24 = .ok (.aload_n 0, 1) := by decide +kernel
theorem dX2_init_25 : decode cX2_init 25 = .ok (.iconst 0, 1) := by decide +kernel
theorem dX2_init_26 : decode cX2_init 26 = .ok (.putfield 24, 3) := by decide +kernel
theorem dX2_init_29 : decode cX2_init 29 = .ok (.aload_n 0, 1) := by decide +kernel
theorem dX2_init_30 : decode cX2_init 30 = .ok (.iconst 0, 1) := by decide +kernel
theorem dX2_init_31 : decode cX2_init 31 = .ok (.putfield 27, 3) := by decide +kernel
theorem dX2_init_34 : decode cX2_init 34 = .ok (.aload_n 0, 1) := by decide +kernel
theorem dX2_init_35 : decode cX2_init 35 = .ok (.iconst (-1), 1) := by decide +kernel
theorem dX2_init_36 : decode cX2_init 36 = .ok (.putfield 30, 3) := by decide +kernel
theorem dX2_init_39 : decode cX2_init 39 = .ok (.aload_n 0, 1) := by decide +kernel
theorem dX2_init_40 : decode cX2_init 40 = .ok (.iconst 0, 1) := by decide +kernel
theorem dX2_init_41 : decode cX2_init 41 = .ok (.putfield 33, 3) := by decide +kernel
theorem dX2_init_44 : decode cX2_init 44 = .ok (.aload_n 0, 1) := by decide +kernel
theorem dX2_init_45 : decode cX2_init 45 = .ok (.iload_n 1, 1) := by decide +kernel
theorem dX2_init_46 : decode cX2_init 46 = .ok (.putfield 37, 3) := by decide +kernel
theorem dX2_init_49 : decode cX2_init 49 = .ok (.aload_n 0, 1) := by decide +kernel
theorem dX2_init_50 : decode cX2_init 50 = .ok (.iload_n 2, 1) := by decide +kernel
theorem dX2_init_51 : decode cX2_init 51 = .ok (.putfield 40, 3) := by decide +kernel
theorem dX2_init_54 : decode cX2_init 54 = .ok (.aload_n 0, 1) := by decide +kernel
theorem dX2_init_55 : decode cX2_init 55 = .ok (.aload_n 3, 1) := by decide +kernel
theorem dX2_init_56 : decode cX2_init 56 = .ok (.putfield 43, 3) := by decide +kernel
theorem dX2_init_59 : decode cX2_init 59 = .ok (.aload_n 0, 1) := by decide +kernel
theorem dX2_init_60 : decode cX2_init 60 = .ok (.iload 4, 2) := by decide +kernel
theorem dX2_init_62 : decode cX2_init 62 = .ok (.putfield 47, 3) := by decide +kernel
theorem dX2_init_65 : decode cX2_init 65 = .ok (.return_, 1) := by decide +kernel
theorem dX2_isWaiting_0 : decode cX2_isWaiting 0 = .ok (.aload_n 0, 1) := by decide +kernel
theorem dX2_isWaiting_1 : decode cX2_isWaiting 1 = .ok (.getfield 9, 3) := by decide +kernel
theorem dX2_isWaiting_4 : decode cX2_isWaiting 4 = .ok (.iconst 2, 1) := by decide +kernel
theorem dX2_isWaiting_5 : decode cX2_isWaiting 5 = .ok (.if_icmp .gt 7, 3) := by decide +kernel
theorem dX2_isWaiting_8 : decode cX2_isWaiting 8 = .ok (.iconst 1, 1) := by decide +kernel
theorem dX2_isWaiting_9 : decode cX2_isWaiting 9 = .ok (.goto 4, 3) := by decide +kernel
theorem dX2_isWaiting_12 : decode cX2_isWaiting 12 = .ok (.iconst 0, 1) := by decide +kernel
theorem dX2_isWaiting_13 : decode cX2_isWaiting 13 = .ok (.ireturn, 1) := by decide +kernel
set_option maxRecDepth 20000 in
theorem ggX2_mayBecomeLate_X2_isWaiting : GoodIn wsX2_mayBecomeLate wsX2_isWaiting := goodIn_r _ [6, 7, 8, 9, 10, 11, 12, 13, 14, 15, 16, 17, 18, 19] (by decide +kernel) (by decide +kernel)
set_option maxRecDepth 20000 in
theorem gX2_mayBecomeLate_X2_isWaiting : GoodIn wsX2_mayBecomeLate (wsV RX2 50 RX2 yX2_isWaiting wsX2_isWaiting) := goodIn_app (goodIn_of _ (by decide +kernel)) ggX2_mayBecomeLate_X2_isWaiting
theorem dX2_mayBecomeLate_0 : decode cX2_mayBecomeLate 0 = .ok (.aload_n 0, 1) := by decide +kernel
theorem dX2_mayBecomeLate_1 : decode cX2_mayBecomeLate 1 = .ok (.invokevirtual 50, 3) := by decide +kernel
theorem dX2_mayBecomeLate_4 : decode cX2_mayBecomeLate 4 = .ok (.ifCond .eq 30, 3) := by decide +kernel
theorem dX2_mayBecomeLate_7 : decode cX2_mayBecomeLate 7 = .ok (.aload_n 0, 1) := by decide +kernel
theorem dX2_mayBecomeLate_8 : decode cX2_mayBecomeLate 8 = .ok (.getfield 40, 3) := by decide +kernel
theorem dX2_mayBecomeLate_11 : decode cX2_mayBecomeLate 11 = .ok (.ifCond .eq 19, 3) := by decide +kernel
theorem dX2_mayBecomeLate_14 : decode cX2_mayBecomeLate 14 = .ok (.aload_n 0, 1) := by decide +kernel
theorem dX2_mayBecomeLate_15 : decode cX2_mayBecomeLate 15 = .ok (.getfield 40, 3) := by decide +kernel
theorem dX2_mayBecomeLate_18 : decode cX2_mayBecomeLate 18 = .ok (.iconst 1, 1) := by decide +kernel
theorem dX2_mayBecomeLate_19 : decode cX2_mayBecomeLate 19 = .ok (.if_icmp .eq 11, 3) := by decide +kernel
theorem dX2_mayBecomeLate_22 : decode cX2_mayBecomeLate 22 = .ok (.aload_n 0, 1) := by decide +kernel
theorem dX2_mayBecomeLate_23 : decode cX2_mayBecomeLate 23 = .ok (.getfield 40, 3) := by decide +kernel
theorem dX2_mayBecomeLate_26 : decode cX2_mayBecomeLate 26 = .ok (.iconst 2, 1) := by decide +kernel
theorem dX2_mayBecomeLate_27 : decode cX2_mayBecomeLate 27 = .ok (.if_icmp .ne 7, 3) := by decide +kernel
theorem dX2_mayBecomeLate_30 : decode cX2_mayBecomeLate 30 = .ok (.iconst 1, 1) := by decide +kernel
theorem dX2_mayBecomeLate_31 : decode cX2_mayBecomeLate 31 = .ok (.goto 4, 3) := by decide +kernel
theorem dX2_mayBecomeLate_34 : decode cX2_mayBecomeLate 34 = .ok (.iconst 0, 1) := by decide +kernel
theorem dX2_mayBecomeLate_35 : decode cX2_mayBecomeLate 35 = .ok (.ireturn, 1) := by decide +kernel
theorem dX2_isPressedWithOthers_0 : decode cX2_isPressedWithOthers 0 = .ok (.aload_n 0, 1) := by decide +kernel
theorem dX2_isPressedWithOthers_1 : decode cX2_isPressedWithOthers 1 = .ok (.getfield 40, 3) := by decide +kernel
theorem dX2_isPressedWithOthers_4 : decode cX2_isPressedWithOthers 4 = .ok (.ifCond .eq 11, 3) := by decide +kernel
theorem dX2_isPressedWithOthers_7 : decode cX2_isPressedWithOthers 7 = .ok (.aload_n 0, 1) := by decide +kernel
theorem dX2_isPressedWithOthers_8 : decode cX2_isPressedWithOthers 8 = .ok (.getfield 40, 3) := by decide +kernel
theorem dX2_isPressedWithOthers_11 : decode cX2_isPressedWithOthers 11 = .ok (.iconst 3, 1) := by decide +kernel
theorem dX2_isPressedWithOthers_12 : decode cX2_isPressedWithOthers 12 = .ok (.if_icmp .ne 10, 3) := by decide +kernel
theorem dX2_isPressedWithOthers_15 : decode cX2_isPressedWithOthers 15 = .ok (.aload_n 0, 1) := by decide +kernel
theorem dX2_isPressedWithOthers_16 : decode cX2_isPressedWithOthers 16 = .ok (.getfield 33, 3) := by decide +kernel
theorem dX2_isPressedWithOthers_19 : decode cX2_isPressedWithOthers 19 = .ok (.ifCond .eq 7, 3) := by decide +kernel
theorem dX2_isPressedWithOthers_22 : decode cX2_isPressedWithOthers 22 = .ok (.iconst 1, 1) := by decide +kernel
theorem dX2_isPressedWithOthers_23 : decode cX2_isPressedWithOthers 23 = .ok (.goto 4, 3) := by decide +kernel
theorem dX2_isPressedWithOthers_26 : decode cX2_isPressedWithOthers 26 = .ok (.iconst 0, 1) := by decide +kernel
theorem dX2_isPressedWithOthers_27 : decode cX2_isPressedWithOthers 27 = .ok (.ireturn, 1) := by decide +kernel
theorem dX2_mayBeAlone_0 : decode cX2_mayBeAlone 0 = .ok (.aload_n 0, 1) := by decide +kernel
theorem dX2_mayBeAlone_1 : decode cX2_mayBeAlone 1 = .ok (.getfield 40, 3) := by decide +kernel
theorem dX2_mayBeAlone_4 : decode cX2_mayBeAlone 4 = .ok (.ifCond .eq 19, 3) := by decide +kernel
theorem dX2_mayBeAlone_7 : decode cX2_mayBeAlone 7 = .ok (.aload_n 0, 1) := by decide +kernel
theorem dX2_mayBeAlone_8 : decode cX2_mayBeAlone 8 = .ok (.getfield 40, 3) := by decide +kernel
theorem dX2_mayBeAlone_11 : decode cX2_mayBeAlone 11 = .ok (.iconst 2, 1) := by decide +kernel
theorem dX2_mayBeAlone_12 : decode cX2_mayBeAlone 12 = .ok (.if_icmp .eq 11, 3) := by decide +kernel
theorem dX2_mayBeAlone_15 : decode cX2_mayBeAlone 15 = .ok (.aload_n 0, 1) := by decide +kernel
theorem dX2_mayBeAlone_16 : decode cX2_mayBeAlone 16 = .ok (.getfield 40, 3) := by decide +kernel
theorem dX2_mayBeAlone_19 : decode cX2_mayBeAlone 19 = .ok (.iconst 3, 1) := by decide +kernel
theorem dX2_mayBeAlone_20 : decode cX2_mayBeAlone 20 = .ok (.if_icmp .ne 7, 3) := by decide +kernel
theorem dX2_mayBeAlone_23 : decode cX2_mayBeAlone 23 = .ok (.iconst 1, 1) := by decide +kernel
theorem dX2_mayBeAlone_24 : decode cX2_mayBeAlone 24 = .ok (.goto 4, 3) := by decide +kernel
theorem dX2_mayBeAlone_27 : decode cX2_mayBeAlone 27 = .ok (.iconst 0, 1) := by decide +kernel
theorem dX2_mayBeAlone_28 : decode cX2_mayBeAlone 28 = .ok (.ireturn, 1) := by decide +kernel
set_option maxRecDepth 20000 in
theorem ggX2_isForPlan_X2_mayBeAlone : GoodIn wsX2_isForPlan wsX2_mayBeAlone := goodIn_r _ [6, 7, 8, 9, 10, 11, 12, 13, 14, 15, 16, 17, 18, 19] (by decide +kernel) (by decide +kernel)
set_option maxRecDepth 20000 in
theorem gX2_isForPlan_X2_mayBeAlone : GoodIn wsX2_isForPlan (wsV RX2 54 RX2 yX2_mayBeAlone wsX2_mayBeAlone) := goodIn_app (goodIn_of _ (by decide +kernel)) ggX2_isForPlan_X2_mayBeAlone
theorem dX2_isForPlan_0 : decode cX2_isForPlan 0 = .ok (.aload_n 0, 1) := by decide +kernel
theorem dX2_isForPlan_1 : decode cX2_isForPlan 1 = .ok (.getfield 9, 3) := by decide +kernel
theorem dX2_isForPlan_4 : decode cX2_isForPlan 4 = .ok (.iconst 2, 1) := by decide +kernel
theorem dX2_isForPlan_5 : decode cX2_isForPlan 5 = .ok (.if_icmp .ne 14, 3) := by decide +kernel
theorem dX2_isForPlan_8 : decode cX2_isForPlan 8 = .ok (.aload_n 0, 1) := by decide +kernel
theorem dX2_isForPlan_9 : decode cX2_isForPlan 9 = .ok (.invokevirtual 54, 3) := by decide +kernel
theorem dX2_isForPlan_12 : decode cX2_isForPlan 12 = .ok (.ifCond .eq 7, 3) := by decide +kernel
theorem dX2_isForPlan_15 : decode cX2_isForPlan 15 = .ok (.iconst 1, 1) := by decide +kernel
theorem dX2_isForPlan_16 : decode cX2_isForPlan 16 = .ok (.goto 4, 3) := by decide +kernel
theorem dX2_isForPlan_19 : decode cX2_isForPlan 19 = .ok (.iconst 0, 1) := by decide +kernel
theorem dX2_isForPlan_20 : decode cX2_isForPlan 20 = .ok (.ireturn, 1) := by decide +kernel
theorem dX2_likeIfClean_0 : decode cX2_likeIfClean 0 = .ok (.aload_n 0, 1) := by decide +kernel
theorem dX2_likeIfClean_1 : decode cX2_likeIfClean 1 = .ok (.getfield 40, 3) := by decide +kernel
theorem dX2_likeIfClean_4 : decode cX2_likeIfClean 4 = .ok (.iconst 2, 1) := by decide +kernel
theorem dX2_likeIfClean_5 : decode cX2_likeIfClean 5 = .ok (.if_icmp .ne 13, 3) := by decide +kernel
theorem dX2_likeIfClean_8 : decode cX2_likeIfClean 8 = .ok (.aload_n 0, 1) := by decide +kernel
theorem dX2_likeIfClean_9 : decode cX2_likeIfClean 9 = .ok (.getfield 43, 3) := by decide +kernel
theorem dX2_likeIfClean_12 : decode cX2_likeIfClean 12 = .ok (.getfield 57, 3) := by decide +kernel
theorem dX2_likeIfClean_15 : decode cX2_likeIfClean 15 = .ok (.goto 4, 3) := by decide +kernel
theorem dX2_likeIfClean_18 : decode cX2_likeIfClean 18 = .ok (.iconst (-1), 1) := by decide +kernel
theorem dX2_likeIfClean_19 : decode cX2_likeIfClean 19 = .ok (.ireturn, 1) := by decide +kernel
theorem dX2_oil_0 : decode cX2_oil 0 = .ok (.aload_n 0, 1) := by decide +kernel
theorem dX2_oil_1 : decode cX2_oil 1 = .ok (.getfield 15, 3) := by decide +kernel
theorem dX2_oil_4 : decode cX2_oil 4 = .ok (.i2l, 1) := by decide +kernel
theorem dX2_oil_5 : decode cX2_oil 5 = .ok (.aload_n 0, 1) := by decide +kernel
theorem dX2_oil_6 : decode cX2_oil 6 = .ok (.getfield 18, 3) := by decide +kernel
theorem dX2_oil_9 : decode cX2_oil 9 = .ok (.i2l, 1) := by decide +kernel
theorem dX2_oil_10 : decode cX2_oil 10 = .ok (.lmul, 1) := by decide +kernel
theorem dX2_oil_11 : decode cX2_oil 11 = .ok (.lreturn, 1) := by decide +kernel
set_option maxRecDepth 20000 in
theorem ggX2_agreesWith_X2_isPressedWithOthers : GoodIn wsX2_agreesWith wsX2_isPressedWithOthers := goodIn_r _ [13, 1, 14, 15, 16, 17, 18, 19, 20, 21, 22, 23, 24, 25, 26] (by decide +kernel) (by decide +kernel)
set_option maxRecDepth 20000 in
theorem gX2_agreesWith_X2_isPressedWithOthers : GoodIn wsX2_agreesWith (wsV RX2 62 RX2 yX2_isPressedWithOthers wsX2_isPressedWithOthers) := goodIn_app (goodIn_of _ (by decide +kernel)) ggX2_agreesWith_X2_isPressedWithOthers
theorem dX2_agreesWith_0 : decode cX2_agreesWith 0 = .ok (.aload_n 0, 1) := by decide +kernel
theorem dX2_agreesWith_1 : decode cX2_agreesWith 1 = .ok (.getfield 40, 3) := by decide +kernel
theorem dX2_agreesWith_4 : decode cX2_agreesWith 4 = .ok (.iconst 2, 1) := by decide +kernel
theorem dX2_agreesWith_5 : decode cX2_agreesWith 5 = .ok (.if_icmp .eq 11, 3) := by decide +kernel
theorem dX2_agreesWith_8 : decode cX2_agreesWith 8 = .ok (.aload_n 1, 1) := by decide +kernel
theorem dX2_agreesWith_9 : decode cX2_agreesWith 9 = .ok (.getfield 40, 3) := by decide +kernel
theorem dX2_agreesWith_12 : decode cX2_agreesWith 12 = .ok (.iconst 2, 1) := by decide +kernel
theorem dX2_agreesWith_13 : decode cX2_agreesWith 13 = .ok (.if_icmp .ne 37, 3) := by decide +kernel
theorem dX2_agreesWith_16 : decode cX2_agreesWith 16 = .ok (.aload_n 0, 1) := by decide +kernel
theorem dX2_agreesWith_17 : decode cX2_agreesWith 17 = .ok (.getfield 40, 3) := by decide +kernel
theorem dX2_agreesWith_20 : decode cX2_agreesWith 20 = .ok (.aload_n 1, 1) := by decide +kernel
theorem dX2_agreesWith_21 : decode cX2_agreesWith 21 = .ok (.getfield 40, 3) := by decide +kernel
theorem dX2_agreesWith_24 : decode cX2_agreesWith 24 = .ok (.if_icmp .ne 24, 3) := by decide +kernel
theorem dX2_agreesWith_27 : decode cX2_agreesWith 27 = .ok (.aload_n 0, 1) := by decide +kernel
theorem dX2_agreesWith_28 : decode cX2_agreesWith 28 = .ok (.getfield 43, 3) := by decide +kernel
theorem dX2_agreesWith_31 : decode cX2_agreesWith 31 = .ok (.getfield 57, 3) := by decide +kernel
theorem dX2_agreesWith_34 : decode cX2_agreesWith 34 = .ok (.aload_n 1, 1) := by decide +kernel
theorem dX2_agreesWith_35 : decode cX2_agreesWith 35 = .ok (.getfield 43, 3) := by decide +kernel
theorem dX2_agreesWith_38 : decode cX2_agreesWith 38 = .ok (.getfield 57, 3) := by decide +kernel
theorem dX2_agreesWith_41 : decode cX2_agreesWith 41 = .ok (.if_icmp .ne 7, 3) := by decide +kernel
theorem dX2_agreesWith_44 : decode cX2_agreesWith 44 = .ok (.iconst 1, 1) := by decide +kernel
theorem dX2_agreesWith_45 : decode cX2_agreesWith 45 = .ok (.goto 4, 3) := by decide +kernel
theorem dX2_agreesWith_48 : decode cX2_agreesWith 48 = .ok (.iconst 0, 1) := by decide +kernel
theorem dX2_agreesWith_49 : decode cX2_agreesWith 49 = .ok (.ireturn, 1) := by decide +kernel
theorem dX2_agreesWith_50 : decode cX2_agreesWith 50 = .ok (.aload_n 0, 1) := by decide +kernel
theorem dX2_agreesWith_51 : decode cX2_agreesWith 51 = .ok (.invokevirtual 62, 3) := by decide +kernel
theorem dX2_agreesWith_54 : decode cX2_agreesWith 54 = .ok (.ifCond .eq 10, 3) := by decide +kernel
theorem dX2_agreesWith_57 : decode cX2_agreesWith 57 = .ok (.aload_n 1, 1) := by decide +kernel
theorem dX2_agreesWith_58 : decode cX2_agreesWith 58 = .ok (.invokevirtual 62, 3) := by decide +kernel
theorem dX2_agreesWith_61 : decode cX2_agreesWith 61 = .ok (.ifCond .ne 5, 3) := by decide +kernel
theorem dX2_agreesWith_64 : decode cX2_agreesWith 64 = .ok (.iconst 0, 1) := by decide +kernel
theorem dX2_agreesWith_65 : decode cX2_agreesWith 65 = .ok (.ireturn, 1) := by decide +kernel
theorem dX2_agreesWith_66 : decode cX2_agreesWith 66 = .ok (.aload_n 0, 1) := by decide +kernel
theorem dX2_agreesWith_67 : decode cX2_agreesWith 67 = .ok (.getfield 40, 3) := by decide +kernel
theorem dX2_agreesWith_70 : decode cX2_agreesWith 70 = .ok (.iconst 3, 1) := by decide +kernel
theorem dX2_agreesWith_71 : decode cX2_agreesWith 71 = .ok (.if_icmp .eq 11, 3) := by decide +kernel
theorem dX2_agreesWith_74 : decode cX2_agreesWith 74 = .ok (.aload_n 1, 1) := by decide +kernel
theorem dX2_agreesWith_75 : decode cX2_agreesWith 75 = .ok (.getfield 40, 3) := by decide +kernel
theorem dX2_agreesWith_78 : decode cX2_agreesWith 78 = .ok (.iconst 3, 1) := by decide +kernel
theorem dX2_agreesWith_79 : decode cX2_agreesWith 79 = .ok (.if_icmp .ne 20, 3) := by decide +kernel
theorem dX2_agreesWith_82 : decode cX2_agreesWith 82 = .ok (.aload_n 0, 1) := by decide +kernel
theorem dX2_agreesWith_83 : decode cX2_agreesWith 83 = .ok (.getfield 40, 3) := by decide +kernel
theorem dX2_agreesWith_86 : decode cX2_agreesWith 86 = .ok (.aload_n 1, 1) := by decide +kernel
theorem dX2_agreesWith_87 : decode cX2_agreesWith 87 = .ok (.getfield 40, 3) := by decide +kernel
theorem dX2_agreesWith_90 : decode cX2_agreesWith 90 = .ok (.if_icmp .ne 7, 3) := by decide +kernel
theorem dX2_agreesWith_93 : decode cX2_agreesWith 93 = .ok (.iconst 1, 1) := by decide +kernel
theorem dX2_agreesWith_94 : decode cX2_agreesWith 94 = .ok (.goto 4, 3) := by decide +kernel
theorem dX2_agreesWith_97 : decode cX2_agreesWith 97 = .ok (.iconst 0, 1) := by decide +kernel
theorem dX2_agreesWith_98 : decode cX2_agreesWith 98 = .ok (.ireturn, 1) := by decide +kernel
theorem dX2_agreesWith_99 : decode cX2_agreesWith 99 = .ok (.aload_n 0, 1) := by decide +kernel
theorem dX2_agreesWith_100 : decode cX2_agreesWith 100 = .ok (.getfield 47, 3) := by decide +kernel
theorem dX2_agreesWith_103 : decode cX2_agreesWith 103 = .ok (.aload_n 1, 1) := by decide +kernel
theorem dX2_agreesWith_104 : decode cX2_agreesWith 104 = .ok (.getfield 47, 3) := by decide +kernel
theorem dX2_agreesWith_107 : decode cX2_agreesWith 107 = .ok (.isub, 1) := by decide +kernel
theorem dX2_agreesWith_108 : decode cX2_agreesWith 108 = .ok (.invokestatic 65, 3) := by decide +kernel
theorem dX2_agreesWith_111 : decode cX2_agreesWith 111 = .ok (.iconst 3, 1) := by decide +kernel
theorem dX2_agreesWith_112 : decode cX2_agreesWith 112 = .ok (.if_icmp .gt 7, 3) := by decide +kernel
theorem dX2_agreesWith_115 : decode cX2_agreesWith 115 = .ok (.iconst 1, 1) := by decide +kernel
theorem dX2_agreesWith_116 : decode cX2_agreesWith 116 = .ok (.goto 4, 3) := by decide +kernel
theorem dX2_agreesWith_119 : decode cX2_agreesWith 119 = .ok (.iconst 0, 1) := by decide +kernel
theorem dX2_agreesWith_120 : decode cX2_agreesWith 120 = .ok (.ireturn, 1) := by decide +kernel
theorem dX3_init_0 : decode cX3_init 0 = .ok (.aload_n 0, 1) := by decide +kernel
theorem dX3_init_1 : decode cX3_init 1 = .ok (.invokespecial 3, 3) := by decide +kernel
theorem dX3_init_4 : decode cX3_init 4 = .ok (.aload_n 0, 1) := by decide +kernel
theorem dX3_init_5 : decode cX3_init 5 = .ok (.bipush 12, 2) := by decide +kernel
theorem dX3_init_7 : decode cX3_init 7 = .ok (.anewarray 9, 3) := by decide +kernel
theorem dX3_init_10 : decode cX3_init 10 = .ok (.putfield 11, 3) := by decide +kernel
theorem dX3_init_13 : decode cX3_init 13 = .ok (.aload_n 0, 1) := by decide +kernel
theorem dX3_init_14 : decode cX3_init 14 = .ok (.bipush 12, 2) := by decide +kernel
theorem dX3_init_16 : decode cX3_init 16 = .ok (.newarray .long, 2) := by decide +kernel
theorem dX3_init_18 : decode cX3_init 18 = .ok (.putfield 17, 3) := by decide +kernel
theorem dX3_init_21 : decode cX3_init 21 = .ok (.aload_n 0, 1) := by decide +kernel
theorem dX3_init_22 : decode cX3_init 22 = .ok (.iconst 0, 1) := by decide +kernel
theorem dX3_init_23 : decode cX3_init 23 = .ok (.putfield 21, 3) := by decide +kernel
theorem dX3_init_26 : decode cX3_init 26 = .ok (.aload_n 0, 1) := by decide +kernel
theorem dX3_init_27 : decode cX3_init 27 = .ok (.sipush 1000, 3) := by decide +kernel
theorem dX3_init_30 : decode cX3_init 30 = .ok (.putfield 25, 3) := by decide +kernel
theorem dX3_init_33 : decode cX3_init 33 = .ok (.aload_n 0, 1) := by decide +kernel
theorem dX3_init_34 : decode cX3_init 34 = .ok (.sipush 500, 3) := by decide +kernel
theorem dX3_init_37 : decode cX3_init 37 = .ok (.putfield 28, 3) := by decide +kernel
theorem dX3_init_40 : decode cX3_init 40 = .ok (.aload_n 0, 1) := by decide +kernel
theorem dX3_init_41 : decode cX3_init 41 = .ok (.iconst 0, 1) := by decide +kernel
theorem dX3_init_42 : decode cX3_init 42 = .ok (.putfield 31, 3) := by decide +kernel
theorem dX3_init_45 : decode cX3_init 45 = .ok (.aload_n 0, 1) := by decide +kernel
theorem dX3_init_46 : decode cX3_init 46 = .ok (.iconst 0, 1) := by decide +kernel
theorem dX3_init_47 : decode cX3_init 47 = .ok (.putfield 34, 3) := by decide +kernel
theorem dX3_init_50 : decode cX3_init 50 = .ok (.aload_n 0, 1) := by decide +kernel
theorem dX3_init_51 : decode cX3_init 51 = .ok (.iconst (-1), 1) := by decide +kernel
theorem dX3_init_52 : decode cX3_init 52 = .ok (.putfield 38, 3) := by decide +kernel
theorem dX3_init_55 : decode cX3_init 55 = .ok (.aload_n 0, 1) := by decide +kernel
theorem dX3_init_56 : decode cX3_init 56 = .ok (.iconst 0, 1) := by decide +kernel
theorem dX3_init_57 : decode cX3_init 57 = .ok (.putfield 41, 3) := by decide +kernel
theorem dX3_init_60 : decode cX3_init 60 = .ok (.aload_n 0, 1) := by decide +kernel
theorem dX3_init_61 : decode cX3_init 61 = .ok (.iconst 0, 1) := by decide +kernel
theorem dX3_init_62 : decode cX3_init 62 = .ok (.putfield 44, 3) := by decide +kernel
theorem dX3_init_65 : decode cX3_init 65 = .ok (.aload_n 0, 1) := by decide +kernel
theorem dX3_init_66 : decode cX3_init 66 = .ok (.iconst 0, 1) := by decide +kernel
theorem dX3_init_67 : decode cX3_init 67 = .ok (.putfield 47, 3) := by decide +kernel
theorem dX3_init_70 : decode cX3_init 70 = .ok (.aload_n 0, 1) := by decide +kernel
theorem dX3_init_71 : decode cX3_init 71 = .ok (.iconst (-1), 1) := by decide +kernel
theorem dX3_init_72 : decode cX3_init 72 = .ok (.putfield 50, 3) := by decide +kernel
theorem dX3_init_75 : decode cX3_init 75 = .ok (.aload_n 0, 1) := by decide +kernel
theorem dX3_init_76 : decode cX3_init 76 = .ok (.iconst (-1), 1) := by decide +kernel
theorem dX3_init_77 : decode cX3_init 77 = .ok (.putfield 53, 3) := by decide +kernel
theorem dX3_init_80 : decode cX3_init 80 = .ok (.aload_n 0, 1) := by decide +kernel
theorem dX3_init_81 : decode cX3_init 81 = .ok (.iload_n 1, 1) := by decide +kernel
theorem dX3_init_82 : decode cX3_init 82 = .ok (.putfield 56, 3) := by decide +kernel
theorem dX3_init_85 : decode cX3_init 85 = .ok (.return_, 1) := by decide +kernel
theorem dX3_isBusy_0 : decode cX3_isBusy 0 = .ok (.iload_n 1, 1) := by decide +kernel
theorem dX3_isBusy_1 : decode cX3_isBusy 1 = .ok (.aload_n 0, 1) := by decide +kernel
theorem dX3_isBusy_2 : decode cX3_isBusy 2 = .ok (.getfield 31, 3) := by decide +kernel
theorem dX3_isBusy_5 : decode cX3_isBusy 5 = .ok (.if_icmp .ge 7, 3) := by decide +kernel
theorem dX3_isBusy_8 : decode cX3_isBusy 8 = .ok (.iconst 1, 1) := by decide +kernel
theorem dX3_isBusy_9 : decode cX3_isBusy 9 = .ok (.goto 4, 3) := by decide +kernel
theorem dX3_isBusy_12 : decode cX3_isBusy 12 = .ok (.iconst 0, 1) := by decide +kernel
theorem dX3_isBusy_13 : decode cX3_isBusy 13 = .ok (.ireturn, 1) := by decide +kernel
set_option maxRecDepth 20000 in
theorem ggX3_hoursFor_X7_divideUp : GoodIn wsX3_hoursFor wsX7_divideUp := goodIn_r _ [4] (by decide +kernel) (by decide +kernel)
set_option maxRecDepth 20000 in
theorem gX3_hoursFor_X7_divideUp_n59 : GoodIn wsX3_hoursFor (wsX7_divideUp) := ggX3_hoursFor_X7_divideUp
theorem dX3_hoursFor_0 : decode cX3_hoursFor 0 = .ok (.iload_n 1, 1) := by decide +kernel
theorem dX3_hoursFor_1 : decode cX3_hoursFor 1 = .ok (.i2l, 1) := by decide +kernel
theorem dX3_hoursFor_2 : decode cX3_hoursFor 2 = .ok (.aload_n 0, 1) := by decide +kernel
theorem dX3_hoursFor_3 : decode cX3_hoursFor 3 = .ok (.getfield 28, 3) := by decide +kernel
theorem dX3_hoursFor_6 : decode cX3_hoursFor 6 = .ok (.i2l, 1) := by decide +kernel
theorem dX3_hoursFor_7 : decode cX3_hoursFor 7 = .ok (.invokestatic 59, 3) := by decide +kernel
theorem dX3_hoursFor_10 : decode cX3_hoursFor 10 = .ok (.l2i, 1) := by decide +kernel
theorem dX3_hoursFor_11 : decode cX3_hoursFor 11 = .ok (.ireturn, 1) := by decide +kernel
theorem dX3_tenthsInBin_0 : decode cX3_tenthsInBin 0 = .ok (.iconst 0, 1) := by decide +kernel
theorem dX3_tenthsInBin_1 : decode cX3_tenthsInBin 1 = .ok (.istore_n 1, 1) := by decide +kernel
theorem dX3_tenthsInBin_2 : decode cX3_tenthsInBin 2 = .ok (.iconst 0, 1) := by decide +kernel
theorem dX3_tenthsInBin_3 : decode cX3_tenthsInBin 3 = .ok (.istore_n 2, 1) := by decide +kernel
theorem dX3_tenthsInBin_4 : decode cX3_tenthsInBin 4 = .ok (.iload_n 2, 1) := by decide +kernel
theorem dX3_tenthsInBin_5 : decode cX3_tenthsInBin 5 = .ok (.aload_n 0, 1) := by decide +kernel
theorem dX3_tenthsInBin_6 : decode cX3_tenthsInBin 6 = .ok (.getfield 21, 3) := by decide +kernel
theorem dX3_tenthsInBin_9 : decode cX3_tenthsInBin 9 = .ok (.if_icmp .ge 21, 3) := by decide +kernel
theorem dX3_tenthsInBin_12 : decode cX3_tenthsInBin 12 = .ok (.iload_n 1, 1) := by decide +kernel
theorem dX3_tenthsInBin_13 : decode cX3_tenthsInBin 13 = .ok (.aload_n 0, 1) := by decide +kernel
theorem dX3_tenthsInBin_14 : decode cX3_tenthsInBin 14 = .ok (.getfield 11, 3) := by decide +kernel
theorem dX3_tenthsInBin_17 : decode cX3_tenthsInBin 17 = .ok (.iload_n 2, 1) := by decide +kernel
theorem dX3_tenthsInBin_18 : decode cX3_tenthsInBin 18 = .ok (.aaload, 1) := by decide +kernel
theorem dX3_tenthsInBin_19 : decode cX3_tenthsInBin 19 = .ok (.getfield 63, 3) := by decide +kernel
theorem dX3_tenthsInBin_22 : decode cX3_tenthsInBin 22 = .ok (.iadd, 1) := by decide +kernel
theorem dX3_tenthsInBin_23 : decode cX3_tenthsInBin 23 = .ok (.istore_n 1, 1) := by decide +kernel
theorem dX3_tenthsInBin_24 : decode cX3_tenthsInBin 24 = .ok (.iinc 2 1, 3) := by decide +kernel
theorem dX3_tenthsInBin_27 : decode cX3_tenthsInBin 27 = .ok (.goto (-23), 3) := by decide +kernel
theorem dX3_tenthsInBin_30 : decode cX3_tenthsInBin 30 = .ok (.iload_n 1, 1) := by decide +kernel
theorem dX3_tenthsInBin_31 : decode cX3_tenthsInBin 31 = .ok (.ireturn, 1) := by decide +kernel
set_option maxRecDepth 20000 in
theorem ggX3_admits_X2_agreesWith : GoodIn wsX3_admits wsX2_agreesWith := goodIn_r _ [13, 14, 15, 16, 17, 18, 19, 20, 21, 22, 23, 24, 12, 25, 26, 41, 42, 43, 44, 45, 46, 47, 48, 49, 50, 51, 52, 53, 54, 55] (by decide +kernel) (by decide +kernel)
set_option maxRecDepth 20000 in
theorem gX3_admits_X2_agreesWith : GoodIn wsX3_admits (wsV RX3 76 RX2 yX2_agreesWith wsX2_agreesWith) := goodIn_app (goodIn_of _ (by decide +kernel)) ggX3_admits_X2_agreesWith
theorem dX3_admits_0 : decode cX3_admits 0 = .ok (.aload_n 0, 1) := by decide +kernel
theorem dX3_admits_1 : decode cX3_admits 1 = .ok (.getfield 41, 3) := by decide +kernel
theorem dX3_admits_4 : decode cX3_admits 4 = .ok (.ifCond .ne 12, 3) := by decide +kernel
theorem dX3_admits_7 : decode cX3_admits 7 = .ok (.aload_n 0, 1) := by decide +kernel
theorem dX3_admits_8 : decode cX3_admits 8 = .ok (.getfield 21, 3) := by decide +kernel
theorem dX3_admits_11 : decode cX3_admits 11 = .ok (.bipush 12, 2) := by decide +kernel
theorem dX3_admits_13 : decode cX3_admits 13 = .ok (.if_icmp .lt 5, 3) := by decide +kernel
theorem dX3_admits_16 : decode cX3_admits 16 = .ok (.iconst 0, 1) := by decide +kernel
theorem dX3_admits_17 : decode cX3_admits 17 = .ok (.ireturn, 1) := by decide +kernel
theorem dX3_admits_18 : decode cX3_admits 18 = .ok (.aload_n 0, 1) := by decide +kernel
theorem dX3_admits_19 : decode cX3_admits 19 = .ok (.getfield 21, 3) := by decide +kernel
theorem dX3_admits_22 : decode cX3_admits 22 = .ok (.ifCond .ne 38, 3) := by decide +kernel
theorem dX3_admits_25 : decode cX3_admits 25 = .ok (.aload_n 1, 1) := by decide +kernel
theorem dX3_admits_26 : decode cX3_admits 26 = .ok (.getfield 66, 3) := by decide +kernel
theorem dX3_admits_29 : decode cX3_admits 29 = .ok (.iconst 2, 1) := by decide +kernel
theorem dX3_admits_30 : decode cX3_admits 30 = .ok (.if_icmp .ne 24, 3) := by decide +kernel
theorem dX3_admits_33 : decode cX3_admits 33 = .ok (.aload_n 0, 1) := by decide +kernel
theorem dX3_admits_34 : decode cX3_admits 34 = .ok (.getfield 34, 3) := by decide +kernel
theorem dX3_admits_37 : decode cX3_admits 37 = .ok (.ifCond .ne 17, 3) := by decide +kernel
theorem dX3_admits_40 : decode cX3_admits 40 = .ok (.aload_n 0, 1) := by decide +kernel
theorem dX3_admits_41 : decode cX3_admits 41 = .ok (.getfield 38, 3) := by decide +kernel
theorem dX3_admits_44 : decode cX3_admits 44 = .ok (.aload_n 1, 1) := by decide +kernel
theorem dX3_admits_45 : decode cX3_admits 45 = .ok (.getfield 69, 3) := by decide +kernel
theorem dX3_admits_48 : decode cX3_admits 48 = .ok (.getfield 73, 3) := by decide +kernel
theorem dX3_admits_51 : decode cX3_admits 51 = .ok (.if_icmp .ne 7, 3) := by decide +kernel
theorem dX3_admits_54 : decode cX3_admits 54 = .ok (.iconst 1, 1) := by decide +kernel
theorem dX3_admits_55 : decode cX3_admits 55 = .ok (.goto 4, 3) := by decide +kernel
theorem dX3_admits_58 : decode cX3_admits 58 = .ok (.iconst 0, 1) := by decide +kernel
theorem dX3_admits_59 : decode cX3_admits 59 = .ok (.ireturn, 1) := by decide +kernel
theorem dX3_admits_60 : decode cX3_admits 60 = .ok (.iconst 0, 1) := by decide +kernel
theorem dX3_admits_61 : decode cX3_admits 61 = .ok (.istore_n 2, 1) := by decide +kernel
theorem dX3_admits_62 : decode cX3_admits 62 = .ok (.iload_n 2, 1) := by decide +kernel
theorem dX3_admits_63 : decode cX3_admits 63 = .ok (.aload_n 0, 1) := by decide +kernel
theorem dX3_admits_64 : decode cX3_admits 64 = .ok (.getfield 21, 3) := by decide +kernel
theorem dX3_admits_67 : decode cX3_admits 67 = .ok (.if_icmp .ge 24, 3) := by decide +kernel
theorem dX3_admits_70 : decode cX3_admits 70 = .ok (.aload_n 0, 1) := by decide +kernel
theorem dX3_admits_71 : decode cX3_admits 71 = .ok (.getfield 11, 3) := by decide +kernel
theorem dX3_admits_74 : decode cX3_admits 74 = .ok (.iload_n 2, 1) := by decide +kernel
theorem dX3_admits_75 : decode cX3_admits 75 = .ok (.aaload, 1) := by decide +kernel
theorem dX3_admits_76 : decode cX3_admits 76 = .ok (.aload_n 1, 1) := by decide +kernel
theorem dX3_admits_77 : decode cX3_admits 77 = .ok (.invokevirtual 76, 3) := by decide +kernel
theorem dX3_admits_80 : decode cX3_admits 80 = .ok (.ifCond .ne 5, 3) := by decide +kernel
theorem dX3_admits_83 : decode cX3_admits 83 = .ok (.iconst 0, 1) := by decide +kernel
theorem dX3_admits_84 : decode cX3_admits 84 = .ok (.ireturn, 1) := by decide +kernel
theorem dX3_admits_85 : decode cX3_admits 85 = .ok (.iinc 2 1, 3) := by decide +kernel
theorem dX3_admits_88 : decode cX3_admits 88 = .ok (.goto (-26), 3) := by decide +kernel
theorem dX3_admits_91 : decode cX3_admits 91 = .ok (.iconst 1, 1) := by decide +kernel
theorem dX3_admits_92 : decode cX3_admits 92 = .ok (.ireturn, 1) := by decide +kernel
theorem dX3_add_0 : decode cX3_add 0 = .ok (.aload_n 0, 1) := by decide +kernel
theorem dX3_add_1 : decode cX3_add 1 = .ok (.getfield 21, 3) := by decide +kernel
theorem dX3_add_4 : decode cX3_add 4 = .ok (.bipush 12, 2) := by decide +kernel
theorem dX3_add_6 : decode cX3_add 6 = .ok (.if_icmp .lt 4, 3) := by decide +kernel
theorem dX3_add_9 : decode cX3_add 9 = .ok (.return_, 1) := by decide +kernel
theorem dX3_add_10 : decode cX3_add 10 = .ok (.aload_n 0, 1) := by decide +kernel
theorem dX3_add_11 : decode cX3_add 11 = .ok (.getfield 11, 3) := by decide +kernel
theorem dX3_add_14 : decode cX3_add 14 = .ok (.aload_n 0, 1) := by decide +kernel
theorem dX3_add_15 : decode cX3_add 15 = .ok (.getfield 21, 3) := by decide +kernel
theorem dX3_add_18 : decode cX3_add 18 = .ok (.aload_n 1, 1) := by decide +kernel
theorem dX3_add_19 : decode cX3_add 19 = .ok (.aastore, 1) := by decide +kernel
theorem dX3_add_20 : decode cX3_add 20 = .ok (.aload_n 0, 1) := by decide +kernel
theorem dX3_add_21 : decode cX3_add 21 = .ok (.dup, 1) := by decide +kernel
theorem dX3_add_22 : decode cX3_add 22 = .ok (.getfield 21, 3) := by decide +kernel
theorem dX3_add_25 : decode cX3_add 25 = .ok (.iconst 1, 1) := by decide +kernel
theorem dX3_add_26 : decode cX3_add 26 = .ok (.iadd, 1) := by decide +kernel
theorem dX3_add_27 : decode cX3_add 27 = .ok (.putfield 21, 3) := by decide +kernel
theorem dX3_add_30 : decode cX3_add 30 = .ok (.aload_n 1, 1) := by decide +kernel
theorem dX3_add_31 : decode cX3_add 31 = .ok (.iconst 3, 1) := by decide +kernel
theorem dX3_add_32 : decode cX3_add 32 = .ok (.putfield 80, 3) := by decide +kernel
theorem dX3_add_35 : decode cX3_add 35 = .ok (.aload_n 1, 1) := by decide +kernel
theorem dX3_add_36 : decode cX3_add 36 = .ok (.aload_n 0, 1) := by decide +kernel
theorem dX3_add_37 : decode cX3_add 37 = .ok (.getfield 56, 3) := by decide +kernel
theorem dX3_add_40 : decode cX3_add 40 = .ok (.putfield 83, 3) := by decide +kernel
theorem dX3_add_43 : decode cX3_add 43 = .ok (.return_, 1) := by decide +kernel
theorem dX3_remove_0 : decode cX3_remove 0 = .ok (.iconst 0, 1) := by decide +kernel
theorem dX3_remove_1 : decode cX3_remove 1 = .ok (.istore_n 2, 1) := by decide +kernel
theorem dX3_remove_2 : decode cX3_remove 2 = .ok (.iconst 0, 1) := by decide +kernel
theorem dX3_remove_3 : decode cX3_remove 3 = .ok (.istore_n 3, 1) := by decide +kernel
theorem dX3_remove_4 : decode cX3_remove 4 = .ok (.iload_n 3, 1) := by decide +kernel
theorem dX3_remove_5 : decode cX3_remove 5 = .ok (.aload_n 0, 1) := by decide +kernel
theorem dX3_remove_6 : decode cX3_remove 6 = .ok (.getfield 21, 3) := by decide +kernel
theorem dX3_remove_9 : decode cX3_remove 9 = .ok (.if_icmp .ge 34, 3) := by decide +kernel
theorem dX3_remove_12 : decode cX3_remove 12 = .ok (.aload_n 0, 1) := by decide +kernel
theorem dX3_remove_13 : decode cX3_remove 13 = .ok (.getfield 11, 3) := by decide +kernel
theorem dX3_remove_16 : decode cX3_remove 16 = .ok (.iload_n 3, 1) := by decide +kernel
theorem dX3_remove_17 : decode cX3_remove 17 = .ok (.aaload, 1) := by decide +kernel
theorem dX3_remove_18 : decode cX3_remove 18 = .ok (.aload_n 1, 1) := by decide +kernel
theorem dX3_remove_19 : decode cX3_remove 19 = .ok (.if_acmp .eq 18, 3) := by decide +kernel
theorem dX3_remove_22 : decode cX3_remove 22 = .ok (.aload_n 0, 1) := by decide +kernel
theorem dX3_remove_23 : decode cX3_remove 23 = .ok (.getfield 11, 3) := by decide +kernel
theorem dX3_remove_26 : decode cX3_remove 26 = .ok (.iload_n 2, 1) := by decide +kernel
theorem dX3_remove_27 : decode cX3_remove 27 = .ok (.aload_n 0, 1) := by decide +kernel
theorem dX3_remove_28 : decode cX3_remove 28 = .ok (.getfield 11, 3) := by decide +kernel
theorem dX3_remove_31 : decode cX3_remove 31 = .ok (.iload_n 3, 1) := by decide +kernel
theorem dX3_remove_32 : decode cX3_remove 32 = .ok (.aaload, 1) := by decide +kernel
theorem dX3_remove_33 : decode cX3_remove 33 = .ok (.aastore, 1) := by decide +kernel
theorem dX3_remove_34 : decode cX3_remove 34 = .ok (.iinc 2 1, 3) := by decide +kernel
theorem dX3_remove_37 : decode cX3_remove 37 = .ok (.iinc 3 1, 3) := by decide +kernel
theorem dX3_remove_40 : decode cX3_remove 40 = .ok (.goto (-36), 3) := by decide +kernel
theorem dX3_remove_43 : decode cX3_remove 43 = .ok (.aload_n 0, 1) := by decide +kernel
theorem dX3_remove_44 : decode cX3_remove 44 = .ok (.iload_n 2, 1) := by decide +kernel
theorem dX3_remove_45 : decode cX3_remove 45 = .ok (.putfield 21, 3) := by decide +kernel
theorem dX3_remove_48 : decode cX3_remove 48 = .ok (.aload_n 1, 1) := by decide +kernel
theorem dX3_remove_49 : decode cX3_remove 49 = .ok (.iconst 2, 1) := by decide +kernel
theorem dX3_remove_50 : decode cX3_remove 50 = .ok (.putfield 80, 3) := by decide +kernel
theorem dX3_remove_53 : decode cX3_remove 53 = .ok (.aload_n 1, 1) := by decide +kernel
theorem dX3_remove_54 : decode cX3_remove 54 = .ok (.iconst (-1), 1) := by decide +kernel
theorem dX3_remove_55 : decode cX3_remove 55 = .ok (.putfield 83, 3) := by decide +kernel
theorem dX3_remove_58 : decode cX3_remove 58 = .ok (.return_, 1) := by decide +kernel
set_option maxRecDepth 20000 in
theorem ggX3_mayBegin_X3_isBusy : GoodIn wsX3_mayBegin wsX3_isBusy := goodIn_r _ [9, 10, 22, 23, 24, 25, 26, 27, 28, 29, 30, 31, 32, 33, 34, 35] (by decide +kernel) (by decide +kernel)
set_option maxRecDepth 20000 in
theorem gX3_mayBegin_X3_isBusy : GoodIn wsX3_mayBegin (wsV RX3 86 RX3 yX3_isBusy wsX3_isBusy) := goodIn_app (goodIn_of _ (by decide +kernel)) ggX3_mayBegin_X3_isBusy
set_option maxRecDepth 20000 in
theorem ggX3_mayBegin_X3_tenthsInBin : GoodIn wsX3_mayBegin wsX3_tenthsInBin := goodIn_r _ [14, 2, 4, 15, 22, 23, 24, 25, 26, 27, 28, 29, 30, 31, 32, 33, 34, 35, 36, 37, 38, 39, 40, 41, 42, 43, 44, 45, 46, 47] (by decide +kernel) (by decide +kernel)
set_option maxRecDepth 20000 in
theorem gX3_mayBegin_X3_tenthsInBin : GoodIn wsX3_mayBegin (wsV RX3 90 RX3 yX3_tenthsInBin wsX3_tenthsInBin) := goodIn_app (goodIn_of _ (by decide +kernel)) ggX3_mayBegin_X3_tenthsInBin
set_option maxRecDepth 20000 in
theorem ggX3_mayBegin_X2_mayBeAlone : GoodIn wsX3_mayBegin wsX2_mayBeAlone := goodIn_r _ [20, 21, 36, 37, 38, 39, 40, 41, 42, 43, 44, 45, 46, 47] (by decide +kernel) (by decide +kernel)
set_option maxRecDepth 20000 in
theorem gX3_mayBegin_X2_mayBeAlone : GoodIn wsX3_mayBegin (wsV RX3 94 RX2 yX2_mayBeAlone wsX2_mayBeAlone) := goodIn_app (goodIn_of _ (by decide +kernel)) ggX3_mayBegin_X2_mayBeAlone
theorem dX3_mayBegin_0 : decode cX3_mayBegin 0 = .ok (.aload_n 0, 1) := by decide +kernel
theorem dX3_mayBegin_1 : decode cX3_mayBegin 1 = .ok (.getfield 41, 3) := by decide +kernel
theorem dX3_mayBegin_4 : decode cX3_mayBegin 4 = .ok (.ifCond .ne 18, 3) := by decide +kernel
theorem dX3_mayBegin_7 : decode cX3_mayBegin 7 = .ok (.aload_n 0, 1) := by decide +kernel
theorem dX3_mayBegin_8 : decode cX3_mayBegin 8 = .ok (.iload_n 1, 1) := by decide +kernel
theorem dX3_mayBegin_9 : decode cX3_mayBegin 9 = .ok (.invokevirtual 86, 3) := by decide +kernel
theorem dX3_mayBegin_12 : decode cX3_mayBegin 12 = .ok (.ifCond .ne 10, 3) := by decide +kernel
theorem dX3_mayBegin_15 : decode cX3_mayBegin 15 = .ok (.aload_n 0, 1) := by decide +kernel
theorem dX3_mayBegin_16 : decode cX3_mayBegin 16 = .ok (.getfield 21, 3) := by decide +kernel
theorem dX3_mayBegin_19 : decode cX3_mayBegin 19 = .ok (.ifCond .ne 5, 3) := by decide +kernel
theorem dX3_mayBegin_22 : decode cX3_mayBegin 22 = .ok (.iconst 0, 1) := by decide +kernel
theorem dX3_mayBegin_23 : decode cX3_mayBegin 23 = .ok (.ireturn, 1) := by decide +kernel
theorem dX3_mayBegin_24 : decode cX3_mayBegin 24 = .ok (.aload_n 0, 1) := by decide +kernel
theorem dX3_mayBegin_25 : decode cX3_mayBegin 25 = .ok (.invokevirtual 90, 3) := by decide +kernel
theorem dX3_mayBegin_28 : decode cX3_mayBegin 28 = .ok (.aload_n 0, 1) := by decide +kernel
theorem dX3_mayBegin_29 : decode cX3_mayBegin 29 = .ok (.getfield 25, 3) := by decide +kernel
theorem dX3_mayBegin_32 : decode cX3_mayBegin 32 = .ok (.if_icmp .ge 23, 3) := by decide +kernel
theorem dX3_mayBegin_35 : decode cX3_mayBegin 35 = .ok (.aload_n 0, 1) := by decide +kernel
theorem dX3_mayBegin_36 : decode cX3_mayBegin 36 = .ok (.getfield 21, 3) := by decide +kernel
theorem dX3_mayBegin_39 : decode cX3_mayBegin 39 = .ok (.iconst 1, 1) := by decide +kernel
theorem dX3_mayBegin_40 : decode cX3_mayBegin 40 = .ok (.if_icmp .ne 19, 3) := by decide +kernel
theorem dX3_mayBegin_43 : decode cX3_mayBegin 43 = .ok (.aload_n 0, 1) := by decide +kernel
theorem dX3_mayBegin_44 : decode cX3_mayBegin 44 = .ok (.getfield 11, 3) := by decide +kernel
theorem dX3_mayBegin_47 : decode cX3_mayBegin 47 = .ok (.iconst 0, 1) := by decide +kernel
theorem dX3_mayBegin_48 : decode cX3_mayBegin 48 = .ok (.aaload, 1) := by decide +kernel
theorem dX3_mayBegin_49 : decode cX3_mayBegin 49 = .ok (.invokevirtual 94, 3) := by decide +kernel
theorem dX3_mayBegin_52 : decode cX3_mayBegin 52 = .ok (.ifCond .eq 7, 3) := by decide +kernel
theorem dX3_mayBegin_55 : decode cX3_mayBegin 55 = .ok (.iconst 1, 1) := by decide +kernel
theorem dX3_mayBegin_56 : decode cX3_mayBegin 56 = .ok (.goto 4, 3) := by decide +kernel
theorem dX3_mayBegin_59 : decode cX3_mayBegin 59 = .ok (.iconst 0, 1) := by decide +kernel
theorem dX3_mayBegin_60 : decode cX3_mayBegin 60 = .ok (.ireturn, 1) := by decide +kernel
theorem dX3_isClean_0 : decode cX3_isClean 0 = .ok (.aload_n 0, 1) := by decide +kernel
theorem dX3_isClean_1 : decode cX3_isClean 1 = .ok (.getfield 21, 3) := by decide +kernel
theorem dX3_isClean_4 : decode cX3_isClean 4 = .ok (.ifCond .le 20, 3) := by decide +kernel
theorem dX3_isClean_7 : decode cX3_isClean 7 = .ok (.aload_n 0, 1) := by decide +kernel
theorem dX3_isClean_8 : decode cX3_isClean 8 = .ok (.getfield 11, 3) := by decide +kernel
theorem dX3_isClean_11 : decode cX3_isClean 11 = .ok (.iconst 0, 1) := by decide +kernel
theorem dX3_isClean_12 : decode cX3_isClean 12 = .ok (.aaload, 1) := by decide +kernel
theorem dX3_isClean_13 : decode cX3_isClean 13 = .ok (.getfield 66, 3) := by decide +kernel
theorem dX3_isClean_16 : decode cX3_isClean 16 = .ok (.iconst 2, 1) := by decide +kernel
theorem dX3_isClean_17 : decode cX3_isClean 17 = .ok (.if_icmp .ne 7, 3) := by decide +kernel
theorem dX3_isClean_20 : decode cX3_isClean 20 = .ok (.iconst 1, 1) := by decide +kernel
theorem dX3_isClean_21 : decode cX3_isClean 21 = .ok (.goto 4, 3) := by decide +kernel
theorem dX3_isClean_24 : decode cX3_isClean 24 = .ok (.iconst 0, 1) := by decide +kernel
theorem dX3_isClean_25 : decode cX3_isClean 25 = .ok (.ireturn, 1) := by decide +kernel
theorem dX3_hasLate_0 : decode cX3_hasLate 0 = .ok (.aload_n 0, 1) := by decide +kernel
theorem dX3_hasLate_1 : decode cX3_hasLate 1 = .ok (.getfield 21, 3) := by decide +kernel
theorem dX3_hasLate_4 : decode cX3_hasLate 4 = .ok (.ifCond .le 20, 3) := by decide +kernel
theorem dX3_hasLate_7 : decode cX3_hasLate 7 = .ok (.aload_n 0, 1) := by decide +kernel
theorem dX3_hasLate_8 : decode cX3_hasLate 8 = .ok (.getfield 11, 3) := by decide +kernel
theorem dX3_hasLate_11 : decode cX3_hasLate 11 = .ok (.iconst 0, 1) := by decide +kernel
theorem dX3_hasLate_12 : decode cX3_hasLate 12 = .ok (.aaload, 1) := by decide +kernel
theorem dX3_hasLate_13 : decode cX3_hasLate 13 = .ok (.getfield 66, 3) := by decide +kernel
theorem dX3_hasLate_16 : decode cX3_hasLate 16 = .ok (.iconst 3, 1) := by decide +kernel
theorem dX3_hasLate_17 : decode cX3_hasLate 17 = .ok (.if_icmp .ne 7, 3) := by decide +kernel
theorem dX3_hasLate_20 : decode cX3_hasLate 20 = .ok (.iconst 1, 1) := by decide +kernel
theorem dX3_hasLate_21 : decode cX3_hasLate 21 = .ok (.goto 4, 3) := by decide +kernel
theorem dX3_hasLate_24 : decode cX3_hasLate 24 = .ok (.iconst 0, 1) := by decide +kernel
theorem dX3_hasLate_25 : decode cX3_hasLate 25 = .ok (.ireturn, 1) := by decide +kernel
set_option maxRecDepth 20000 in
theorem ggX3_begin_X3_tenthsInBin : GoodIn wsX3_begin wsX3_tenthsInBin := goodIn_r _ [17, 1, 2, 3, 40, 41, 42, 43, 44, 45, 46, 47, 48, 49, 50, 51, 52, 53, 54, 55, 56, 57, 58, 59, 60, 61, 62, 63, 64, 65] (by decide +kernel) (by decide +kernel)
set_option maxRecDepth 20000 in
theorem gX3_begin_X3_tenthsInBin : GoodIn wsX3_begin (wsV RX3 90 RX3 yX3_tenthsInBin wsX3_tenthsInBin) := goodIn_app (goodIn_of _ (by decide +kernel)) ggX3_begin_X3_tenthsInBin
set_option maxRecDepth 20000 in
theorem ggX3_begin_X3_hoursFor : GoodIn wsX3_begin wsX3_hoursFor := goodIn_r _ [21, 22, 23, 24, 25, 40, 41, 42, 43, 44, 45, 46, 47, 48, 49, 50, 51, 52, 53] (by decide +kernel) (by decide +kernel)
set_option maxRecDepth 20000 in
theorem gX3_begin_X3_hoursFor : GoodIn wsX3_begin (wsV RX3 98 RX3 yX3_hoursFor wsX3_hoursFor) := goodIn_app (goodIn_of _ (by decide +kernel)) ggX3_begin_X3_hoursFor
set_option maxRecDepth 20000 in
theorem ggX3_begin_X2_oil : GoodIn wsX3_begin wsX2_oil := goodIn_r _ [30, 31, 32, 54, 55, 56, 57, 58, 59, 60, 61, 62, 63, 64, 65] (by decide +kernel) (by decide +kernel)
set_option maxRecDepth 20000 in
theorem gX3_begin_X2_oil : GoodIn wsX3_begin (wsV RX3 102 RX2 yX2_oil wsX2_oil) := goodIn_app (goodIn_of _ (by decide +kernel)) ggX3_begin_X2_oil
set_option maxRecDepth 20000 in
theorem ggX3_begin_X2_likeIfClean : GoodIn wsX3_begin wsX2_likeIfClean := goodIn_r _ [36, 37, 38, 39, 54, 55, 56, 57, 58, 59, 60, 61, 62, 63, 64, 65, 66, 67, 68] (by decide +kernel) (by decide +kernel)
set_option maxRecDepth 20000 in
theorem gX3_begin_X2_likeIfClean : GoodIn wsX3_begin (wsV RX3 109 RX2 yX2_likeIfClean wsX2_likeIfClean) := goodIn_app (goodIn_of _ (by decide +kernel)) ggX3_begin_X2_likeIfClean
theorem dX3_begin_0 : decode cX3_begin 0 = .ok (.aload_n 0, 1) := by decide +kernel
theorem dX3_begin_1 : decode cX3_begin 1 = .ok (.invokevirtual 90, 3) := by decide +kernel
theorem dX3_begin_4 : decode cX3_begin 4 = .ok (.istore_n 2, 1) := by decide +kernel
theorem dX3_begin_5 : decode cX3_begin 5 = .ok (.aload_n 0, 1) := by decide +kernel
theorem dX3_begin_6 : decode cX3_begin 6 = .ok (.iload_n 2, 1) := by decide +kernel
theorem dX3_begin_7 : decode cX3_begin 7 = .ok (.invokevirtual 98, 3) := by decide +kernel
theorem dX3_begin_10 : decode cX3_begin 10 = .ok (.istore_n 3, 1) := by decide +kernel
theorem dX3_begin_11 : decode cX3_begin 11 = .ok (.lconst 0, 1) := by decide +kernel
theorem dX3_begin_12 : decode cX3_begin 12 = .ok (.lstore 4, 2) := by decide +kernel
theorem dX3_begin_14 : decode cX3_begin 14 = .ok (.lconst 0, 1) := by decide +kernel
theorem dX3_begin_15 : decode cX3_begin 15 = .ok (.lstore 6, 2) := by decide +kernel
theorem dX3_begin_17 : decode cX3_begin 17 = .ok (.iconst 0, 1) := by decide +kernel
theorem dX3_begin_18 : decode cX3_begin 18 = .ok (.istore 8, 2) := by decide +kernel
theorem dX3_begin_20 : decode cX3_begin 20 = .ok (.iload 8, 2) := by decide +kernel
theorem dX3_begin_22 : decode cX3_begin 22 = .ok (.aload_n 0, 1) := by decide +kernel
theorem dX3_begin_23 : decode cX3_begin 23 = .ok (.getfield 21, 3) := by decide +kernel
theorem dX3_begin_26 : decode cX3_begin 26 = .ok (.if_icmp .ge 63, 3) := by decide +kernel
theorem dX3_begin_29 : decode cX3_begin 29 = .ok (.lload 4, 2) := by decide +kernel
theorem dX3_begin_31 : decode cX3_begin 31 = .ok (.aload_n 0, 1) := by decide +kernel
theorem dX3_begin_32 : decode cX3_begin 32 = .ok (.getfield 11, 3) := by decide +kernel
theorem dX3_begin_35 : decode cX3_begin 35 = .ok (.iload 8, 2) := by decide +kernel
theorem dX3_begin_37 : decode cX3_begin 37 = .ok (.aaload, 1) := by decide +kernel
theorem dX3_begin_38 : decode cX3_begin 38 = .ok (.invokevirtual 102, 3) := by decide +kernel
theorem dX3_begin_41 : decode cX3_begin 41 = .ok (.ladd, 1) := by decide +kernel
theorem dX3_begin_42 : decode cX3_begin 42 = .ok (.lstore 4, 2) := by decide +kernel
theorem dX3_begin_44 : decode cX3_begin 44 = .ok (.lload 6, 2) := by decide +kernel
theorem dX3_begin_46 : decode cX3_begin 46 = .ok (.aload_n 0, 1) := by decide +kernel
theorem dX3_begin_47 : decode cX3_begin 47 = .ok (.getfield 11, 3) := by decide +kernel
theorem dX3_begin_50 : decode cX3_begin 50 = .ok (.iload 8, 2) := by decide +kernel
theorem dX3_begin_52 : decode cX3_begin 52 = .ok (.aaload, 1) := by decide +kernel
theorem dX3_begin_53 : decode cX3_begin 53 = .ok (.getfield 63, 3) := by decide +kernel
theorem dX3_begin_56 : decode cX3_begin 56 = .ok (.i2l, 1) := by decide +kernel
theorem dX3_begin_57 : decode cX3_begin 57 = .ok (.aload_n 0, 1) := by decide +kernel
theorem dX3_begin_58 : decode cX3_begin 58 = .ok (.getfield 11, 3) := by decide +kernel
theorem dX3_begin_61 : decode cX3_begin 61 = .ok (.iload 8, 2) := by decide +kernel
theorem dX3_begin_63 : decode cX3_begin 63 = .ok (.aaload, 1) := by decide +kernel
theorem dX3_begin_64 : decode cX3_begin 64 = .ok (.getfield 106, 3) := by decide +kernel
theorem dX3_begin_67 : decode cX3_begin 67 = .ok (.i2l, 1) := by decide +kernel
theorem dX3_begin_68 : decode cX3_begin 68 = .ok (.lmul, 1) := by decide +kernel
theorem dX3_begin_69 : decode cX3_begin 69 = .ok (.ladd, 1) := by decide +kernel
theorem dX3_begin_70 : decode cX3_begin 70 = .ok (.lstore 6, 2) := by decide +kernel
theorem dX3_begin_72 : decode cX3_begin 72 = .ok (.aload_n 0, 1) := by decide +kernel
theorem dX3_begin_73 : decode cX3_begin 73 = .ok (.getfield 11, 3) := by decide +kernel
theorem dX3_begin_76 : decode cX3_begin 76 = .ok (.iload 8, 2) := by decide +kernel
theorem dX3_begin_78 : decode cX3_begin 78 = .ok (.aaload, 1) := by decide +kernel
theorem dX3_begin_79 : decode cX3_begin 79 = .ok (.iconst 4, 1) := by decide +kernel
theorem dX3_begin_80 : decode cX3_begin 80 = .ok (.putfield 80, 3) := by decide +kernel
theorem dX3_begin_83 : decode cX3_begin 83 = .ok (.iinc 8 1, 3) := by decide +kernel
theorem dX3_begin_86 : decode cX3_begin 86 = .ok (.goto (-66), 3) := by decide +kernel
theorem dX3_begin_89 : decode cX3_begin 89 = .ok (.aload_n 0, 1) := by decide +kernel
theorem dX3_begin_90 : decode cX3_begin 90 = .ok (.lload 4, 2) := by decide +kernel
theorem dX3_begin_92 : decode cX3_begin 92 = .ok (.ldc2_w 107, 3) := by decide +kernel
theorem dX3_begin_95 : decode cX3_begin 95 = .ok (.ldiv, 1) := by decide +kernel
theorem dX3_begin_96 : decode cX3_begin 96 = .ok (.l2i, 1) := by decide +kernel
theorem dX3_begin_97 : decode cX3_begin 97 = .ok (.putfield 44, 3) := by decide +kernel
theorem dX3_begin_100 : decode cX3_begin 100 = .ok (.aload_n 0, 1) := by decide +kernel
theorem dX3_begin_101 : decode cX3_begin 101 = .ok (.iload_n 2, 1) := by decide +kernel
theorem dX3_begin_102 : decode cX3_begin 102 = .ok (.iconst 1, 1) := by decide +kernel
theorem dX3_begin_103 : decode cX3_begin 103 = .ok (.if_icmp .ge 7, 3) := by decide +kernel
theorem dX3_begin_106 : decode cX3_begin 106 = .ok (.iconst 0, 1) := by decide +kernel
theorem dX3_begin_107 : decode cX3_begin 107 = .ok (.goto 9, 3) := by decide +kernel
theorem dX3_begin_110 : decode cX3_begin 110 = .ok (.lload 6, 2) := by decide +kernel
theorem dX3_begin_112 : decode cX3_begin 112 = .ok (.iload_n 2, 1) := by decide +kernel
theorem dX3_begin_113 : decode cX3_begin 113 = .ok (.i2l, 1) := by decide +kernel
theorem dX3_begin_114 : decode cX3_begin 114 = .ok (.ldiv, 1) := by decide +kernel
theorem dX3_begin_115 : decode cX3_begin 115 = .ok (.l2i, 1) := by decide +kernel
theorem dX3_begin_116 : decode cX3_begin 116 = .ok (.putfield 47, 3) := by decide +kernel
theorem dX3_begin_119 : decode cX3_begin 119 = .ok (.aload_n 0, 1) := by decide +kernel
theorem dX3_begin_120 : decode cX3_begin 120 = .ok (.aload_n 0, 1) := by decide +kernel
theorem dX3_begin_121 : decode cX3_begin 121 = .ok (.getfield 21, 3) := by decide +kernel
theorem dX3_begin_124 : decode cX3_begin 124 = .ok (.ifCond .le 15, 3) := by decide +kernel
theorem dX3_begin_127 : decode cX3_begin 127 = .ok (.aload_n 0, 1) := by decide +kernel
theorem dX3_begin_128 : decode cX3_begin 128 = .ok (.getfield 11, 3) := by decide +kernel
theorem dX3_begin_131 : decode cX3_begin 131 = .ok (.iconst 0, 1) := by decide +kernel
theorem dX3_begin_132 : decode cX3_begin 132 = .ok (.aaload, 1) := by decide +kernel
theorem dX3_begin_133 : decode cX3_begin 133 = .ok (.invokevirtual 109, 3) := by decide +kernel
theorem dX3_begin_136 : decode cX3_begin 136 = .ok (.goto 4, 3) := by decide +kernel
