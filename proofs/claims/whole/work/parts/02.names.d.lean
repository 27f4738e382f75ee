theorem dX4_follow_43 : decode cX4_follow 43 = .ok (.iload_n 2, 1) := by decide +kernel
theorem dX4_follow_44 : decode cX4_follow 44 = .ok (.iload 5, 2) := by decide +kernel
theorem dX4_follow_46 : decode cX4_follow 46 = .ok (.invokevirtual 99, 3) := by decide +kernel
theorem dX4_follow_49 : decode cX4_follow 49 = .ok (.ifCond .eq 7, 3) := by decide +kernel
theorem dX4_follow_52 : decode cX4_follow 52 = .ok (.iconst 1, 1) := by decide +kernel
theorem dX4_follow_53 : decode cX4_follow 53 = .ok (.goto 4, 3) := by decide +kernel
theorem dX4_follow_56 : decode cX4_follow 56 = .ok (.iconst 0, 1) := by decide +kernel
theorem dX4_follow_57 : decode cX4_follow 57 = .ok (.iadd, 1) := by decide +kernel
theorem dX4_follow_58 : decode cX4_follow 58 = .ok (.istore_n 3, 1) := by decide +kernel
theorem dX4_follow_59 : decode cX4_follow 59 = .ok (.aload_n 0, 1) := by decide +kernel
theorem dX4_follow_60 : decode cX4_follow 60 = .ok (.dup, 1) := by decide +kernel
theorem dX4_follow_61 : decode cX4_follow 61 = .ok (.getfield 50, 3) := by decide +kernel
theorem dX4_follow_64 : decode cX4_follow 64 = .ok (.aload_n 0, 1) := by decide +kernel
theorem dX4_follow_65 : decode cX4_follow 65 = .ok (.iload_n 1, 1) := by decide +kernel
theorem dX4_follow_66 : decode cX4_follow 66 = .ok (.iload_n 3, 1) := by decide +kernel
theorem dX4_follow_67 : decode cX4_follow 67 = .ok (.invokevirtual 90, 3) := by decide +kernel
theorem dX4_follow_70 : decode cX4_follow 70 = .ok (.aload_n 0, 1) := by decide +kernel
theorem dX4_follow_71 : decode cX4_follow 71 = .ok (.getfield 21, 3) := by decide +kernel
theorem dX4_follow_74 : decode cX4_follow 74 = .ok (.iload 5, 2) := by decide +kernel
theorem dX4_follow_76 : decode cX4_follow 76 = .ok (.iaload, 1) := by decide +kernel
theorem dX4_follow_77 : decode cX4_follow 77 = .ok (.if_icmp .lt 7, 3) := by decide +kernel
theorem dX4_follow_80 : decode cX4_follow 80 = .ok (.iconst 1, 1) := by decide +kernel
theorem dX4_follow_81 : decode cX4_follow 81 = .ok (.goto 4, 3) := by decide +kernel
theorem dX4_follow_84 : decode cX4_follow 84 = .ok (.iconst 0, 1) := by decide +kernel
theorem dX4_follow_85 : decode cX4_follow 85 = .ok (.iadd, 1) := by decide +kernel
theorem dX4_follow_86 : decode cX4_follow 86 = .ok (.putfield 50, 3) := by decide +kernel
theorem dX4_follow_89 : decode cX4_follow 89 = .ok (.aload_n 0, 1) := by decide +kernel
theorem dX4_follow_90 : decode cX4_follow 90 = .ok (.getfield 44, 3) := by decide +kernel
theorem dX4_follow_93 : decode cX4_follow 93 = .ok (.iload 4, 2) := by decide +kernel
theorem dX4_follow_95 : decode cX4_follow 95 = .ok (.aload_n 0, 1) := by decide +kernel
theorem dX4_follow_96 : decode cX4_follow 96 = .ok (.getfield 9, 3) := by decide +kernel
theorem dX4_follow_99 : decode cX4_follow 99 = .ok (.iload 5, 2) := by decide +kernel
theorem dX4_follow_101 : decode cX4_follow 101 = .ok (.iaload, 1) := by decide +kernel
theorem dX4_follow_102 : decode cX4_follow 102 = .ok (.iastore, 1) := by decide +kernel
theorem dX4_follow_103 : decode cX4_follow 103 = .ok (.iload_n 1, 1) := by decide +kernel
theorem dX4_follow_104 : decode cX4_follow 104 = .ok (.iconst 1, 1) := by decide +kernel
theorem dX4_follow_105 : decode cX4_follow 105 = .ok (.iload 5, 2) := by decide +kernel
theorem dX4_follow_107 : decode cX4_follow 107 = .ok (.ishl, 1) := by decide +kernel
theorem dX4_follow_108 : decode cX4_follow 108 = .ok (.ior, 1) := by decide +kernel
theorem dX4_follow_109 : decode cX4_follow 109 = .ok (.istore_n 1, 1) := by decide +kernel
theorem dX4_follow_110 : decode cX4_follow 110 = .ok (.iload 5, 2) := by decide +kernel
theorem dX4_follow_112 : decode cX4_follow 112 = .ok (.istore_n 2, 1) := by decide +kernel
theorem dX4_follow_113 : decode cX4_follow 113 = .ok (.iinc 4 1, 3) := by decide +kernel
theorem dX4_follow_116 : decode cX4_follow 116 = .ok (.goto (-102), 3) := by decide +kernel
theorem dX4_follow_119 : decode cX4_follow 119 = .ok (.aload_n 0, 1) := by decide +kernel
theorem dX4_follow_120 : decode cX4_follow 120 = .ok (.aload_n 0, 1) := by decide +kernel
theorem dX4_follow_121 : decode cX4_follow 121 = .ok (.iload_n 1, 1) := by decide +kernel
theorem dX4_follow_122 : decode cX4_follow 122 = .ok (.iload_n 3, 1) := by decide +kernel
theorem dX4_follow_123 : decode cX4_follow 123 = .ok (.invokevirtual 90, 3) := by decide +kernel
theorem dX4_follow_126 : decode cX4_follow 126 = .ok (.putfield 53, 3) := by decide +kernel
theorem dX4_follow_129 : decode cX4_follow 129 = .ok (.return_, 1) := by decide +kernel
theorem dX4_holds_0 : decode cX4_holds 0 = .ok (.iload_n 0, 1) := by decide +kernel
theorem dX4_holds_1 : decode cX4_holds 1 = .ok (.iload_n 1, 1) := by decide +kernel
theorem dX4_holds_2 : decode cX4_holds 2 = .ok (.ishr, 1) := by decide +kernel
theorem dX4_holds_3 : decode cX4_holds 3 = .ok (.iconst 1, 1) := by decide +kernel
theorem dX4_holds_4 : decode cX4_holds 4 = .ok (.iand, 1) := by decide +kernel
theorem dX4_holds_5 : decode cX4_holds 5 = .ok (.iconst 1, 1) := by decide +kernel
theorem dX4_holds_6 : decode cX4_holds 6 = .ok (.if_icmp .ne 7, 3) := by decide +kernel
theorem dX4_holds_9 : decode cX4_holds 9 = .ok (.iconst 1, 1) := by decide +kernel
theorem dX4_holds_10 : decode cX4_holds 10 = .ok (.goto 4, 3) := by decide +kernel
theorem dX4_holds_13 : decode cX4_holds 13 = .ok (.iconst 0, 1) := by decide +kernel
theorem dX4_holds_14 : decode cX4_holds 14 = .ok (.ireturn, 1) := by decide +kernel
theorem dX4_slot_0 : decode cX4_slot 0 = .ok (.iload_n 0, 1) := by decide +kernel
theorem dX4_slot_1 : decode cX4_slot 1 = .ok (.bipush 8, 2) := by decide +kernel
theorem dX4_slot_3 : decode cX4_slot 3 = .ok (.imul, 1) := by decide +kernel
theorem dX4_slot_4 : decode cX4_slot 4 = .ok (.iload_n 1, 1) := by decide +kernel
theorem dX4_slot_5 : decode cX4_slot 5 = .ok (.iadd, 1) := by decide +kernel
theorem dX4_slot_6 : decode cX4_slot 6 = .ok (.bipush 9, 2) := by decide +kernel
theorem dX4_slot_8 : decode cX4_slot 8 = .ok (.imul, 1) := by decide +kernel
theorem dX4_slot_9 : decode cX4_slot 9 = .ok (.iload_n 2, 1) := by decide +kernel
theorem dX4_slot_10 : decode cX4_slot 10 = .ok (.iadd, 1) := by decide +kernel
theorem dX4_slot_11 : decode cX4_slot 11 = .ok (.ireturn, 1) := by decide +kernel
theorem dX5_init_0 : decode cX5_init 0 = .ok (.aload_n 0, 1) := by decide +kernel
theorem dX5_init_1 : decode cX5_init 1 = .ok (.invokespecial 1, 3) := by decide +kernel
theorem dX5_init_4 : decode cX5_init 4 = .ok (.aload_n 0, 1) := by decide +kernel
theorem dX5_init_5 : decode cX5_init 5 = .ok (.iconst 0, 1) := by decide +kernel
theorem dX5_init_6 : decode cX5_init 6 = .ok (.putfield 7, 3) := by decide +kernel
theorem dX5_init_9 : decode cX5_init 9 = .ok (.aload_n 0, 1) := by decide +kernel
theorem dX5_init_10 : decode cX5_init 10 = .ok (.iconst 0, 1) := by decide +kernel
theorem dX5_init_11 : decode cX5_init 11 = .ok (.putfield 13, 3) := by decide +kernel
theorem dX5_init_14 : decode cX5_init 14 = .ok (.aload_n 0, 1) := by decide +kernel
theorem dX5_init_15 : decode cX5_init 15 = .ok (.iconst 0, 1) := by decide +kernel
theorem dX5_init_16 : decode cX5_init 16 = .ok (.putfield 16, 3) := by decide +kernel
theorem dX5_init_19 : decode cX5_init 19 = .ok (.aload_n 0, 1) := by decide +kernel
theorem dX5_init_20 : decode cX5_init 20 = .ok (.iconst 0, 1) := by decide +kernel
theorem dX5_init_21 : decode cX5_init 21 = .ok (.putfield 19, 3) := by decide +kernel
theorem dX5_init_24 : decode cX5_init 24 = .ok (.aload_n 0, 1) := by decide +kernel
theorem dX5_init_25 : decode cX5_init 25 = .ok (.iconst 0, 1) := by decide +kernel
theorem dX5_init_26 : decode cX5_init 26 = .ok (.putfield 22, 3) := by decide +kernel
theorem dX5_init_29 : decode cX5_init 29 = .ok (.return_, 1) := by decide +kernel
theorem dX6_init_0 : decode cX6_init 0 = .ok (.aload_n 0, 1) := by decide +kernel
theorem dX6_init_1 : decode cX6_init 1 = .ok (.invokespecial 3, 3) := by decide +kernel
theorem dX6_init_4 : decode cX6_init 4 = .ok (.aload_n 0, 1) := by decide +kernel
theorem dX6_init_5 : decode cX6_init 5 = .ok (.iconst 0, 1) := by decide +kernel
theorem dX6_init_6 : decode cX6_init 6 = .ok (.putfield 9, 3) := by decide +kernel
theorem dX6_init_9 : decode cX6_init 9 = .ok (.aload_n 0, 1) := by decide +kernel
theorem dX6_init_10 : decode cX6_init 10 = .ok (.iconst 0, 1) := by decide +kernel
theorem dX6_init_11 : decode cX6_init 11 = .ok (.putfield 15, 3) := by decide +kernel
theorem dX6_init_14 : decode cX6_init 14 = .ok (.aload_n 0, 1) := by decide +kernel
theorem dX6_init_15 : decode cX6_init 15 = .ok (.iconst 0, 1) := by decide +kernel
theorem dX6_init_16 : decode cX6_init 16 = .ok (.putfield 18, 3) := by decide +kernel
theorem dX6_init_19 : decode cX6_init 19 = .ok (.aload_n 0, 1) := by decide +kernel
theorem dX6_init_20 : decode cX6_init 20 = .ok (.lconst 0, 1) := by decide +kernel
theorem dX6_init_21 : decode cX6_init 21 = .ok (.putfield 22, 3) := by decide +kernel
theorem dX6_init_24 : decode cX6_init 24 = .ok (.aload_n 0, 1) := by decide +kernel
theorem dX6_init_25 : decode cX6_init 25 = .ok (.lconst 0, 1) := by decide +kernel
theorem dX6_init_26 : decode cX6_init 26 = .ok (.putfield 26, 3) := by decide +kernel
theorem dX6_init_29 : decode cX6_init 29 = .ok (.aload_n 0, 1) := by decide +kernel
theorem dX6_init_30 : decode cX6_init 30 = .ok (.iload_n 1, 1) := by decide +kernel
theorem dX6_init_31 : decode cX6_init 31 = .ok (.putfield 29, 3) := by decide +kernel
theorem dX6_init_34 : decode cX6_init 34 = .ok (.aload_n 0, 1) := by decide +kernel
theorem dX6_init_35 : decode cX6_init 35 = .ok (.iload_n 2, 1) := by decide +kernel
theorem dX6_init_36 : decode cX6_init 36 = .ok (.putfield 32, 3) := by decide +kernel
theorem dX6_init_39 : decode cX6_init 39 = .ok (.aload_n 0, 1) := by decide +kernel
theorem dX6_init_40 : decode cX6_init 40 = .ok (.iload_n 3, 1) := by decide +kernel
theorem dX6_init_41 : decode cX6_init 41 = .ok (.putfield 35, 3) := by decide +kernel
theorem dX6_init_44 : decode cX6_init 44 = .ok (.return_, 1) := by decide +kernel
set_option maxRecDepth 20000 in
theorem ggX6_admits_X3_isClean : GoodIn wsX6_admits wsX3_isClean := goodIn_r _ [16, 17, 18, 19, 32, 33, 34, 35, 36, 37, 38, 39, 40, 41, 42, 43, 44, 45, 46, 47, 48, 49, 50, 51, 52, 53, 54, 55, 56, 57] (by decide +kernel) (by decide +kernel)
set_option maxRecDepth 20000 in
theorem gX6_admits_X3_isClean : GoodIn wsX6_admits (wsV RX6 38 RX3 yX3_isClean wsX3_isClean) := goodIn_app (goodIn_of _ (by decide +kernel)) ggX6_admits_X3_isClean
set_option maxRecDepth 20000 in
theorem ggX6_admits_X3_hasLate : GoodIn wsX6_admits wsX3_hasLate := goodIn_r _ [23, 17, 18, 19, 32, 33, 34, 35, 36, 37, 38, 39, 40, 41, 42, 43, 44, 45, 46, 47, 48, 49, 50, 51, 52, 53, 54, 55, 56, 57] (by decide +kernel) (by decide +kernel)
set_option maxRecDepth 20000 in
theorem gX6_admits_X3_hasLate : GoodIn wsX6_admits (wsV RX6 46 RX3 yX3_hasLate wsX3_hasLate) := goodIn_app (goodIn_of _ (by decide +kernel)) ggX6_admits_X3_hasLate
theorem dX6_admits_0 : decode cX6_admits 0 = .ok (.aload_n 0, 1) := by decide +kernel
theorem dX6_admits_1 : decode cX6_admits 1 = .ok (.getfield 18, 3) := by decide +kernel
theorem dX6_admits_4 : decode cX6_admits 4 = .ok (.ifCond .ne 30, 3) := by decide +kernel
theorem dX6_admits_7 : decode cX6_admits 7 = .ok (.aload_n 0, 1) := by decide +kernel
theorem dX6_admits_8 : decode cX6_admits 8 = .ok (.getfield 32, 3) := by decide +kernel
theorem dX6_admits_11 : decode cX6_admits 11 = .ok (.aload_n 1, 1) := by decide +kernel
theorem dX6_admits_12 : decode cX6_admits 12 = .ok (.invokevirtual 38, 3) := by decide +kernel
theorem dX6_admits_15 : decode cX6_admits 15 = .ok (.if_icmp .ne 19, 3) := by decide +kernel
theorem dX6_admits_18 : decode cX6_admits 18 = .ok (.aload_n 1, 1) := by decide +kernel
theorem dX6_admits_19 : decode cX6_admits 19 = .ok (.getfield 43, 3) := by decide +kernel
theorem dX6_admits_22 : decode cX6_admits 22 = .ok (.aload_n 0, 1) := by decide +kernel
theorem dX6_admits_23 : decode cX6_admits 23 = .ok (.getfield 35, 3) := by decide +kernel
theorem dX6_admits_26 : decode cX6_admits 26 = .ok (.aload_n 0, 1) := by decide +kernel
theorem dX6_admits_27 : decode cX6_admits 27 = .ok (.getfield 9, 3) := by decide +kernel
theorem dX6_admits_30 : decode cX6_admits 30 = .ok (.isub, 1) := by decide +kernel
theorem dX6_admits_31 : decode cX6_admits 31 = .ok (.if_icmp .le 5, 3) := by decide +kernel
theorem dX6_admits_34 : decode cX6_admits 34 = .ok (.iconst 0, 1) := by decide +kernel
theorem dX6_admits_35 : decode cX6_admits 35 = .ok (.ireturn, 1) := by decide +kernel
theorem dX6_admits_36 : decode cX6_admits 36 = .ok (.aload_n 0, 1) := by decide +kernel
theorem dX6_admits_37 : decode cX6_admits 37 = .ok (.getfield 29, 3) := by decide +kernel
theorem dX6_admits_40 : decode cX6_admits 40 = .ok (.ifCond .ne 12, 3) := by decide +kernel
theorem dX6_admits_43 : decode cX6_admits 43 = .ok (.aload_n 1, 1) := by decide +kernel
theorem dX6_admits_44 : decode cX6_admits 44 = .ok (.invokevirtual 46, 3) := by decide +kernel
theorem dX6_admits_47 : decode cX6_admits 47 = .ok (.ifCond .eq 5, 3) := by decide +kernel
theorem dX6_admits_50 : decode cX6_admits 50 = .ok (.iconst 0, 1) := by decide +kernel
theorem dX6_admits_51 : decode cX6_admits 51 = .ok (.ireturn, 1) := by decide +kernel
theorem dX6_admits_52 : decode cX6_admits 52 = .ok (.aload_n 0, 1) := by decide +kernel
theorem dX6_admits_53 : decode cX6_admits 53 = .ok (.getfield 22, 3) := by decide +kernel
theorem dX6_admits_56 : decode cX6_admits 56 = .ok (.aload_n 1, 1) := by decide +kernel
theorem dX6_admits_57 : decode cX6_admits 57 = .ok (.getfield 43, 3) := by decide +kernel
theorem dX6_admits_60 : decode cX6_admits 60 = .ok (.i2l, 1) := by decide +kernel
theorem dX6_admits_61 : decode cX6_admits 61 = .ok (.aload_n 1, 1) := by decide +kernel
theorem dX6_admits_62 : decode cX6_admits 62 = .ok (.getfield 49, 3) := by decide +kernel
theorem dX6_admits_65 : decode cX6_admits 65 = .ok (.i2l, 1) := by decide +kernel
theorem dX6_admits_66 : decode cX6_admits 66 = .ok (.lmul, 1) := by decide +kernel
theorem dX6_admits_67 : decode cX6_admits 67 = .ok (.ladd, 1) := by decide +kernel
theorem dX6_admits_68 : decode cX6_admits 68 = .ok (.lstore_n 2, 1) := by decide +kernel
theorem dX6_admits_69 : decode cX6_admits 69 = .ok (.aload_n 0, 1) := by decide +kernel
theorem dX6_admits_70 : decode cX6_admits 70 = .ok (.getfield 26, 3) := by decide +kernel
theorem dX6_admits_73 : decode cX6_admits 73 = .ok (.aload_n 1, 1) := by decide +kernel
theorem dX6_admits_74 : decode cX6_admits 74 = .ok (.getfield 43, 3) := by decide +kernel
theorem dX6_admits_77 : decode cX6_admits 77 = .ok (.i2l, 1) := by decide +kernel
theorem dX6_admits_78 : decode cX6_admits 78 = .ok (.ladd, 1) := by decide +kernel
theorem dX6_admits_79 : decode cX6_admits 79 = .ok (.lstore 4, 2) := by decide +kernel
theorem dX6_admits_81 : decode cX6_admits 81 = .ok (.aload_n 0, 1) := by decide +kernel
theorem dX6_admits_82 : decode cX6_admits 82 = .ok (.getfield 29, 3) := by decide +kernel
theorem dX6_admits_85 : decode cX6_admits 85 = .ok (.ifCond .ne 20, 3) := by decide +kernel
theorem dX6_admits_88 : decode cX6_admits 88 = .ok (.lload_n 2, 1) := by decide +kernel
theorem dX6_admits_89 : decode cX6_admits 89 = .ok (.lload 4, 2) := by decide +kernel
theorem dX6_admits_91 : decode cX6_admits 91 = .ok (.ldc2_w 52, 3) := by decide +kernel
theorem dX6_admits_94 : decode cX6_admits 94 = .ok (.lmul, 1) := by decide +kernel
theorem dX6_admits_95 : decode cX6_admits 95 = .ok (.lcmp, 1) := by decide +kernel
theorem dX6_admits_96 : decode cX6_admits 96 = .ok (.ifCond .gt 7, 3) := by decide +kernel
theorem dX6_admits_99 : decode cX6_admits 99 = .ok (.iconst 1, 1) := by decide +kernel
theorem dX6_admits_100 : decode cX6_admits 100 = .ok (.goto 4, 3) := by decide +kernel
theorem dX6_admits_103 : decode cX6_admits 103 = .ok (.iconst 0, 1) := by decide +kernel
theorem dX6_admits_104 : decode cX6_admits 104 = .ok (.ireturn, 1) := by decide +kernel
theorem dX6_admits_105 : decode cX6_admits 105 = .ok (.aload_n 0, 1) := by decide +kernel
theorem dX6_admits_106 : decode cX6_admits 106 = .ok (.getfield 29, 3) := by decide +kernel
theorem dX6_admits_109 : decode cX6_admits 109 = .ok (.iconst 1, 1) := by decide +kernel
theorem dX6_admits_110 : decode cX6_admits 110 = .ok (.if_icmp .ne 14, 3) := by decide +kernel
theorem dX6_admits_113 : decode cX6_admits 113 = .ok (.lload_n 2, 1) := by decide +kernel
theorem dX6_admits_114 : decode cX6_admits 114 = .ok (.lload 4, 2) := by decide +kernel
theorem dX6_admits_116 : decode cX6_admits 116 = .ok (.ldc2_w 54, 3) := by decide +kernel
theorem dX6_admits_119 : decode cX6_admits 119 = .ok (.lmul, 1) := by decide +kernel
theorem dX6_admits_120 : decode cX6_admits 120 = .ok (.lcmp, 1) := by decide +kernel
theorem dX6_admits_121 : decode cX6_admits 121 = .ok (.ifCond .gt 7, 3) := by decide +kernel
theorem dX6_admits_124 : decode cX6_admits 124 = .ok (.iconst 1, 1) := by decide +kernel
theorem dX6_admits_125 : decode cX6_admits 125 = .ok (.goto 4, 3) := by decide +kernel
theorem dX6_admits_128 : decode cX6_admits 128 = .ok (.iconst 0, 1) := by decide +kernel
theorem dX6_admits_129 : decode cX6_admits 129 = .ok (.ireturn, 1) := by decide +kernel
theorem dX6_receive_0 : decode cX6_receive 0 = .ok (.aload_n 0, 1) := by decide +kernel
theorem dX6_receive_1 : decode cX6_receive 1 = .ok (.dup, 1) := by decide +kernel
theorem dX6_receive_2 : decode cX6_receive 2 = .ok (.getfield 9, 3) := by decide +kernel
theorem dX6_receive_5 : decode cX6_receive 5 = .ok (.aload_n 1, 1) := by decide +kernel
theorem dX6_receive_6 : decode cX6_receive 6 = .ok (.getfield 43, 3) := by decide +kernel
theorem dX6_receive_9 : decode cX6_receive 9 = .ok (.iadd, 1) := by decide +kernel
theorem dX6_receive_10 : decode cX6_receive 10 = .ok (.putfield 9, 3) := by decide +kernel
theorem dX6_receive_13 : decode cX6_receive 13 = .ok (.aload_n 0, 1) := by decide +kernel
theorem dX6_receive_14 : decode cX6_receive 14 = .ok (.dup, 1) := by decide +kernel
theorem dX6_receive_15 : decode cX6_receive 15 = .ok (.getfield 15, 3) := by decide +kernel
theorem dX6_receive_18 : decode cX6_receive 18 = .ok (.aload_n 1, 1) := by decide +kernel
theorem dX6_receive_19 : decode cX6_receive 19 = .ok (.getfield 56, 3) := by decide +kernel
theorem dX6_receive_22 : decode cX6_receive 22 = .ok (.iadd, 1) := by decide +kernel
theorem dX6_receive_23 : decode cX6_receive 23 = .ok (.putfield 15, 3) := by decide +kernel
theorem dX6_receive_26 : decode cX6_receive 26 = .ok (.aload_n 0, 1) := by decide +kernel
theorem dX6_receive_27 : decode cX6_receive 27 = .ok (.dup, 1) := by decide +kernel
theorem dX6_receive_28 : decode cX6_receive 28 = .ok (.getfield 22, 3) := by decide +kernel
theorem dX6_receive_31 : decode cX6_receive 31 = .ok (.aload_n 1, 1) := by decide +kernel
theorem dX6_receive_32 : decode cX6_receive 32 = .ok (.getfield 43, 3) := by decide +kernel
theorem dX6_receive_35 : decode cX6_receive 35 = .ok (.i2l, 1) := by decide +kernel
theorem dX6_receive_36 : decode cX6_receive 36 = .ok (.aload_n 1, 1) := by decide +kernel
theorem dX6_receive_37 : decode cX6_receive 37 = .ok (.getfield 49, 3) := by decide +kernel
theorem dX6_receive_40 : decode cX6_receive 40 = .ok (.i2l, 1) := by decide +kernel
theorem dX6_receive_41 : decode cX6_receive 41 = .ok (.lmul, 1) := by decide +kernel
theorem dX6_receive_42 : decode cX6_receive 42 = .ok (.ladd, 1) := by decide +kernel
theorem dX6_receive_43 : decode cX6_receive 43 = .ok (.putfield 22, 3) := by decide +kernel
theorem dX6_receive_46 : decode cX6_receive 46 = .ok (.aload_n 0, 1) := by decide +kernel
theorem dX6_receive_47 : decode cX6_receive 47 = .ok (.dup, 1) := by decide +kernel
theorem dX6_receive_48 : decode cX6_receive 48 = .ok (.getfield 26, 3) := by decide +kernel
theorem dX6_receive_51 : decode cX6_receive 51 = .ok (.aload_n 1, 1) := by decide +kernel
theorem dX6_receive_52 : decode cX6_receive 52 = .ok (.getfield 43, 3) := by decide +kernel
theorem dX6_receive_55 : decode cX6_receive 55 = .ok (.i2l, 1) := by decide +kernel
theorem dX6_receive_56 : decode cX6_receive 56 = .ok (.ladd, 1) := by decide +kernel
theorem dX6_receive_57 : decode cX6_receive 57 = .ok (.putfield 26, 3) := by decide +kernel
theorem dX6_receive_60 : decode cX6_receive 60 = .ok (.return_, 1) := by decide +kernel
theorem dX6_lose_0 : decode cX6_lose 0 = .ok (.aload_n 0, 1) := by decide +kernel
theorem dX6_lose_1 : decode cX6_lose 1 = .ok (.dup, 1) := by decide +kernel
theorem dX6_lose_2 : decode cX6_lose 2 = .ok (.getfield 9, 3) := by decide +kernel
theorem dX6_lose_5 : decode cX6_lose 5 = .ok (.iload_n 1, 1) := by decide +kernel
theorem dX6_lose_6 : decode cX6_lose 6 = .ok (.isub, 1) := by decide +kernel
theorem dX6_lose_7 : decode cX6_lose 7 = .ok (.putfield 9, 3) := by decide +kernel
theorem dX6_lose_10 : decode cX6_lose 10 = .ok (.aload_n 0, 1) := by decide +kernel
theorem dX6_lose_11 : decode cX6_lose 11 = .ok (.aload_n 0, 1) := by decide +kernel
theorem dX6_lose_12 : decode cX6_lose 12 = .ok (.getfield 9, 3) := by decide +kernel
theorem dX6_lose_15 : decode cX6_lose 15 = .ok (.ifCond .le 7, 3) := by decide +kernel
theorem dX6_lose_18 : decode cX6_lose 18 = .ok (.iconst 1, 1) := by decide +kernel
theorem dX6_lose_19 : decode cX6_lose 19 = .ok (.goto 4, 3) := by decide +kernel
theorem dX6_lose_22 : decode cX6_lose 22 = .ok (.iconst 0, 1) := by decide +kernel
theorem dX6_lose_23 : decode cX6_lose 23 = .ok (.putfield 18, 3) := by decide +kernel
theorem dX6_lose_26 : decode cX6_lose 26 = .ok (.aload_n 0, 1) := by decide +kernel
theorem dX6_lose_27 : decode cX6_lose 27 = .ok (.getfield 9, 3) := by decide +kernel
theorem dX6_lose_30 : decode cX6_lose 30 = .ok (.iconst 1, 1) := by decide +kernel
theorem dX6_lose_31 : decode cX6_lose 31 = .ok (.if_icmp .ge 13, 3) := by decide +kernel
theorem dX6_lose_34 : decode cX6_lose 34 = .ok (.aload_n 0, 1) := by decide +kernel
theorem dX6_lose_35 : decode cX6_lose 35 = .ok (.lconst 0, 1) := by decide +kernel
theorem dX6_lose_36 : decode cX6_lose 36 = .ok (.putfield 22, 3) := by decide +kernel
theorem dX6_lose_39 : decode cX6_lose 39 = .ok (.aload_n 0, 1) := by decide +kernel
theorem dX6_lose_40 : decode cX6_lose 40 = .ok (.lconst 0, 1) := by decide +kernel
theorem dX6_lose_41 : decode cX6_lose 41 = .ok (.putfield 26, 3) := by decide +kernel
theorem dX6_lose_44 : decode cX6_lose 44 = .ok (.return_, 1) := by decide +kernel
set_option maxRecDepth 20000 in
theorem ggX6_loseOfPress_X6_lose : GoodIn wsX6_loseOfPress wsX6_lose := goodIn_r _ [6, 7, 8, 9, 10, 11, 12, 13, 14, 15, 16, 17, 18] (by decide +kernel) (by decide +kernel)
set_option maxRecDepth 20000 in
theorem gX6_loseOfPress_X6_lose : GoodIn wsX6_loseOfPress (wsV RX6 59 RX6 yX6_lose wsX6_lose) := goodIn_app (goodIn_of _ (by decide +kernel)) ggX6_loseOfPress_X6_lose
theorem dX6_loseOfPress_0 : decode cX6_loseOfPress 0 = .ok (.aload_n 0, 1) := by decide +kernel
theorem dX6_loseOfPress_1 : decode cX6_loseOfPress 1 = .ok (.dup, 1) := by decide +kernel
theorem dX6_loseOfPress_2 : decode cX6_loseOfPress 2 = .ok (.getfield 15, 3) := by decide +kernel
theorem dX6_loseOfPress_5 : decode cX6_loseOfPress 5 = .ok (.iload_n 1, 1) := by decide +kernel
theorem dX6_loseOfPress_6 : decode cX6_loseOfPress 6 = .ok (.isub, 1) := by decide +kernel
theorem dX6_loseOfPress_7 : decode cX6_loseOfPress 7 = .ok (.putfield 15, 3) := by decide +kernel
theorem dX6_loseOfPress_10 : decode cX6_loseOfPress 10 = .ok (.aload_n 0, 1) := by decide +kernel
theorem dX6_loseOfPress_11 : decode cX6_loseOfPress 11 = .ok (.iload_n 1, 1) := by decide +kernel
theorem dX6_loseOfPress_12 : decode cX6_loseOfPress 12 = .ok (.invokevirtual 59, 3) := by decide +kernel
theorem dX6_loseOfPress_15 : decode cX6_loseOfPress 15 = .ok (.return_, 1) := by decide +kernel
set_option maxRecDepth 20000 in
theorem ggX6_sournessAbove_X6_commonDivisor : GoodIn wsX6_sournessAbove wsX6_commonDivisor := goodIn_r _ [6, 7, 8, 9, 10] (by decide +kernel) (by decide +kernel)
set_option maxRecDepth 20000 in
theorem gX6_sournessAbove_X6_commonDivisor : GoodIn wsX6_sournessAbove (va_wsS RX6 63 yX6_commonDivisor wsX6_commonDivisor) := goodIn_app (goodIn_of _ (by decide +kernel)) ggX6_sournessAbove_X6_commonDivisor
theorem dX6_sournessAbove_0 : decode cX6_sournessAbove 0 = .ok (.aload_n 0, 1) := by decide +kernel
theorem dX6_sournessAbove_1 : decode cX6_sournessAbove 1 = .ok (.getfield 22, 3) := by decide +kernel
theorem dX6_sournessAbove_4 : decode cX6_sournessAbove 4 = .ok (.aload_n 0, 1) := by decide +kernel
theorem dX6_sournessAbove_5 : decode cX6_sournessAbove 5 = .ok (.getfield 22, 3) := by decide +kernel
theorem dX6_sournessAbove_8 : decode cX6_sournessAbove 8 = .ok (.aload_n 0, 1) := by decide +kernel
theorem dX6_sournessAbove_9 : decode cX6_sournessAbove 9 = .ok (.getfield 26, 3) := by decide +kernel
theorem dX6_sournessAbove_12 : decode cX6_sournessAbove 12 = .ok (.invokestatic 63, 3) := by decide +kernel
theorem dX6_sournessAbove_15 : decode cX6_sournessAbove 15 = .ok (.ldiv, 1) := by decide +kernel
theorem dX6_sournessAbove_16 : decode cX6_sournessAbove 16 = .ok (.l2i, 1) := by decide +kernel
theorem dX6_sournessAbove_17 : decode cX6_sournessAbove 17 = .ok (.ireturn, 1) := by decide +kernel
set_option maxRecDepth 20000 in
theorem ggX6_sournessBelow_X6_commonDivisor : GoodIn wsX6_sournessBelow wsX6_commonDivisor := goodIn_r _ [6, 7, 8, 9, 10] (by decide +kernel) (by decide +kernel)
set_option maxRecDepth 20000 in
theorem gX6_sournessBelow_X6_commonDivisor : GoodIn wsX6_sournessBelow (va_wsS RX6 63 yX6_commonDivisor wsX6_commonDivisor) := goodIn_app (goodIn_of _ (by decide +kernel)) ggX6_sournessBelow_X6_commonDivisor
theorem dX6_sournessBelow_0 : decode cX6_sournessBelow 0 = .ok (.aload_n 0, 1) := by decide +kernel
theorem dX6_sournessBelow_1 : decode cX6_sournessBelow 1 = .ok (.getfield 26, 3) := by decide +kernel
theorem dX6_sournessBelow_4 : decode cX6_sournessBelow 4 = .ok (.lconst 1, 1) := by decide +kernel
theorem dX6_sournessBelow_5 : decode cX6_sournessBelow 5 = .ok (.lcmp, 1) := by decide +kernel
theorem dX6_sournessBelow_6 : decode cX6_sournessBelow 6 = .ok (.ifCond .ge 7, 3) := by decide +kernel
theorem dX6_sournessBelow_9 : decode cX6_sournessBelow 9 = .ok (.iconst 1, 1) := by decide +kernel
theorem dX6_sournessBelow_10 : decode cX6_sournessBelow 10 = .ok (.goto 20, 3) := by decide +kernel
theorem dX6_sournessBelow_13 : decode cX6_sournessBelow 13 = .ok (.aload_n 0, 1) := by decide +kernel
theorem dX6_sournessBelow_14 : decode cX6_sournessBelow 14 = .ok (.getfield 26, 3) := by decide +kernel
theorem dX6_sournessBelow_17 : decode cX6_sournessBelow 17 = .ok (.aload_n 0, 1) := by decide +kernel
theorem dX6_sournessBelow_18 : decode cX6_sournessBelow 18 = .ok (.getfield 22, 3) := by decide +kernel
theorem dX6_sournessBelow_21 : decode cX6_sournessBelow 21 = .ok (.aload_n 0, 1) := by decide +kernel
theorem dX6_sournessBelow_22 : decode cX6_sournessBelow 22 = .ok (.getfield 26, 3) := by decide +kernel
theorem dX6_sournessBelow_25 : decode cX6_sournessBelow 25 = .ok (.invokestatic 63, 3) := by decide +kernel
theorem dX6_sournessBelow_28 : decode cX6_sournessBelow 28 = .ok (.ldiv, 1) := by decide +kernel
theorem dX6_sournessBelow_29 : decode cX6_sournessBelow 29 = .ok (.l2i, 1) := by decide +kernel
theorem dX6_sournessBelow_30 : decode cX6_sournessBelow 30 = .ok (.ireturn, 1) := by decide +kernel
theorem dX6_commonDivisor_0 : decode cX6_commonDivisor 0 = .ok (.iconst 0, 1) := by decide +kernel
theorem dX6_commonDivisor_1 : decode cX6_commonDivisor 1 = .ok (.istore 4, 2) := by decide +kernel
theorem dX6_commonDivisor_3 : decode cX6_commonDivisor 3 = .ok (.iload 4, 2) := by decide +kernel
theorem dX6_commonDivisor_5 : decode cX6_commonDivisor 5 = .ok (.sipush 200, 3) := by decide +kernel
theorem dX6_commonDivisor_8 : decode cX6_commonDivisor 8 = .ok (.if_icmp .ge 25, 3) := by decide +kernel
theorem dX6_commonDivisor_11 : decode cX6_commonDivisor 11 = .ok (.lload_n 2, 1) := by decide +kernel
theorem dX6_commonDivisor_12 : decode cX6_commonDivisor 12 = .ok (.lconst 0, 1) := by decide +kernel
theorem dX6_commonDivisor_13 : decode cX6_commonDivisor 13 = .ok (.lcmp, 1) := by decide +kernel
theorem dX6_commonDivisor_14 : decode cX6_commonDivisor 14 = .ok (.ifCond .le 19, 3) := by decide +kernel
theorem dX6_commonDivisor_17 : decode cX6_commonDivisor 17 = .ok (.lload_n 0, 1) := by decide +kernel
theorem dX6_commonDivisor_18 : decode cX6_commonDivisor 18 = .ok (.lload_n 2, 1) := by decide +kernel
theorem dX6_commonDivisor_19 : decode cX6_commonDivisor 19 = .ok (.lrem, 1) := by decide +kernel
theorem dX6_commonDivisor_20 : decode cX6_commonDivisor 20 = .ok (.lstore 5, 2) := by decide +kernel
theorem dX6_commonDivisor_22 : decode cX6_commonDivisor 22 = .ok (.lload_n 2, 1) := by decide +kernel
theorem dX6_commonDivisor_23 : decode cX6_commonDivisor 23 = .ok (.lstore_n 0, 1) := by decide +kernel
theorem dX6_commonDivisor_24 : decode cX6_commonDivisor 24 = .ok (.lload 5, 2) := by decide +kernel
theorem dX6_commonDivisor_26 : decode cX6_commonDivisor 26 = .ok (.lstore_n 2, 1) := by decide +kernel
theorem dX6_commonDivisor_27 : decode cX6_commonDivisor 27 = .ok (.iinc 4 1, 3) := by decide +kernel
theorem dX6_commonDivisor_30 : decode cX6_commonDivisor 30 = .ok (.goto (-27), 3) := by decide +kernel
theorem dX6_commonDivisor_33 : decode cX6_commonDivisor 33 = .ok (.lconst 1, 1) := by decide +kernel
theorem dX6_commonDivisor_34 : decode cX6_commonDivisor 34 = .ok (.lload_n 0, 1) := by decide +kernel
theorem dX6_commonDivisor_35 : decode cX6_commonDivisor 35 = .ok (.invokestatic 67, 3) := by decide +kernel
theorem dX6_commonDivisor_38 : decode cX6_commonDivisor 38 = .ok (.lreturn, 1) := by decide +kernel
set_option maxRecDepth 20000 in
theorem ggX7_init_X0_init : GoodIn wsX7_init wsX0_init := goodIn_r _ [34, 35, 2, 3, 36, 37, 98] (by decide +kernel) (by decide +kernel)
set_option maxRecDepth 20000 in
theorem gX7_init_X0_init_n35 : GoodIn wsX7_init (wsX0_init) := ggX7_init_X0_init
set_option maxRecDepth 20000 in
theorem ggX7_init_X5_init : GoodIn wsX7_init wsX5_init := goodIn_r _ [39, 40, 2, 3, 41, 42, 43, 44, 45, 99, 100, 101, 102, 103] (by decide +kernel) (by decide +kernel)
set_option maxRecDepth 20000 in
theorem gX7_init_X5_init_n42 : GoodIn wsX7_init (wsX5_init) := ggX7_init_X5_init
set_option maxRecDepth 20000 in
theorem ggX7_init_X4_init : GoodIn wsX7_init wsX4_init := goodIn_r _ [47, 48, 2, 3, 36, 49, 50, 51, 52, 53, 54, 55, 56, 57, 58, 59, 60, 61, 62, 63, 104, 105, 106, 107, 108, 109, 110, 111, 112, 113, 114, 115, 116, 117, 118] (by decide +kernel) (by decide +kernel)
set_option maxRecDepth 20000 in
theorem gX7_init_X4_init_n49 : GoodIn wsX7_init (wsX4_init) := ggX7_init_X4_init
set_option maxRecDepth 20000 in
theorem ggX7_init_X3_init : GoodIn wsX7_init wsX3_init := goodIn_r _ [66, 67, 2, 3, 68, 69, 70, 71, 72, 73, 74, 75, 76, 77, 78, 79, 80, 81, 82, 83, 119, 120, 121, 122, 123, 124, 125, 126, 127, 128, 129, 130, 131, 132] (by decide +kernel) (by decide +kernel)
set_option maxRecDepth 20000 in
theorem gX7_init_X3_init : GoodIn wsX7_init (wsX3_init) := ggX7_init_X3_init
theorem dX7_init_0 : decode cX7_init 0 = .ok (.aload_n 0, 1) := by decide +kernel
theorem dX7_init_1 : decode cX7_init 1 = .ok (.invokespecial 1, 3) := by decide +kernel
theorem dX7_init_4 : decode cX7_init 4 = .ok (.aload_n 0, 1) := by decide +kernel
theorem dX7_init_5 : decode cX7_init 5 = .ok (.bipush 60, 2) := by decide +kernel
theorem dX7_init_7 : decode cX7_init 7 = .ok (.anewarray 9, 3) := by decide +kernel
theorem dX7_init_10 : decode cX7_init 10 = .ok (.putfield 11, 3) := by decide +kernel
theorem dX7_init_13 : decode cX7_init 13 = .ok (.aload_n 0, 1) := by decide +kernel
theorem dX7_init_14 : decode cX7_init 14 = .ok (.sipush 200, 3) := by decide +kernel
theorem dX7_init_17 : decode cX7_init 17 = .ok (.anewarray 15, 3) := by decide +kernel
theorem dX7_init_20 : decode cX7_init 20 = .ok (.putfield 17, 3) := by decide +kernel
theorem dX7_init_23 : decode cX7_init 23 = .ok (.aload_n 0, 1) := by decide +kernel
theorem dX7_init_24 : decode cX7_init 24 = .ok (.iconst 3, 1) := by decide +kernel
theorem dX7_init_25 : decode cX7_init 25 = .ok (.anewarray 21, 3) := by decide +kernel
theorem dX7_init_28 : decode cX7_init 28 = .ok (.putfield 23, 3) := by decide +kernel
theorem dX7_init_31 : decode cX7_init 31 = .ok (.aload_n 0, 1) := by decide +kernel
theorem dX7_init_32 : decode cX7_init 32 = .ok (.bipush 12, 2) := by decide +kernel
theorem dX7_init_34 : decode cX7_init 34 = .ok (.anewarray 27, 3) := by decide +kernel
theorem dX7_init_37 : decode cX7_init 37 = .ok (.putfield 29, 3) := by decide +kernel
theorem dX7_init_40 : decode cX7_init 40 = .ok (.aload_n 0, 1) := by decide +kernel
theorem dX7_init_41 : decode cX7_init 41 = .ok (.new 33, 3) := by decide +kernel
theorem dX7_init_44 : decode cX7_init 44 = .ok (.dup, 1) := by decide +kernel
theorem dX7_init_45 : decode cX7_init 45 = .ok (.invokespecial 35, 3) := by decide +kernel
theorem dX7_init_48 : decode cX7_init 48 = .ok (.putfield 36, 3) := by decide +kernel
theorem dX7_init_51 : decode cX7_init 51 = .ok (.aload_n 0, 1) := by decide +kernel
theorem dX7_init_52 : decode cX7_init 52 = .ok (.new 40, 3) := by decide +kernel
theorem dX7_init_55 : decode cX7_init 55 = .ok (.dup, 1) := by decide +kernel
theorem dX7_init_56 : decode cX7_init 56 = .ok (.invokespecial 42, 3) := by decide +kernel
theorem dX7_init_59 : decode cX7_init 59 = .ok (.putfield 43, 3) := by decide +kernel
theorem dX7_init_62 : decode cX7_init 62 = .ok (.aload_n 0, 1) := by decide +kernel
theorem dX7_init_63 : decode cX7_init 63 = .ok (.new 47, 3) := by decide +kernel
theorem dX7_init_66 : decode cX7_init 66 = .ok (.dup, 1) := by decide +kernel
theorem dX7_init_67 : decode cX7_init 67 = .ok (.invokespecial 49, 3) := by decide +kernel
theorem dX7_init_70 : decode cX7_init 70 = .ok (.putfield 50, 3) := by decide +kernel
theorem dX7_init_73 : decode cX7_init 73 = .ok (.aload_n 0, 1) := by decide +kernel
theorem dX7_init_74 : decode cX7_init 74 = .ok (.iconst 0, 1) := by decide +kernel
theorem dX7_init_75 : decode cX7_init 75 = .ok (.putfield 54, 3) := by decide +kernel
theorem dX7_init_78 : decode cX7_init 78 = .ok (.aload_n 0, 1) := by decide +kernel
theorem dX7_init_79 : decode cX7_init 79 = .ok (.iconst 0, 1) := by decide +kernel
theorem dX7_init_80 : decode cX7_init 80 = .ok (.putfield 58, 3) := by decide +kernel
theorem dX7_init_83 : decode cX7_init 83 = .ok (.aload_n 0, 1) := by decide +kernel
theorem dX7_init_84 : decode cX7_init 84 = .ok (.iconst 0, 1) := by decide +kernel
theorem dX7_init_85 : decode cX7_init 85 = .ok (.putfield 61, 3) := by decide +kernel
theorem dX7_init_88 : decode cX7_init 88 = .ok (.aload_n 0, 1) := by decide +kernel
theorem dX7_init_89 : decode cX7_init 89 = .ok (.iconst 0, 1) := by decide +kernel
theorem dX7_init_90 : decode cX7_init 90 = .ok (.putfield 64, 3) := by decide +kernel
theorem dX7_init_93 : decode cX7_init 93 = .ok (.aload_n 0, 1) := by decide +kernel
theorem dX7_init_94 : decode cX7_init 94 = .ok (.iconst 3, 1) := by decide +kernel
theorem dX7_init_95 : decode cX7_init 95 = .ok (.putfield 67, 3) := by decide +kernel
theorem dX7_init_98 : decode cX7_init 98 = .ok (.aload_n 0, 1) := by decide +kernel
theorem dX7_init_99 : decode cX7_init 99 = .ok (.bipush 10, 2) := by decide +kernel
theorem dX7_init_101 : decode cX7_init 101 = .ok (.putfield 70, 3) := by decide +kernel
theorem dX7_init_104 : decode cX7_init 104 = .ok (.aload_n 0, 1) := by decide +kernel
theorem dX7_init_105 : decode cX7_init 105 = .ok (.iconst (-1), 1) := by decide +kernel
theorem dX7_init_106 : decode cX7_init 106 = .ok (.putfield 73, 3) := by decide +kernel
theorem dX7_init_109 : decode cX7_init 109 = .ok (.iconst 0, 1) := by decide +kernel
theorem dX7_init_110 : decode cX7_init 110 = .ok (.istore_n 1, 1) := by decide +kernel
theorem dX7_init_111 : decode cX7_init 111 = .ok (.iload_n 1, 1) := by decide +kernel
theorem dX7_init_112 : decode cX7_init 112 = .ok (.iconst 3, 1) := by decide +kernel
theorem dX7_init_113 : decode cX7_init 113 = .ok (.if_icmp .ge 23, 3) := by decide +kernel
theorem dX7_init_116 : decode cX7_init 116 = .ok (.aload_n 0, 1) := by decide +kernel
theorem dX7_init_117 : decode cX7_init 117 = .ok (.getfield 23, 3) := by decide +kernel
theorem dX7_init_120 : decode cX7_init 120 = .ok (.iload_n 1, 1) := by decide +kernel
theorem dX7_init_121 : decode cX7_init 121 = .ok (.new 21, 3) := by decide +kernel
theorem dX7_init_124 : decode cX7_init 124 = .ok (.dup, 1) := by decide +kernel
theorem dX7_init_125 : decode cX7_init 125 = .ok (.iload_n 1, 1) := by decide +kernel
theorem dX7_init_126 : decode cX7_init 126 = .ok (.invokespecial 76, 3) := by decide +kernel
theorem dX7_init_129 : decode cX7_init 129 = .ok (.aastore, 1) := by decide +kernel
theorem dX7_init_130 : decode cX7_init 130 = .ok (.iinc 1 1, 3) := by decide +kernel
theorem dX7_init_133 : decode cX7_init 133 = .ok (.goto (-22), 3) := by decide +kernel
theorem dX7_init_136 : decode cX7_init 136 = .ok (.return_, 1) := by decide +kernel
set_option maxRecDepth 20000 in
theorem ggX7_grove_X7_isFarmer : GoodIn wsX7_grove wsX7_isFarmer := goodIn_r _ [9, 10, 11, 8, 12] (by decide +kernel) (by decide +kernel)
set_option maxRecDepth 20000 in
theorem gX7_grove_X7_isFarmer : GoodIn wsX7_grove (va_wsS RX7 79 yX7_isFarmer wsX7_isFarmer) := goodIn_app (goodIn_of _ (by decide +kernel)) ggX7_grove_X7_isFarmer
set_option maxRecDepth 20000 in
theorem ggX7_grove_X7_isWithin : GoodIn wsX7_grove wsX7_isWithin := goodIn_r _ [12] (by decide +kernel) (by decide +kernel)
set_option maxRecDepth 20000 in
theorem gX7_grove_X7_isWithin : GoodIn wsX7_grove (va_wsS RX7 83 yX7_isWithin wsX7_isWithin) := goodIn_app (goodIn_of _ (by decide +kernel)) ggX7_grove_X7_isWithin
set_option maxRecDepth 20000 in
theorem ggX7_grove_X1_init : GoodIn wsX7_grove wsX1_init := goodIn_r _ [15, 16, 17, 18, 19, 20, 21, 36, 37, 38] (by decide +kernel) (by decide +kernel)
set_option maxRecDepth 20000 in
theorem gX7_grove_X1_init : GoodIn wsX7_grove (wsX1_init) := ggX7_grove_X1_init
theorem dX7_grove_0 : decode cX7_grove 0 = .ok (.iload_n 1, 1) := by decide +kernel
theorem dX7_grove_1 : decode cX7_grove 1 = .ok (.invokestatic 79, 3) := by decide +kernel
theorem dX7_grove_4 : decode cX7_grove 4 = .ok (.ifCond .eq 22, 3) := by decide +kernel
theorem dX7_grove_7 : decode cX7_grove 7 = .ok (.iload_n 2, 1) := by decide +kernel
theorem dX7_grove_8 : decode cX7_grove 8 = .ok (.iconst 0, 1) := by decide +kernel
theorem dX7_grove_9 : decode cX7_grove 9 = .ok (.bipush 9, 2) := by decide +kernel
theorem dX7_grove_11 : decode cX7_grove 11 = .ok (.invokestatic 83, 3) := by decide +kernel
theorem dX7_grove_14 : decode cX7_grove 14 = .ok (.ifCond .eq 12, 3) := by decide +kernel
theorem dX7_grove_17 : decode cX7_grove 17 = .ok (.aload_n 0, 1) := by decide +kernel
theorem dX7_grove_18 : decode cX7_grove 18 = .ok (.getfield 54, 3) := by decide +kernel
theorem dX7_grove_21 : decode cX7_grove 21 = .ok (.bipush 60, 2) := by decide +kernel
theorem dX7_grove_23 : decode cX7_grove 23 = .ok (.if_icmp .lt 5, 3) := by decide +kernel
theorem dX7_grove_26 : decode cX7_grove 26 = .ok (.iconst (-1), 1) := by decide +kernel
theorem dX7_grove_27 : decode cX7_grove 27 = .ok (.ireturn, 1) := by decide +kernel
theorem dX7_grove_28 : decode cX7_grove 28 = .ok (.aload_n 0, 1) := by decide +kernel
theorem dX7_grove_29 : decode cX7_grove 29 = .ok (.getfield 11, 3) := by decide +kernel
theorem dX7_grove_32 : decode cX7_grove 32 = .ok (.aload_n 0, 1) := by decide +kernel
theorem dX7_grove_33 : decode cX7_grove 33 = .ok (.getfield 54, 3) := by decide +kernel
theorem dX7_grove_36 : decode cX7_grove 36 = .ok (.new 9, 3) := by decide +kernel
theorem dX7_grove_39 : decode cX7_grove 39 = .ok (.dup, 1) := by decide +kernel
theorem dX7_grove_40 : decode cX7_grove 40 = .ok (.aload_n 0, 1) := by decide +kernel
theorem dX7_grove_41 : decode cX7_grove 41 = .ok (.getfield 54, 3) := by decide +kernel
theorem dX7_grove_44 : decode cX7_grove 44 = .ok (.iload_n 1, 1) := by decide +kernel
theorem dX7_grove_45 : decode cX7_grove 45 = .ok (.iload_n 2, 1) := by decide +kernel
theorem dX7_grove_46 : decode cX7_grove 46 = .ok (.invokespecial 87, 3) := by decide +kernel
theorem dX7_grove_49 : decode cX7_grove 49 = .ok (.aastore, 1) := by decide +kernel
theorem dX7_grove_50 : decode cX7_grove 50 = .ok (.aload_n 0, 1) := by decide +kernel
theorem dX7_grove_51 : decode cX7_grove 51 = .ok (.dup, 1) := by decide +kernel
theorem dX7_grove_52 : decode cX7_grove 52 = .ok (.getfield 54, 3) := by decide +kernel
theorem dX7_grove_55 : decode cX7_grove 55 = .ok (.iconst 1, 1) := by decide +kernel
theorem dX7_grove_56 : decode cX7_grove 56 = .ok (.iadd, 1) := by decide +kernel
theorem dX7_grove_57 : decode cX7_grove 57 = .ok (.putfield 54, 3) := by decide +kernel
theorem dX7_grove_60 : decode cX7_grove 60 = .ok (.aload_n 0, 1) := by decide +kernel
theorem dX7_grove_61 : decode cX7_grove 61 = .ok (.getfield 54, 3) := by decide +kernel
theorem dX7_grove_64 : decode cX7_grove 64 = .ok (.iconst 1, 1) := by decide +kernel
theorem dX7_grove_65 : decode cX7_grove 65 = .ok (.isub, 1) := by decide +kernel
theorem dX7_grove_66 : decode cX7_grove 66 = .ok (.ireturn, 1) := by decide +kernel
set_option maxRecDepth 20000 in
theorem ggX7_lot_X7_findGrove : GoodIn wsX7_lot wsX7_findGrove := goodIn_r _ [10, 11, 12, 13, 14, 9, 15, 39, 40, 41, 42, 43, 44, 45, 46, 47, 48, 49, 50, 51, 52] (by decide +kernel) (by decide +kernel)
set_option maxRecDepth 20000 in
theorem gX7_lot_X7_findGrove : GoodIn wsX7_lot (wsV RX7 90 RX7 yX7_findGrove wsX7_findGrove) := goodIn_app (goodIn_of _ (by decide +kernel)) ggX7_lot_X7_findGrove
set_option maxRecDepth 20000 in
theorem ggX7_lot_X7_isWithin : GoodIn wsX7_lot wsX7_isWithin := goodIn_r _ [15] (by decide +kernel) (by decide +kernel)
set_option maxRecDepth 20000 in
theorem gX7_lot_X7_isWithin : GoodIn wsX7_lot (va_wsS RX7 83 yX7_isWithin wsX7_isWithin) := goodIn_app (goodIn_of _ (by decide +kernel)) ggX7_lot_X7_isWithin
set_option maxRecDepth 20000 in
theorem ggX7_lot_X7_today : GoodIn wsX7_lot wsX7_today := goodIn_r _ [19, 20, 39, 40, 41, 42, 43, 44, 45, 46, 47, 48, 49, 50, 51, 52] (by decide +kernel) (by decide +kernel)
set_option maxRecDepth 20000 in
theorem gX7_lot_X7_today : GoodIn wsX7_lot (wsV RX7 94 RX7 yX7_today wsX7_today) := goodIn_app (goodIn_of _ (by decide +kernel)) ggX7_lot_X7_today
set_option maxRecDepth 20000 in
theorem ggX7_lot_X2_init : GoodIn wsX7_lot wsX2_init := goodIn_r _ [23, 24, 25, 26, 27, 28, 29, 30, 31, 32, 33, 34, 35, 36, 37, 38, 53, 54, 55, 56, 57, 58, 59, 60, 61, 62, 63, 64] (by decide +kernel) (by decide +kernel)
set_option maxRecDepth 20000 in
theorem gX7_lot_X2_init : GoodIn wsX7_lot (wsX2_init) := ggX7_lot_X2_init
theorem dX7_lot_0 : decode cX7_lot 0 = .ok (.aload_n 0, 1) := by decide +kernel
theorem dX7_lot_1 : decode cX7_lot 1 = .ok (.iload_n 2, 1) := by decide +kernel
theorem dX7_lot_2 : decode cX7_lot 2 = .ok (.invokevirtual 90, 3) := by decide +kernel
theorem dX7_lot_5 : decode cX7_lot 5 = .ok (.astore_n 3, 1) := by decide +kernel
theorem dX7_lot_6 : decode cX7_lot 6 = .ok (.iload_n 1, 1) := by decide +kernel
theorem dX7_lot_7 : decode cX7_lot 7 = .ok (.iconst 0, 1) := by decide +kernel
theorem dX7_lot_8 : decode cX7_lot 8 = .ok (.iconst 4, 1) := by decide +kernel
theorem dX7_lot_9 : decode cX7_lot 9 = .ok (.invokestatic 83, 3) := by decide +kernel
theorem dX7_lot_12 : decode cX7_lot 12 = .ok (.ifCond .eq 17, 3) := by decide +kernel
theorem dX7_lot_15 : decode cX7_lot 15 = .ok (.aload_n 3, 1) := by decide +kernel
theorem dX7_lot_16 : decode cX7_lot 16 = .ok (.ifnull 13, 3) := by decide +kernel
theorem dX7_lot_19 : decode cX7_lot 19 = .ok (.aload_n 0, 1) := by decide +kernel
theorem dX7_lot_20 : decode cX7_lot 20 = .ok (.getfield 58, 3) := by decide +kernel
theorem dX7_lot_23 : decode cX7_lot 23 = .ok (.sipush 200, 3) := by decide +kernel
theorem dX7_lot_26 : decode cX7_lot 26 = .ok (.if_icmp .lt 5, 3) := by decide +kernel
theorem dX7_lot_29 : decode cX7_lot 29 = .ok (.iconst (-1), 1) := by decide +kernel
theorem dX7_lot_30 : decode cX7_lot 30 = .ok (.ireturn, 1) := by decide +kernel
theorem dX7_lot_31 : decode cX7_lot 31 = .ok (.aload_n 0, 1) := by decide +kernel
theorem dX7_lot_32 : decode cX7_lot 32 = .ok (.getfield 17, 3) := by decide +kernel
theorem dX7_lot_35 : decode cX7_lot 35 = .ok (.aload_n 0, 1) := by decide +kernel
theorem dX7_lot_36 : decode cX7_lot 36 = .ok (.getfield 58, 3) := by decide +kernel
theorem dX7_lot_39 : decode cX7_lot 39 = .ok (.new 15, 3) := by decide +kernel
theorem dX7_lot_42 : decode cX7_lot 42 = .ok (.dup, 1) := by decide +kernel
theorem dX7_lot_43 : decode cX7_lot 43 = .ok (.aload_n 0, 1) := by decide +kernel
theorem dX7_lot_44 : decode cX7_lot 44 = .ok (.getfield 58, 3) := by decide +kernel
theorem dX7_lot_47 : decode cX7_lot 47 = .ok (.iload_n 1, 1) := by decide +kernel
theorem dX7_lot_48 : decode cX7_lot 48 = .ok (.aload_n 3, 1) := by decide +kernel
theorem dX7_lot_49 : decode cX7_lot 49 = .ok (.aload_n 0, 1) := by decide +kernel
theorem dX7_lot_50 : decode cX7_lot 50 = .ok (.invokevirtual 94, 3) := by decide +kernel
theorem dX7_lot_53 : decode cX7_lot 53 = .ok (.invokespecial 98, 3) := by decide +kernel
theorem dX7_lot_56 : decode cX7_lot 56 = .ok (.aastore, 1) := by decide +kernel
theorem dX7_lot_57 : decode cX7_lot 57 = .ok (.aload_n 0, 1) := by decide +kernel
theorem dX7_lot_58 : decode cX7_lot 58 = .ok (.dup, 1) := by decide +kernel
theorem dX7_lot_59 : decode cX7_lot 59 = .ok (.getfield 58, 3) := by decide +kernel
theorem dX7_lot_62 : decode cX7_lot 62 = .ok (.iconst 1, 1) := by decide +kernel
theorem dX7_lot_63 : decode cX7_lot 63 = .ok (.iadd, 1) := by decide +kernel
theorem dX7_lot_64 : decode cX7_lot 64 = .ok (.putfield 58, 3) := by decide +kernel
theorem dX7_lot_67 : decode cX7_lot 67 = .ok (.aload_n 0, 1) := by decide +kernel
theorem dX7_lot_68 : decode cX7_lot 68 = .ok (.getfield 58, 3) := by decide +kernel
theorem dX7_lot_71 : decode cX7_lot 71 = .ok (.iconst 1, 1) := by decide +kernel
theorem dX7_lot_72 : decode cX7_lot 72 = .ok (.isub, 1) := by decide +kernel
theorem dX7_lot_73 : decode cX7_lot 73 = .ok (.ireturn, 1) := by decide +kernel
set_option maxRecDepth 20000 in
theorem ggX7_wish_X7_findLot : GoodIn wsX7_wish wsX7_findLot := goodIn_r _ [7, 8, 9, 10, 11, 6, 12, 31, 32, 33, 34, 35, 36, 37, 38, 39, 40, 41, 42, 43, 44] (by decide +kernel) (by decide +kernel)
set_option maxRecDepth 20000 in
theorem gX7_wish_X7_findLot : GoodIn wsX7_wish (wsV RX7 101 RX7 yX7_findLot wsX7_findLot) := goodIn_app (goodIn_of _ (by decide +kernel)) ggX7_wish_X7_findLot
set_option maxRecDepth 20000 in
theorem ggX7_wish_X2_isWaiting : GoodIn wsX7_wish wsX2_isWaiting := goodIn_r _ [17, 18, 19, 20, 21, 22, 23, 24, 25, 26, 27, 28, 29, 30] (by decide +kernel) (by decide +kernel)
set_option maxRecDepth 20000 in
theorem gX7_wish_X2_isWaiting : GoodIn wsX7_wish (wsV RX7 108 RX2 yX2_isWaiting wsX2_isWaiting) := goodIn_app (goodIn_of _ (by decide +kernel)) ggX7_wish_X2_isWaiting
theorem dX7_wish_0 : decode cX7_wish 0 = .ok (.aload_n 0, 1) := by decide +kernel
theorem dX7_wish_1 : decode cX7_wish 1 = .ok (.iload_n 1, 1) := by decide +kernel
theorem dX7_wish_2 : decode cX7_wish 2 = .ok (.invokevirtual 101, 3) := by decide +kernel
theorem dX7_wish_5 : decode cX7_wish 5 = .ok (.astore_n 3, 1) := by decide +kernel
theorem dX7_wish_6 : decode cX7_wish 6 = .ok (.aload_n 3, 1) := by decide +kernel
theorem dX7_wish_7 : decode cX7_wish 7 = .ok (.ifnull 18, 3) := by decide +kernel
theorem dX7_wish_10 : decode cX7_wish 10 = .ok (.aload_n 3, 1) := by decide +kernel
theorem dX7_wish_11 : decode cX7_wish 11 = .ok (.getfield 105, 3) := by decide +kernel
theorem dX7_wish_14 : decode cX7_wish 14 = .ok (.iconst 4, 1) := by decide +kernel
theorem dX7_wish_15 : decode cX7_wish 15 = .ok (.if_icmp .eq 10, 3) := by decide +kernel
theorem dX7_wish_18 : decode cX7_wish 18 = .ok (.aload_n 3, 1) := by decide +kernel
theorem dX7_wish_19 : decode cX7_wish 19 = .ok (.invokevirtual 108, 3) := by decide +kernel
theorem dX7_wish_22 : decode cX7_wish 22 = .ok (.ifCond .ne 5, 3) := by decide +kernel
theorem dX7_wish_25 : decode cX7_wish 25 = .ok (.iconst 0, 1) := by decide +kernel
theorem dX7_wish_26 : decode cX7_wish 26 = .ok (.ireturn, 1) := by decide +kernel
theorem dX7_wish_27 : decode cX7_wish 27 = .ok (.aload_n 3, 1) := by decide +kernel
theorem dX7_wish_28 : decode cX7_wish 28 = .ok (.iload_n 2, 1) := by decide +kernel
theorem dX7_wish_29 : decode cX7_wish 29 = .ok (.putfield 112, 3) := by decide +kernel
theorem dX7_wish_32 : decode cX7_wish 32 = .ok (.iconst 1, 1) := by decide +kernel
theorem dX7_wish_33 : decode cX7_wish 33 = .ok (.ireturn, 1) := by decide +kernel
set_option maxRecDepth 20000 in
theorem ggX7_scale_X7_isWithin : GoodIn wsX7_scale wsX7_isWithin := goodIn_r _ [5] (by decide +kernel) (by decide +kernel)
set_option maxRecDepth 20000 in
theorem gX7_scale_X7_isWithin : GoodIn wsX7_scale (va_wsS RX7 83 yX7_isWithin wsX7_isWithin) := goodIn_app (goodIn_of _ (by decide +kernel)) ggX7_scale_X7_isWithin
theorem dX7_scale_0 : decode cX7_scale 0 = .ok (.iload_n 1, 1) := by decide +kernel
theorem dX7_scale_1 : decode cX7_scale 1 = .ok (.iconst 0, 1) := by decide +kernel
theorem dX7_scale_2 : decode cX7_scale 2 = .ok (.bipush 30, 2) := by decide +kernel
theorem dX7_scale_4 : decode cX7_scale 4 = .ok (.invokestatic 83, 3) := by decide +kernel
theorem dX7_scale_7 : decode cX7_scale 7 = .ok (.ifCond .ne 5, 3) := by decide +kernel
theorem dX7_scale_10 : decode cX7_scale 10 = .ok (.iconst 0, 1) := by decide +kernel
theorem dX7_scale_11 : decode cX7_scale 11 = .ok (.ireturn, 1) := by decide +kernel
theorem dX7_scale_12 : decode cX7_scale 12 = .ok (.aload_n 0, 1) := by decide +kernel
theorem dX7_scale_13 : decode cX7_scale 13 = .ok (.iload_n 1, 1) := by decide +kernel
theorem dX7_scale_14 : decode cX7_scale 14 = .ok (.putfield 73, 3) := by decide +kernel
theorem dX7_scale_17 : decode cX7_scale 17 = .ok (.iconst 1, 1) := by decide +kernel
theorem dX7_scale_18 : decode cX7_scale 18 = .ok (.ireturn, 1) := by decide +kernel
set_option maxRecDepth 20000 in
theorem ggX7_weigh_X7_findLot : GoodIn wsX7_weigh wsX7_findLot := goodIn_r _ [9, 10, 11, 12, 13, 8, 14, 27, 28, 29, 30, 31, 32, 33, 34, 35, 36, 37, 38, 39, 40] (by decide +kernel) (by decide +kernel)
set_option maxRecDepth 20000 in
theorem gX7_weigh_X7_findLot : GoodIn wsX7_weigh (wsV RX7 101 RX7 yX7_findLot wsX7_findLot) := goodIn_app (goodIn_of _ (by decide +kernel)) ggX7_weigh_X7_findLot
set_option maxRecDepth 20000 in
theorem ggX7_weigh_X7_isWithin : GoodIn wsX7_weigh wsX7_isWithin := goodIn_r _ [14] (by decide +kernel) (by decide +kernel)
set_option maxRecDepth 20000 in
theorem gX7_weigh_X7_isWithin : GoodIn wsX7_weigh (va_wsS RX7 83 yX7_isWithin wsX7_isWithin) := goodIn_app (goodIn_of _ (by decide +kernel)) ggX7_weigh_X7_isWithin
theorem dX7_weigh_0 : decode cX7_weigh 0 = .ok (.aload_n 0, 1) := by decide +kernel
theorem dX7_weigh_1 : decode cX7_weigh 1 = .ok (.iload_n 1, 1) := by decide +kernel
theorem dX7_weigh_2 : decode cX7_weigh 2 = .ok (.invokevirtual 101, 3) := by decide +kernel
theorem dX7_weigh_5 : decode cX7_weigh 5 = .ok (.astore_n 3, 1) := by decide +kernel
theorem dX7_weigh_6 : decode cX7_weigh 6 = .ok (.aload_n 3, 1) := by decide +kernel
theorem dX7_weigh_7 : decode cX7_weigh 7 = .ok (.ifnull 10, 3) := by decide +kernel
theorem dX7_weigh_10 : decode cX7_weigh 10 = .ok (.aload_n 3, 1) := by decide +kernel
theorem dX7_weigh_11 : decode cX7_weigh 11 = .ok (.getfield 116, 3) := by decide +kernel
theorem dX7_weigh_14 : decode cX7_weigh 14 = .ok (.ifCond .eq 5, 3) := by decide +kernel
theorem dX7_weigh_17 : decode cX7_weigh 17 = .ok (.iconst (-1), 1) := by decide +kernel
theorem dX7_weigh_18 : decode cX7_weigh 18 = .ok (.ireturn, 1) := by decide +kernel
theorem dX7_weigh_19 : decode cX7_weigh 19 = .ok (.iload_n 2, 1) := by decide +kernel
theorem dX7_weigh_20 : decode cX7_weigh 20 = .ok (.iconst (-1), 1) := by decide +kernel
theorem dX7_weigh_21 : decode cX7_weigh 21 = .ok (.if_icmp .eq 15, 3) := by decide +kernel
theorem dX7_weigh_24 : decode cX7_weigh 24 = .ok (.iload_n 2, 1) := by decide +kernel
theorem dX7_weigh_25 : decode cX7_weigh 25 = .ok (.iconst 1, 1) := by decide +kernel
theorem dX7_weigh_26 : decode cX7_weigh 26 = .ok (.ldc 119, 2) := by decide +kernel
theorem dX7_weigh_28 : decode cX7_weigh 28 = .ok (.invokestatic 83, 3) := by decide +kernel
theorem dX7_weigh_31 : decode cX7_weigh 31 = .ok (.ifCond .ne 5, 3) := by decide +kernel
theorem dX7_weigh_34 : decode cX7_weigh 34 = .ok (.iconst (-1), 1) := by decide +kernel
theorem dX7_weigh_35 : decode cX7_weigh 35 = .ok (.ireturn, 1) := by decide +kernel
theorem dX7_weigh_36 : decode cX7_weigh 36 = .ok (.aload_n 0, 1) := by decide +kernel
theorem dX7_weigh_37 : decode cX7_weigh 37 = .ok (.getfield 73, 3) := by decide +kernel
theorem dX7_weigh_40 : decode cX7_weigh 40 = .ok (.iconst 1, 1) := by decide +kernel
theorem dX7_weigh_41 : decode cX7_weigh 41 = .ok (.if_icmp .ge 6, 3) := by decide +kernel
theorem dX7_weigh_44 : decode cX7_weigh 44 = .ok (.bipush (-2), 2) := by decide +kernel
theorem dX7_weigh_46 : decode cX7_weigh 46 = .ok (.ireturn, 1) := by decide +kernel
theorem dX7_weigh_47 : decode cX7_weigh 47 = .ok (.aload_n 0, 1) := by decide +kernel
theorem dX7_weigh_48 : decode cX7_weigh 48 = .ok (.dup, 1) := by decide +kernel
theorem dX7_weigh_49 : decode cX7_weigh 49 = .ok (.getfield 73, 3) := by decide +kernel
theorem dX7_weigh_52 : decode cX7_weigh 52 = .ok (.iconst 1, 1) := by decide +kernel
theorem dX7_weigh_53 : decode cX7_weigh 53 = .ok (.isub, 1) := by decide +kernel
theorem dX7_weigh_54 : decode cX7_weigh 54 = .ok (.putfield 73, 3) := by decide +kernel
theorem dX7_weigh_57 : decode cX7_weigh 57 = .ok (.iload_n 2, 1) := by decide +kernel
theorem dX7_weigh_58 : decode cX7_weigh 58 = .ok (.iconst (-1), 1) := by decide +kernel
theorem dX7_weigh_59 : decode cX7_weigh 59 = .ok (.if_icmp .ne 7, 3) := by decide +kernel
theorem dX7_weigh_62 : decode cX7_weigh 62 = .ok (.iconst 0, 1) := by decide +kernel
theorem dX7_weigh_63 : decode cX7_weigh 63 = .ok (.goto 10, 3) := by decide +kernel
theorem dX7_weigh_66 : decode cX7_weigh 66 = .ok (.iload_n 2, 1) := by decide +kernel
theorem dX7_weigh_67 : decode cX7_weigh 67 = .ok (.bipush 10, 2) := by decide +kernel
theorem dX7_weigh_69 : decode cX7_weigh 69 = .ok (.imul, 1) := by decide +kernel
theorem dX7_weigh_70 : decode cX7_weigh 70 = .ok (.bipush 8, 2) := by decide +kernel
theorem dX7_weigh_72 : decode cX7_weigh 72 = .ok (.idiv, 1) := by decide +kernel
theorem dX7_weigh_73 : decode cX7_weigh 73 = .ok (.istore 4, 2) := by decide +kernel
theorem dX7_weigh_75 : decode cX7_weigh 75 = .ok (.iload 4, 2) := by decide +kernel
theorem dX7_weigh_77 : decode cX7_weigh 77 = .ok (.iconst 1, 1) := by decide +kernel
theorem dX7_weigh_78 : decode cX7_weigh 78 = .ok (.if_icmp .ge 6, 3) := by decide +kernel
theorem dX7_weigh_81 : decode cX7_weigh 81 = .ok (.bipush (-3), 2) := by decide +kernel
theorem dX7_weigh_83 : decode cX7_weigh 83 = .ok (.ireturn, 1) := by decide +kernel
theorem dX7_weigh_84 : decode cX7_weigh 84 = .ok (.aload_n 3, 1) := by decide +kernel
theorem dX7_weigh_85 : decode cX7_weigh 85 = .ok (.iload 4, 2) := by decide +kernel
theorem dX7_weigh_87 : decode cX7_weigh 87 = .ok (.putfield 120, 3) := by decide +kernel
theorem dX7_weigh_90 : decode cX7_weigh 90 = .ok (.aload_n 3, 1) := by decide +kernel
theorem dX7_weigh_91 : decode cX7_weigh 91 = .ok (.iconst 1, 1) := by decide +kernel
theorem dX7_weigh_92 : decode cX7_weigh 92 = .ok (.putfield 116, 3) := by decide +kernel
theorem dX7_weigh_95 : decode cX7_weigh 95 = .ok (.iload 4, 2) := by decide +kernel
theorem dX7_weigh_97 : decode cX7_weigh 97 = .ok (.ireturn, 1) := by decide +kernel
set_option maxRecDepth 20000 in
theorem ggX7_sample_X7_findLot : GoodIn wsX7_sample wsX7_findLot := goodIn_r _ [8, 9, 10, 11, 12, 7, 13, 26, 27, 28, 29, 30, 31, 32, 33, 34, 35, 36, 37, 38, 39] (by decide +kernel) (by decide +kernel)
set_option maxRecDepth 20000 in
theorem gX7_sample_X7_findLot : GoodIn wsX7_sample (wsV RX7 101 RX7 yX7_findLot wsX7_findLot) := goodIn_app (goodIn_of _ (by decide +kernel)) ggX7_sample_X7_findLot
set_option maxRecDepth 20000 in
theorem ggX7_sample_X7_isWithin : GoodIn wsX7_sample wsX7_isWithin := goodIn_r _ [13] (by decide +kernel) (by decide +kernel)
set_option maxRecDepth 20000 in
theorem gX7_sample_X7_isWithin : GoodIn wsX7_sample (va_wsS RX7 83 yX7_isWithin wsX7_isWithin) := goodIn_app (goodIn_of _ (by decide +kernel)) ggX7_sample_X7_isWithin
theorem dX7_sample_0 : decode cX7_sample 0 = .ok (.aload_n 0, 1) := by decide +kernel
theorem dX7_sample_1 : decode cX7_sample 1 = .ok (.iload_n 1, 1) := by decide +kernel
theorem dX7_sample_2 : decode cX7_sample 2 = .ok (.invokevirtual 101, 3) := by decide +kernel
theorem dX7_sample_5 : decode cX7_sample 5 = .ok (.astore 4, 2) := by decide +kernel
theorem dX7_sample_7 : decode cX7_sample 7 = .ok (.aload 4, 2) := by decide +kernel
theorem dX7_sample_9 : decode cX7_sample 9 = .ok (.ifnull 12, 3) := by decide +kernel
theorem dX7_sample_12 : decode cX7_sample 12 = .ok (.aload 4, 2) := by decide +kernel
theorem dX7_sample_14 : decode cX7_sample 14 = .ok (.getfield 116, 3) := by decide +kernel
theorem dX7_sample_17 : decode cX7_sample 17 = .ok (.iconst 1, 1) := by decide +kernel
theorem dX7_sample_18 : decode cX7_sample 18 = .ok (.if_icmp .eq 5, 3) := by decide +kernel
theorem dX7_sample_21 : decode cX7_sample 21 = .ok (.iconst 0, 1) := by decide +kernel
theorem dX7_sample_22 : decode cX7_sample 22 = .ok (.ireturn, 1) := by decide +kernel
theorem dX7_sample_23 : decode cX7_sample 23 = .ok (.iload_n 2, 1) := by decide +kernel
theorem dX7_sample_24 : decode cX7_sample 24 = .ok (.iconst 1, 1) := by decide +kernel
theorem dX7_sample_25 : decode cX7_sample 25 = .ok (.sipush 400, 3) := by decide +kernel
theorem dX7_sample_28 : decode cX7_sample 28 = .ok (.invokestatic 83, 3) := by decide +kernel
theorem dX7_sample_31 : decode cX7_sample 31 = .ok (.ifCond .eq 14, 3) := by decide +kernel
theorem dX7_sample_34 : decode cX7_sample 34 = .ok (.iload_n 3, 1) := by decide +kernel
theorem dX7_sample_35 : decode cX7_sample 35 = .ok (.iconst 0, 1) := by decide +kernel
theorem dX7_sample_36 : decode cX7_sample 36 = .ok (.sipush 999, 3) := by decide +kernel
theorem dX7_sample_39 : decode cX7_sample 39 = .ok (.invokestatic 83, 3) := by decide +kernel
theorem dX7_sample_42 : decode cX7_sample 42 = .ok (.ifCond .ne 5, 3) := by decide +kernel
theorem dX7_sample_45 : decode cX7_sample 45 = .ok (.iconst 0, 1) := by decide +kernel
theorem dX7_sample_46 : decode cX7_sample 46 = .ok (.ireturn, 1) := by decide +kernel
theorem dX7_sample_47 : decode cX7_sample 47 = .ok (.aload 4, 2) := by decide +kernel
theorem dX7_sample_49 : decode cX7_sample 49 = .ok (.iload_n 2, 1) := by decide +kernel
theorem dX7_sample_50 : decode cX7_sample 50 = .ok (.putfield 123, 3) := by decide +kernel
theorem dX7_sample_53 : decode cX7_sample 53 = .ok (.aload 4, 2) := by decide +kernel
theorem dX7_sample_55 : decode cX7_sample 55 = .ok (.iload_n 3, 1) := by decide +kernel
theorem dX7_sample_56 : decode cX7_sample 56 = .ok (.putfield 126, 3) := by decide +kernel
theorem dX7_sample_59 : decode cX7_sample 59 = .ok (.aload 4, 2) := by decide +kernel
theorem dX7_sample_61 : decode cX7_sample 61 = .ok (.iconst 2, 1) := by decide +kernel
theorem dX7_sample_62 : decode cX7_sample 62 = .ok (.putfield 116, 3) := by decide +kernel
theorem dX7_sample_65 : decode cX7_sample 65 = .ok (.iconst 1, 1) := by decide +kernel
theorem dX7_sample_66 : decode cX7_sample 66 = .ok (.ireturn, 1) := by decide +kernel
set_option maxRecDepth 20000 in
theorem ggX7_told_X7_findLot : GoodIn wsX7_told wsX7_findLot := goodIn_r _ [16, 17, 18, 19, 20, 15, 21, 47, 48, 49, 50, 51, 52, 53, 54, 55, 56, 57, 58, 59, 60] (by decide +kernel) (by decide +kernel)
set_option maxRecDepth 20000 in
theorem gX7_told_X7_findLot : GoodIn wsX7_told (wsV RX7 101 RX7 yX7_findLot wsX7_findLot) := goodIn_app (goodIn_of _ (by decide +kernel)) ggX7_told_X7_findLot
set_option maxRecDepth 20000 in
theorem ggX7_told_X2_isPressedWithOthers : GoodIn wsX7_told wsX2_isPressedWithOthers := goodIn_r _ [26, 27, 28, 32, 33, 34, 35, 36, 37, 38, 39, 40, 41, 42, 43] (by decide +kernel) (by decide +kernel)
set_option maxRecDepth 20000 in
theorem gX7_told_X2_isPressedWithOthers : GoodIn wsX7_told (wsV RX7 148 RX2 yX2_isPressedWithOthers wsX2_isPressedWithOthers) := goodIn_app (goodIn_of _ (by decide +kernel)) ggX7_told_X2_isPressedWithOthers
set_option maxRecDepth 20000 in
theorem ggX7_told_X7_asNumber : GoodIn wsX7_told wsX7_asNumber := goodIn_r _ [31] (by decide +kernel) (by decide +kernel)
set_option maxRecDepth 20000 in
theorem gX7_told_X7_asNumber : GoodIn wsX7_told (va_wsS RX7 151 yX7_asNumber wsX7_asNumber) := goodIn_app (goodIn_of _ (by decide +kernel)) ggX7_told_X7_asNumber
theorem dX7_told_0 : decode cX7_told 0 = .ok (.aload_n 0, 1) := by decide +kernel
theorem dX7_told_1 : decode cX7_told 1 = .ok (.iload_n 1, 1) := by decide +kernel
theorem dX7_told_2 : decode cX7_told 2 = .ok (.invokevirtual 101, 3) := by decide +kernel
theorem dX7_told_5 : decode cX7_told 5 = .ok (.astore_n 3, 1) := by decide +kernel
theorem dX7_told_6 : decode cX7_told 6 = .ok (.aload_n 3, 1) := by decide +kernel
theorem dX7_told_7 : decode cX7_told 7 = .ok (.ifnonnull 5, 3) := by decide +kernel
theorem dX7_told_10 : decode cX7_told 10 = .ok (.iconst (-1), 1) := by decide +kernel
theorem dX7_told_11 : decode cX7_told 11 = .ok (.ireturn, 1) := by decide +kernel
theorem dX7_told_12 : decode cX7_told 12 = .ok (.iload_n 2, 1) := by decide +kernel
theorem dX7_told_13 : decode cX7_told 13 = .ok (.tableswitch 120 0 10 #[59, 64, 72, 77, 82, 87, 92, 97, 102, 107, 112], 59) := by decide +kernel
theorem dX7_told_72 : decode cX7_told 72 = .ok (.aload_n 3, 1) := by decide +kernel
theorem dX7_told_73 : decode cX7_told 73 = .ok (.getfield 105, 3) := by decide +kernel
theorem dX7_told_76 : decode cX7_told 76 = .ok (.ireturn, 1) := by decide +kernel
theorem dX7_told_77 : decode cX7_told 77 = .ok (.aload_n 3, 1) := by decide +kernel
theorem dX7_told_78 : decode cX7_told 78 = .ok (.getfield 129, 3) := by decide +kernel
