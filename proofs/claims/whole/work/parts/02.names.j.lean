theorem dX8_draw_0 : decode cX8_draw 0 = .ok (.aload_n 0, 1) := by decide +kernel
theorem dX8_draw_1 : decode cX8_draw 1 = .ok (.iload_n 1, 1) := by decide +kernel
theorem dX8_draw_2 : decode cX8_draw 2 = .ok (.invokevirtual 199, 3) := by decide +kernel
theorem dX8_draw_5 : decode cX8_draw 5 = .ok (.ifCond .eq 18, 3) := by decide +kernel
theorem dX8_draw_8 : decode cX8_draw 8 = .ok (.iload_n 2, 1) := by decide +kernel
theorem dX8_draw_9 : decode cX8_draw 9 = .ok (.iconst 1, 1) := by decide +kernel
theorem dX8_draw_10 : decode cX8_draw 10 = .ok (.if_icmp .lt 13, 3) := by decide +kernel
theorem dX8_draw_13 : decode cX8_draw 13 = .ok (.iload_n 2, 1) := by decide +kernel
theorem dX8_draw_14 : decode cX8_draw 14 = .ok (.aload_n 0, 1) := by decide +kernel
theorem dX8_draw_15 : decode cX8_draw 15 = .ok (.getfield 102, 3) := by decide +kernel
theorem dX8_draw_18 : decode cX8_draw 18 = .ok (.iload_n 1, 1) := by decide +kernel
theorem dX8_draw_19 : decode cX8_draw 19 = .ok (.iaload, 1) := by decide +kernel
theorem dX8_draw_20 : decode cX8_draw 20 = .ok (.if_icmp .le 5, 3) := by decide +kernel
theorem dX8_draw_23 : decode cX8_draw 23 = .ok (.iconst (-1), 1) := by decide +kernel
theorem dX8_draw_24 : decode cX8_draw 24 = .ok (.ireturn, 1) := by decide +kernel
theorem dX8_draw_25 : decode cX8_draw 25 = .ok (.aload_n 0, 1) := by decide +kernel
theorem dX8_draw_26 : decode cX8_draw 26 = .ok (.getfield 102, 3) := by decide +kernel
theorem dX8_draw_29 : decode cX8_draw 29 = .ok (.iload_n 1, 1) := by decide +kernel
theorem dX8_draw_30 : decode cX8_draw 30 = .ok (.dup2, 1) := by decide +kernel
theorem dX8_draw_31 : decode cX8_draw 31 = .ok (.iaload, 1) := by decide +kernel
theorem dX8_draw_32 : decode cX8_draw 32 = .ok (.iload_n 2, 1) := by decide +kernel
theorem dX8_draw_33 : decode cX8_draw 33 = .ok (.isub, 1) := by decide +kernel
theorem dX8_draw_34 : decode cX8_draw 34 = .ok (.iastore, 1) := by decide +kernel
theorem dX8_draw_35 : decode cX8_draw 35 = .ok (.aload_n 0, 1) := by decide +kernel
theorem dX8_draw_36 : decode cX8_draw 36 = .ok (.dup, 1) := by decide +kernel
theorem dX8_draw_37 : decode cX8_draw 37 = .ok (.getfield 212, 3) := by decide +kernel
theorem dX8_draw_40 : decode cX8_draw 40 = .ok (.iload_n 2, 1) := by decide +kernel
theorem dX8_draw_41 : decode cX8_draw 41 = .ok (.iadd, 1) := by decide +kernel
theorem dX8_draw_42 : decode cX8_draw 42 = .ok (.putfield 212, 3) := by decide +kernel
theorem dX8_draw_45 : decode cX8_draw 45 = .ok (.aload_n 0, 1) := by decide +kernel
theorem dX8_draw_46 : decode cX8_draw 46 = .ok (.iload_n 1, 1) := by decide +kernel
theorem dX8_draw_47 : decode cX8_draw 47 = .ok (.iload_n 2, 1) := by decide +kernel
theorem dX8_draw_48 : decode cX8_draw 48 = .ok (.invokevirtual 208, 3) := by decide +kernel
theorem dX8_draw_51 : decode cX8_draw 51 = .ok (.aload_n 0, 1) := by decide +kernel
theorem dX8_draw_52 : decode cX8_draw 52 = .ok (.getfield 102, 3) := by decide +kernel
theorem dX8_draw_55 : decode cX8_draw 55 = .ok (.iload_n 1, 1) := by decide +kernel
theorem dX8_draw_56 : decode cX8_draw 56 = .ok (.iaload, 1) := by decide +kernel
theorem dX8_draw_57 : decode cX8_draw 57 = .ok (.ireturn, 1) := by decide +kernel
set_option maxRecDepth 20000 in
theorem ggX8_lend_X8_in : GoodIn wsX8_lend wsX8_in := goodIn_r _ [8] (by decide +kernel) (by decide +kernel)
set_option maxRecDepth 20000 in
theorem gX8_lend_X8_in : GoodIn wsX8_lend (va_wsS RX8 133 yX8_in wsX8_in) := goodIn_app (goodIn_of _ (by decide +kernel)) ggX8_lend_X8_in
set_option maxRecDepth 20000 in
theorem ggX8_lend_X8_isVat : GoodIn wsX8_lend wsX8_isVat := goodIn_r _ [12, 13, 5, 6, 7, 8, 22, 23, 24, 25, 26, 27, 28, 29, 30, 31, 32, 33, 34, 35, 36, 37, 38, 39, 40, 41, 42, 43, 44, 45, 46, 47, 48, 49, 50, 51, 52, 53, 54, 55, 56, 57, 58, 59, 60, 61, 62, 63, 64, 65, 66, 67, 68, 69, 70, 71, 72, 73, 74, 75] (by decide +kernel) (by decide +kernel)
set_option maxRecDepth 20000 in
theorem gX8_lend_X8_isVat : GoodIn wsX8_lend (wsV RX8 199 RX8 yX8_isVat wsX8_isVat) := goodIn_app (goodIn_of _ (by decide +kernel)) ggX8_lend_X8_isVat
set_option maxRecDepth 20000 in
theorem ggX8_lend_X8_leaves : GoodIn wsX8_lend wsX8_leaves := goodIn_r _ [17, 18, 19, 20, 21, 22, 23, 24, 25, 26, 27, 28, 29, 30, 31, 32, 33, 34, 35, 36, 37, 38, 39, 40, 41, 42, 43, 44, 45, 46, 47, 48, 49, 50, 51, 52, 53, 54, 55, 56, 57, 58, 59, 60, 61, 62, 63, 64, 65, 66, 67, 68, 69, 70, 71, 72, 73, 74, 75] (by decide +kernel) (by decide +kernel)
set_option maxRecDepth 20000 in
theorem gX8_lend_X8_leaves : GoodIn wsX8_lend (wsV RX8 208 RX8 yX8_leaves wsX8_leaves) := goodIn_app (goodIn_of _ (by decide +kernel)) ggX8_lend_X8_leaves
theorem dX8_lend_0 : decode cX8_lend 0 = .ok (.iload_n 1, 1) := by decide +kernel
theorem dX8_lend_1 : decode cX8_lend 1 = .ok (.iconst 0, 1) := by decide +kernel
theorem dX8_lend_2 : decode cX8_lend 2 = .ok (.bipush 39, 2) := by decide +kernel
theorem dX8_lend_4 : decode cX8_lend 4 = .ok (.invokestatic 133, 3) := by decide +kernel
theorem dX8_lend_7 : decode cX8_lend 7 = .ok (.ifCond .eq 26, 3) := by decide +kernel
theorem dX8_lend_10 : decode cX8_lend 10 = .ok (.aload_n 0, 1) := by decide +kernel
theorem dX8_lend_11 : decode cX8_lend 11 = .ok (.iload_n 2, 1) := by decide +kernel
theorem dX8_lend_12 : decode cX8_lend 12 = .ok (.invokevirtual 199, 3) := by decide +kernel
theorem dX8_lend_15 : decode cX8_lend 15 = .ok (.ifCond .eq 18, 3) := by decide +kernel
theorem dX8_lend_18 : decode cX8_lend 18 = .ok (.iload_n 3, 1) := by decide +kernel
theorem dX8_lend_19 : decode cX8_lend 19 = .ok (.iconst 1, 1) := by decide +kernel
theorem dX8_lend_20 : decode cX8_lend 20 = .ok (.if_icmp .lt 13, 3) := by decide +kernel
theorem dX8_lend_23 : decode cX8_lend 23 = .ok (.iload_n 3, 1) := by decide +kernel
theorem dX8_lend_24 : decode cX8_lend 24 = .ok (.aload_n 0, 1) := by decide +kernel
theorem dX8_lend_25 : decode cX8_lend 25 = .ok (.getfield 102, 3) := by decide +kernel
theorem dX8_lend_28 : decode cX8_lend 28 = .ok (.iload_n 2, 1) := by decide +kernel
theorem dX8_lend_29 : decode cX8_lend 29 = .ok (.iaload, 1) := by decide +kernel
theorem dX8_lend_30 : decode cX8_lend 30 = .ok (.if_icmp .le 5, 3) := by decide +kernel
theorem dX8_lend_33 : decode cX8_lend 33 = .ok (.iconst (-1), 1) := by decide +kernel
theorem dX8_lend_34 : decode cX8_lend 34 = .ok (.ireturn, 1) := by decide +kernel
theorem dX8_lend_35 : decode cX8_lend 35 = .ok (.aload_n 0, 1) := by decide +kernel
theorem dX8_lend_36 : decode cX8_lend 36 = .ok (.getfield 102, 3) := by decide +kernel
theorem dX8_lend_39 : decode cX8_lend 39 = .ok (.iload_n 2, 1) := by decide +kernel
theorem dX8_lend_40 : decode cX8_lend 40 = .ok (.dup2, 1) := by decide +kernel
theorem dX8_lend_41 : decode cX8_lend 41 = .ok (.iaload, 1) := by decide +kernel
theorem dX8_lend_42 : decode cX8_lend 42 = .ok (.iload_n 3, 1) := by decide +kernel
theorem dX8_lend_43 : decode cX8_lend 43 = .ok (.isub, 1) := by decide +kernel
theorem dX8_lend_44 : decode cX8_lend 44 = .ok (.iastore, 1) := by decide +kernel
theorem dX8_lend_45 : decode cX8_lend 45 = .ok (.aload_n 0, 1) := by decide +kernel
theorem dX8_lend_46 : decode cX8_lend 46 = .ok (.dup, 1) := by decide +kernel
theorem dX8_lend_47 : decode cX8_lend 47 = .ok (.getfield 215, 3) := by decide +kernel
theorem dX8_lend_50 : decode cX8_lend 50 = .ok (.iload_n 3, 1) := by decide +kernel
theorem dX8_lend_51 : decode cX8_lend 51 = .ok (.iadd, 1) := by decide +kernel
theorem dX8_lend_52 : decode cX8_lend 52 = .ok (.putfield 215, 3) := by decide +kernel
theorem dX8_lend_55 : decode cX8_lend 55 = .ok (.aload_n 0, 1) := by decide +kernel
theorem dX8_lend_56 : decode cX8_lend 56 = .ok (.iload_n 2, 1) := by decide +kernel
theorem dX8_lend_57 : decode cX8_lend 57 = .ok (.iload_n 3, 1) := by decide +kernel
theorem dX8_lend_58 : decode cX8_lend 58 = .ok (.invokevirtual 208, 3) := by decide +kernel
theorem dX8_lend_61 : decode cX8_lend 61 = .ok (.aload_n 0, 1) := by decide +kernel
theorem dX8_lend_62 : decode cX8_lend 62 = .ok (.getfield 115, 3) := by decide +kernel
theorem dX8_lend_65 : decode cX8_lend 65 = .ok (.iconst 3, 1) := by decide +kernel
theorem dX8_lend_66 : decode cX8_lend 66 = .ok (.iload_n 1, 1) := by decide +kernel
theorem dX8_lend_67 : decode cX8_lend 67 = .ok (.imul, 1) := by decide +kernel
theorem dX8_lend_68 : decode cX8_lend 68 = .ok (.aload_n 0, 1) := by decide +kernel
theorem dX8_lend_69 : decode cX8_lend 69 = .ok (.getfield 90, 3) := by decide +kernel
theorem dX8_lend_72 : decode cX8_lend 72 = .ok (.iload_n 2, 1) := by decide +kernel
theorem dX8_lend_73 : decode cX8_lend 73 = .ok (.iaload, 1) := by decide +kernel
theorem dX8_lend_74 : decode cX8_lend 74 = .ok (.iadd, 1) := by decide +kernel
theorem dX8_lend_75 : decode cX8_lend 75 = .ok (.dup2, 1) := by decide +kernel
theorem dX8_lend_76 : decode cX8_lend 76 = .ok (.iaload, 1) := by decide +kernel
theorem dX8_lend_77 : decode cX8_lend 77 = .ok (.iload_n 3, 1) := by decide +kernel
theorem dX8_lend_78 : decode cX8_lend 78 = .ok (.iadd, 1) := by decide +kernel
theorem dX8_lend_79 : decode cX8_lend 79 = .ok (.iastore, 1) := by decide +kernel
theorem dX8_lend_80 : decode cX8_lend 80 = .ok (.aload_n 0, 1) := by decide +kernel
theorem dX8_lend_81 : decode cX8_lend 81 = .ok (.getfield 115, 3) := by decide +kernel
theorem dX8_lend_84 : decode cX8_lend 84 = .ok (.iconst 3, 1) := by decide +kernel
theorem dX8_lend_85 : decode cX8_lend 85 = .ok (.iload_n 1, 1) := by decide +kernel
theorem dX8_lend_86 : decode cX8_lend 86 = .ok (.imul, 1) := by decide +kernel
theorem dX8_lend_87 : decode cX8_lend 87 = .ok (.aload_n 0, 1) := by decide +kernel
theorem dX8_lend_88 : decode cX8_lend 88 = .ok (.getfield 90, 3) := by decide +kernel
theorem dX8_lend_91 : decode cX8_lend 91 = .ok (.iload_n 2, 1) := by decide +kernel
theorem dX8_lend_92 : decode cX8_lend 92 = .ok (.iaload, 1) := by decide +kernel
theorem dX8_lend_93 : decode cX8_lend 93 = .ok (.iadd, 1) := by decide +kernel
theorem dX8_lend_94 : decode cX8_lend 94 = .ok (.iaload, 1) := by decide +kernel
theorem dX8_lend_95 : decode cX8_lend 95 = .ok (.ireturn, 1) := by decide +kernel
theorem dX8_pays_0 : decode cX8_pays 0 = .ok (.iload_n 3, 1) := by decide +kernel
theorem dX8_pays_1 : decode cX8_pays 1 = .ok (.istore 4, 2) := by decide +kernel
theorem dX8_pays_3 : decode cX8_pays 3 = .ok (.iload_n 2, 1) := by decide +kernel
theorem dX8_pays_4 : decode cX8_pays 4 = .ok (.istore 5, 2) := by decide +kernel
theorem dX8_pays_6 : decode cX8_pays 6 = .ok (.iload 5, 2) := by decide +kernel
theorem dX8_pays_8 : decode cX8_pays 8 = .ok (.iconst 3, 1) := by decide +kernel
theorem dX8_pays_9 : decode cX8_pays 9 = .ok (.if_icmp .ge 194, 3) := by decide +kernel
theorem dX8_pays_12 : decode cX8_pays 12 = .ok (.aload_n 0, 1) := by decide +kernel
theorem dX8_pays_13 : decode cX8_pays 13 = .ok (.getfield 115, 3) := by decide +kernel
theorem dX8_pays_16 : decode cX8_pays 16 = .ok (.iconst 3, 1) := by decide +kernel
theorem dX8_pays_17 : decode cX8_pays 17 = .ok (.iload_n 1, 1) := by decide +kernel
theorem dX8_pays_18 : decode cX8_pays 18 = .ok (.imul, 1) := by decide +kernel
theorem dX8_pays_19 : decode cX8_pays 19 = .ok (.iload 5, 2) := by decide +kernel
theorem dX8_pays_21 : decode cX8_pays 21 = .ok (.iadd, 1) := by decide +kernel
theorem dX8_pays_22 : decode cX8_pays 22 = .ok (.iaload, 1) := by decide +kernel
theorem dX8_pays_23 : decode cX8_pays 23 = .ok (.istore 6, 2) := by decide +kernel
theorem dX8_pays_25 : decode cX8_pays 25 = .ok (.iload 6, 2) := by decide +kernel
theorem dX8_pays_27 : decode cX8_pays 27 = .ok (.ifCond .eq 170, 3) := by decide +kernel
theorem dX8_pays_30 : decode cX8_pays 30 = .ok (.iload 4, 2) := by decide +kernel
theorem dX8_pays_32 : decode cX8_pays 32 = .ok (.ifCond .ne 6, 3) := by decide +kernel
theorem dX8_pays_35 : decode cX8_pays 35 = .ok (.goto 162, 3) := by decide +kernel
theorem dX8_pays_38 : decode cX8_pays 38 = .ok (.ldc2_w 218, 3) := by decide +kernel
theorem dX8_pays_41 : decode cX8_pays 41 = .ok (.ldc2_w 220, 3) := by decide +kernel
theorem dX8_pays_44 : decode cX8_pays 44 = .ok (.iload 5, 2) := by decide +kernel
theorem dX8_pays_46 : decode cX8_pays 46 = .ok (.iload_n 2, 1) := by decide +kernel
theorem dX8_pays_47 : decode cX8_pays 47 = .ok (.isub, 1) := by decide +kernel
theorem dX8_pays_48 : decode cX8_pays 48 = .ok (.i2l, 1) := by decide +kernel
theorem dX8_pays_49 : decode cX8_pays 49 = .ok (.lmul, 1) := by decide +kernel
theorem dX8_pays_50 : decode cX8_pays 50 = .ok (.ladd, 1) := by decide +kernel
theorem dX8_pays_51 : decode cX8_pays 51 = .ok (.lstore 7, 2) := by decide +kernel
theorem dX8_pays_53 : decode cX8_pays 53 = .ok (.ldc2_w 218, 3) := by decide +kernel
theorem dX8_pays_56 : decode cX8_pays 56 = .ok (.iload 6, 2) := by decide +kernel
theorem dX8_pays_58 : decode cX8_pays 58 = .ok (.i2l, 1) := by decide +kernel
theorem dX8_pays_59 : decode cX8_pays 59 = .ok (.lmul, 1) := by decide +kernel
theorem dX8_pays_60 : decode cX8_pays 60 = .ok (.lload 7, 2) := by decide +kernel
theorem dX8_pays_62 : decode cX8_pays 62 = .ok (.ladd, 1) := by decide +kernel
theorem dX8_pays_63 : decode cX8_pays 63 = .ok (.lconst 1, 1) := by decide +kernel
theorem dX8_pays_64 : decode cX8_pays 64 = .ok (.lsub, 1) := by decide +kernel
theorem dX8_pays_65 : decode cX8_pays 65 = .ok (.lload 7, 2) := by decide +kernel
theorem dX8_pays_67 : decode cX8_pays 67 = .ok (.ldiv, 1) := by decide +kernel
theorem dX8_pays_68 : decode cX8_pays 68 = .ok (.lstore 9, 2) := by decide +kernel
theorem dX8_pays_70 : decode cX8_pays 70 = .ok (.lload 9, 2) := by decide +kernel
theorem dX8_pays_72 : decode cX8_pays 72 = .ok (.lload 7, 2) := by decide +kernel
theorem dX8_pays_74 : decode cX8_pays 74 = .ok (.lmul, 1) := by decide +kernel
theorem dX8_pays_75 : decode cX8_pays 75 = .ok (.ldc2_w 218, 3) := by decide +kernel
theorem dX8_pays_78 : decode cX8_pays 78 = .ok (.ldiv, 1) := by decide +kernel
theorem dX8_pays_79 : decode cX8_pays 79 = .ok (.iload 6, 2) := by decide +kernel
theorem dX8_pays_81 : decode cX8_pays 81 = .ok (.i2l, 1) := by decide +kernel
theorem dX8_pays_82 : decode cX8_pays 82 = .ok (.lcmp, 1) := by decide +kernel
theorem dX8_pays_83 : decode cX8_pays 83 = .ok (.ifCond .ge 12, 3) := by decide +kernel
theorem dX8_pays_86 : decode cX8_pays 86 = .ok (.lload 9, 2) := by decide +kernel
theorem dX8_pays_88 : decode cX8_pays 88 = .ok (.lconst 1, 1) := by decide +kernel
theorem dX8_pays_89 : decode cX8_pays 89 = .ok (.ladd, 1) := by decide +kernel
theorem dX8_pays_90 : decode cX8_pays 90 = .ok (.lstore 9, 2) := by decide +kernel
theorem dX8_pays_92 : decode cX8_pays 92 = .ok (.goto (-22), 3) := by decide +kernel
theorem dX8_pays_95 : decode cX8_pays 95 = .ok (.lload 9, 2) := by decide +kernel
theorem dX8_pays_97 : decode cX8_pays 97 = .ok (.lconst 0, 1) := by decide +kernel
theorem dX8_pays_98 : decode cX8_pays 98 = .ok (.lcmp, 1) := by decide +kernel
theorem dX8_pays_99 : decode cX8_pays 99 = .ok (.ifCond .le 30, 3) := by decide +kernel
theorem dX8_pays_102 : decode cX8_pays 102 = .ok (.lload 9, 2) := by decide +kernel
theorem dX8_pays_104 : decode cX8_pays 104 = .ok (.lconst 1, 1) := by decide +kernel
theorem dX8_pays_105 : decode cX8_pays 105 = .ok (.lsub, 1) := by decide +kernel
theorem dX8_pays_106 : decode cX8_pays 106 = .ok (.lload 7, 2) := by decide +kernel
theorem dX8_pays_108 : decode cX8_pays 108 = .ok (.lmul, 1) := by decide +kernel
theorem dX8_pays_109 : decode cX8_pays 109 = .ok (.ldc2_w 218, 3) := by decide +kernel
theorem dX8_pays_112 : decode cX8_pays 112 = .ok (.ldiv, 1) := by decide +kernel
theorem dX8_pays_113 : decode cX8_pays 113 = .ok (.iload 6, 2) := by decide +kernel
theorem dX8_pays_115 : decode cX8_pays 115 = .ok (.i2l, 1) := by decide +kernel
theorem dX8_pays_116 : decode cX8_pays 116 = .ok (.lcmp, 1) := by decide +kernel
theorem dX8_pays_117 : decode cX8_pays 117 = .ok (.ifCond .lt 12, 3) := by decide +kernel
theorem dX8_pays_120 : decode cX8_pays 120 = .ok (.lload 9, 2) := by decide +kernel
theorem dX8_pays_122 : decode cX8_pays 122 = .ok (.lconst 1, 1) := by decide +kernel
theorem dX8_pays_123 : decode cX8_pays 123 = .ok (.lsub, 1) := by decide +kernel
theorem dX8_pays_124 : decode cX8_pays 124 = .ok (.lstore 9, 2) := by decide +kernel
theorem dX8_pays_126 : decode cX8_pays 126 = .ok (.goto (-31), 3) := by decide +kernel
theorem dX8_pays_129 : decode cX8_pays 129 = .ok (.lload 9, 2) := by decide +kernel
theorem dX8_pays_131 : decode cX8_pays 131 = .ok (.iload 4, 2) := by decide +kernel
theorem dX8_pays_133 : decode cX8_pays 133 = .ok (.i2l, 1) := by decide +kernel
theorem dX8_pays_134 : decode cX8_pays 134 = .ok (.lcmp, 1) := by decide +kernel
theorem dX8_pays_135 : decode cX8_pays 135 = .ok (.ifCond .ge 9, 3) := by decide +kernel
theorem dX8_pays_138 : decode cX8_pays 138 = .ok (.lload 9, 2) := by decide +kernel
theorem dX8_pays_140 : decode cX8_pays 140 = .ok (.l2i, 1) := by decide +kernel
theorem dX8_pays_141 : decode cX8_pays 141 = .ok (.goto 5, 3) := by decide +kernel
theorem dX8_pays_144 : decode cX8_pays 144 = .ok (.iload 4, 2) := by decide +kernel
theorem dX8_pays_146 : decode cX8_pays 146 = .ok (.istore 11, 2) := by decide +kernel
theorem dX8_pays_148 : decode cX8_pays 148 = .ok (.iload 11, 2) := by decide +kernel
theorem dX8_pays_150 : decode cX8_pays 150 = .ok (.i2l, 1) := by decide +kernel
theorem dX8_pays_151 : decode cX8_pays 151 = .ok (.lload 7, 2) := by decide +kernel
theorem dX8_pays_153 : decode cX8_pays 153 = .ok (.lmul, 1) := by decide +kernel
theorem dX8_pays_154 : decode cX8_pays 154 = .ok (.ldc2_w 218, 3) := by decide +kernel
theorem dX8_pays_157 : decode cX8_pays 157 = .ok (.ldiv, 1) := by decide +kernel
theorem dX8_pays_158 : decode cX8_pays 158 = .ok (.lstore 12, 2) := by decide +kernel
theorem dX8_pays_160 : decode cX8_pays 160 = .ok (.aload_n 0, 1) := by decide +kernel
theorem dX8_pays_161 : decode cX8_pays 161 = .ok (.getfield 115, 3) := by decide +kernel
theorem dX8_pays_164 : decode cX8_pays 164 = .ok (.iconst 3, 1) := by decide +kernel
theorem dX8_pays_165 : decode cX8_pays 165 = .ok (.iload_n 1, 1) := by decide +kernel
theorem dX8_pays_166 : decode cX8_pays 166 = .ok (.imul, 1) := by decide +kernel
theorem dX8_pays_167 : decode cX8_pays 167 = .ok (.iload 5, 2) := by decide +kernel
theorem dX8_pays_169 : decode cX8_pays 169 = .ok (.iadd, 1) := by decide +kernel
theorem dX8_pays_170 : decode cX8_pays 170 = .ok (.lload 12, 2) := by decide +kernel
theorem dX8_pays_172 : decode cX8_pays 172 = .ok (.iload 6, 2) := by decide +kernel
theorem dX8_pays_174 : decode cX8_pays 174 = .ok (.i2l, 1) := by decide +kernel
theorem dX8_pays_175 : decode cX8_pays 175 = .ok (.lcmp, 1) := by decide +kernel
theorem dX8_pays_176 : decode cX8_pays 176 = .ok (.ifCond .le 7, 3) := by decide +kernel
theorem dX8_pays_179 : decode cX8_pays 179 = .ok (.iconst 0, 1) := by decide +kernel
theorem dX8_pays_180 : decode cX8_pays 180 = .ok (.goto 9, 3) := by decide +kernel
theorem dX8_pays_183 : decode cX8_pays 183 = .ok (.iload 6, 2) := by decide +kernel
theorem dX8_pays_185 : decode cX8_pays 185 = .ok (.lload 12, 2) := by decide +kernel
theorem dX8_pays_187 : decode cX8_pays 187 = .ok (.l2i, 1) := by decide +kernel
theorem dX8_pays_188 : decode cX8_pays 188 = .ok (.isub, 1) := by decide +kernel
theorem dX8_pays_189 : decode cX8_pays 189 = .ok (.iastore, 1) := by decide +kernel
theorem dX8_pays_190 : decode cX8_pays 190 = .ok (.iload 4, 2) := by decide +kernel
theorem dX8_pays_192 : decode cX8_pays 192 = .ok (.iload 11, 2) := by decide +kernel
theorem dX8_pays_194 : decode cX8_pays 194 = .ok (.isub, 1) := by decide +kernel
theorem dX8_pays_195 : decode cX8_pays 195 = .ok (.istore 4, 2) := by decide +kernel
theorem dX8_pays_197 : decode cX8_pays 197 = .ok (.iinc 5 1, 3) := by decide +kernel
theorem dX8_pays_200 : decode cX8_pays 200 = .ok (.goto (-194), 3) := by decide +kernel
theorem dX8_pays_203 : decode cX8_pays 203 = .ok (.iload_n 3, 1) := by decide +kernel
theorem dX8_pays_204 : decode cX8_pays 204 = .ok (.iload 4, 2) := by decide +kernel
theorem dX8_pays_206 : decode cX8_pays 206 = .ok (.isub, 1) := by decide +kernel
theorem dX8_pays_207 : decode cX8_pays 207 = .ok (.ireturn, 1) := by decide +kernel
set_option maxRecDepth 20000 in
theorem ggX8_pay_X8_isLot : GoodIn wsX8_pay wsX8_isLot := goodIn_r _ [13, 14, 15, 16, 12, 17, 25, 26, 27, 28, 29, 30, 31, 32, 33, 34, 35, 36, 37, 38, 39, 40, 41, 42, 43, 44, 45, 46, 47, 48, 49, 50, 51, 52, 53, 54, 55, 56, 57, 58, 59, 60, 61, 62, 63, 64, 65, 66, 67, 68, 69, 70, 71, 72, 73, 74, 75, 76, 77, 78] (by decide +kernel) (by decide +kernel)
set_option maxRecDepth 20000 in
theorem gX8_pay_X8_isLot : GoodIn wsX8_pay (wsV RX8 147 RX8 yX8_isLot wsX8_isLot) := goodIn_app (goodIn_of _ (by decide +kernel)) ggX8_pay_X8_isLot
set_option maxRecDepth 20000 in
theorem ggX8_pay_X8_pays : GoodIn wsX8_pay wsX8_pays := goodIn_r _ [21, 22, 23, 24, 25, 26, 27, 28, 29, 30, 31, 32, 33, 34, 35, 36, 37, 38, 39, 40, 41, 42, 43, 44, 45, 46, 47, 48, 49, 50, 51, 52, 53, 54, 55, 56, 57, 58, 59, 60, 61, 62, 63, 64, 65, 66, 67, 68, 69, 70, 71, 72, 73, 74, 75, 76, 77, 78] (by decide +kernel) (by decide +kernel)
set_option maxRecDepth 20000 in
theorem gX8_pay_X8_pays : GoodIn wsX8_pay (wsV RX8 222 RX8 yX8_pays wsX8_pays) := goodIn_app (goodIn_of _ (by decide +kernel)) ggX8_pay_X8_pays
theorem dX8_pay_0 : decode cX8_pay 0 = .ok (.aload_n 0, 1) := by decide +kernel
theorem dX8_pay_1 : decode cX8_pay 1 = .ok (.iload_n 1, 1) := by decide +kernel
theorem dX8_pay_2 : decode cX8_pay 2 = .ok (.invokevirtual 147, 3) := by decide +kernel
theorem dX8_pay_5 : decode cX8_pay 5 = .ok (.ifCond .eq 33, 3) := by decide +kernel
theorem dX8_pay_8 : decode cX8_pay 8 = .ok (.aload_n 0, 1) := by decide +kernel
theorem dX8_pay_9 : decode cX8_pay 9 = .ok (.getfield 26, 3) := by decide +kernel
theorem dX8_pay_12 : decode cX8_pay 12 = .ok (.iload_n 1, 1) := by decide +kernel
theorem dX8_pay_13 : decode cX8_pay 13 = .ok (.iaload, 1) := by decide +kernel
theorem dX8_pay_14 : decode cX8_pay 14 = .ok (.iconst 4, 1) := by decide +kernel
theorem dX8_pay_15 : decode cX8_pay 15 = .ok (.if_icmp .ne 23, 3) := by decide +kernel
theorem dX8_pay_18 : decode cX8_pay 18 = .ok (.aload_n 0, 1) := by decide +kernel
theorem dX8_pay_19 : decode cX8_pay 19 = .ok (.getfield 35, 3) := by decide +kernel
theorem dX8_pay_22 : decode cX8_pay 22 = .ok (.iload_n 1, 1) := by decide +kernel
theorem dX8_pay_23 : decode cX8_pay 23 = .ok (.iaload, 1) := by decide +kernel
theorem dX8_pay_24 : decode cX8_pay 24 = .ok (.bipush 6, 2) := by decide +kernel
theorem dX8_pay_26 : decode cX8_pay 26 = .ok (.if_icmp .ne 12, 3) := by decide +kernel
theorem dX8_pay_29 : decode cX8_pay 29 = .ok (.aload_n 0, 1) := by decide +kernel
theorem dX8_pay_30 : decode cX8_pay 30 = .ok (.getfield 50, 3) := by decide +kernel
theorem dX8_pay_33 : decode cX8_pay 33 = .ok (.iload_n 1, 1) := by decide +kernel
theorem dX8_pay_34 : decode cX8_pay 34 = .ok (.iaload, 1) := by decide +kernel
theorem dX8_pay_35 : decode cX8_pay 35 = .ok (.ifCond .ne 5, 3) := by decide +kernel
theorem dX8_pay_38 : decode cX8_pay 38 = .ok (.iconst (-1), 1) := by decide +kernel
theorem dX8_pay_39 : decode cX8_pay 39 = .ok (.ireturn, 1) := by decide +kernel
theorem dX8_pay_40 : decode cX8_pay 40 = .ok (.aload_n 0, 1) := by decide +kernel
theorem dX8_pay_41 : decode cX8_pay 41 = .ok (.getfield 53, 3) := by decide +kernel
theorem dX8_pay_44 : decode cX8_pay 44 = .ok (.iload_n 1, 1) := by decide +kernel
theorem dX8_pay_45 : decode cX8_pay 45 = .ok (.iaload, 1) := by decide +kernel
theorem dX8_pay_46 : decode cX8_pay 46 = .ok (.istore_n 2, 1) := by decide +kernel
theorem dX8_pay_47 : decode cX8_pay 47 = .ok (.aload_n 0, 1) := by decide +kernel
theorem dX8_pay_48 : decode cX8_pay 48 = .ok (.aload_n 0, 1) := by decide +kernel
theorem dX8_pay_49 : decode cX8_pay 49 = .ok (.getfield 19, 3) := by decide +kernel
theorem dX8_pay_52 : decode cX8_pay 52 = .ok (.aload_n 0, 1) := by decide +kernel
theorem dX8_pay_53 : decode cX8_pay 53 = .ok (.getfield 29, 3) := by decide +kernel
theorem dX8_pay_56 : decode cX8_pay 56 = .ok (.iload_n 1, 1) := by decide +kernel
theorem dX8_pay_57 : decode cX8_pay 57 = .ok (.iaload, 1) := by decide +kernel
theorem dX8_pay_58 : decode cX8_pay 58 = .ok (.iaload, 1) := by decide +kernel
theorem dX8_pay_59 : decode cX8_pay 59 = .ok (.aload_n 0, 1) := by decide +kernel
theorem dX8_pay_60 : decode cX8_pay 60 = .ok (.getfield 90, 3) := by decide +kernel
theorem dX8_pay_63 : decode cX8_pay 63 = .ok (.iload_n 2, 1) := by decide +kernel
theorem dX8_pay_64 : decode cX8_pay 64 = .ok (.iaload, 1) := by decide +kernel
theorem dX8_pay_65 : decode cX8_pay 65 = .ok (.aload_n 0, 1) := by decide +kernel
theorem dX8_pay_66 : decode cX8_pay 66 = .ok (.getfield 50, 3) := by decide +kernel
theorem dX8_pay_69 : decode cX8_pay 69 = .ok (.iload_n 1, 1) := by decide +kernel
theorem dX8_pay_70 : decode cX8_pay 70 = .ok (.iaload, 1) := by decide +kernel
theorem dX8_pay_71 : decode cX8_pay 71 = .ok (.invokevirtual 222, 3) := by decide +kernel
theorem dX8_pay_74 : decode cX8_pay 74 = .ok (.istore_n 3, 1) := by decide +kernel
theorem dX8_pay_75 : decode cX8_pay 75 = .ok (.aload_n 0, 1) := by decide +kernel
theorem dX8_pay_76 : decode cX8_pay 76 = .ok (.getfield 50, 3) := by decide +kernel
theorem dX8_pay_79 : decode cX8_pay 79 = .ok (.iload_n 1, 1) := by decide +kernel
theorem dX8_pay_80 : decode cX8_pay 80 = .ok (.dup2, 1) := by decide +kernel
theorem dX8_pay_81 : decode cX8_pay 81 = .ok (.iaload, 1) := by decide +kernel
theorem dX8_pay_82 : decode cX8_pay 82 = .ok (.iload_n 3, 1) := by decide +kernel
theorem dX8_pay_83 : decode cX8_pay 83 = .ok (.isub, 1) := by decide +kernel
theorem dX8_pay_84 : decode cX8_pay 84 = .ok (.iastore, 1) := by decide +kernel
theorem dX8_pay_85 : decode cX8_pay 85 = .ok (.aload_n 0, 1) := by decide +kernel
theorem dX8_pay_86 : decode cX8_pay 86 = .ok (.getfield 102, 3) := by decide +kernel
theorem dX8_pay_89 : decode cX8_pay 89 = .ok (.iload_n 2, 1) := by decide +kernel
theorem dX8_pay_90 : decode cX8_pay 90 = .ok (.dup2, 1) := by decide +kernel
theorem dX8_pay_91 : decode cX8_pay 91 = .ok (.iaload, 1) := by decide +kernel
theorem dX8_pay_92 : decode cX8_pay 92 = .ok (.iload_n 3, 1) := by decide +kernel
theorem dX8_pay_93 : decode cX8_pay 93 = .ok (.iadd, 1) := by decide +kernel
theorem dX8_pay_94 : decode cX8_pay 94 = .ok (.iastore, 1) := by decide +kernel
theorem dX8_pay_95 : decode cX8_pay 95 = .ok (.iload_n 3, 1) := by decide +kernel
theorem dX8_pay_96 : decode cX8_pay 96 = .ok (.ireturn, 1) := by decide +kernel
set_option maxRecDepth 20000 in
theorem ggX8_hand_X8_in : GoodIn wsX8_hand wsX8_in := goodIn_r _ [5] (by decide +kernel) (by decide +kernel)
set_option maxRecDepth 20000 in
theorem gX8_hand_X8_in : GoodIn wsX8_hand (va_wsS RX8 133 yX8_in wsX8_in) := goodIn_app (goodIn_of _ (by decide +kernel)) ggX8_hand_X8_in
set_option maxRecDepth 20000 in
theorem ggX8_hand_X8_pays : GoodIn wsX8_hand wsX8_pays := goodIn_r _ [9, 10, 11, 12, 13, 14, 15, 16, 17, 18, 19, 20, 21, 22, 23, 24, 25, 26, 27, 28, 29, 30, 31, 32, 33, 34, 35, 36, 37, 38, 39, 40, 41, 42, 43, 44, 45, 46, 47, 48, 49, 50, 51, 52, 53, 54, 55, 56, 57, 58, 59, 60, 61, 62, 63, 64, 65, 66] (by decide +kernel) (by decide +kernel)
set_option maxRecDepth 20000 in
theorem gX8_hand_X8_pays : GoodIn wsX8_hand (wsV RX8 222 RX8 yX8_pays wsX8_pays) := goodIn_app (goodIn_of _ (by decide +kernel)) ggX8_hand_X8_pays
theorem dX8_hand_0 : decode cX8_hand 0 = .ok (.iload_n 1, 1) := by decide +kernel
theorem dX8_hand_1 : decode cX8_hand 1 = .ok (.iconst 0, 1) := by decide +kernel
theorem dX8_hand_2 : decode cX8_hand 2 = .ok (.bipush 39, 2) := by decide +kernel
theorem dX8_hand_4 : decode cX8_hand 4 = .ok (.invokestatic 133, 3) := by decide +kernel
theorem dX8_hand_7 : decode cX8_hand 7 = .ok (.ifCond .eq 22, 3) := by decide +kernel
theorem dX8_hand_10 : decode cX8_hand 10 = .ok (.iload_n 2, 1) := by decide +kernel
theorem dX8_hand_11 : decode cX8_hand 11 = .ok (.iconst 0, 1) := by decide +kernel
theorem dX8_hand_12 : decode cX8_hand 12 = .ok (.iconst 2, 1) := by decide +kernel
theorem dX8_hand_13 : decode cX8_hand 13 = .ok (.invokestatic 133, 3) := by decide +kernel
theorem dX8_hand_16 : decode cX8_hand 16 = .ok (.ifCond .eq 13, 3) := by decide +kernel
theorem dX8_hand_19 : decode cX8_hand 19 = .ok (.iload_n 3, 1) := by decide +kernel
theorem dX8_hand_20 : decode cX8_hand 20 = .ok (.iconst 0, 1) := by decide +kernel
theorem dX8_hand_21 : decode cX8_hand 21 = .ok (.ldc 194, 2) := by decide +kernel
theorem dX8_hand_23 : decode cX8_hand 23 = .ok (.invokestatic 133, 3) := by decide +kernel
theorem dX8_hand_26 : decode cX8_hand 26 = .ok (.ifCond .ne 5, 3) := by decide +kernel
theorem dX8_hand_29 : decode cX8_hand 29 = .ok (.iconst (-1), 1) := by decide +kernel
theorem dX8_hand_30 : decode cX8_hand 30 = .ok (.ireturn, 1) := by decide +kernel
theorem dX8_hand_31 : decode cX8_hand 31 = .ok (.aload_n 0, 1) := by decide +kernel
theorem dX8_hand_32 : decode cX8_hand 32 = .ok (.iload_n 1, 1) := by decide +kernel
theorem dX8_hand_33 : decode cX8_hand 33 = .ok (.iload_n 2, 1) := by decide +kernel
theorem dX8_hand_34 : decode cX8_hand 34 = .ok (.iload_n 3, 1) := by decide +kernel
theorem dX8_hand_35 : decode cX8_hand 35 = .ok (.invokevirtual 222, 3) := by decide +kernel
theorem dX8_hand_38 : decode cX8_hand 38 = .ok (.ireturn, 1) := by decide +kernel
set_option maxRecDepth 20000 in
theorem ggX8_owes_X8_in : GoodIn wsX8_owes wsX8_in := goodIn_r _ [5] (by decide +kernel) (by decide +kernel)
set_option maxRecDepth 20000 in
theorem gX8_owes_X8_in : GoodIn wsX8_owes (va_wsS RX8 133 yX8_in wsX8_in) := goodIn_app (goodIn_of _ (by decide +kernel)) ggX8_owes_X8_in
theorem dX8_owes_0 : decode cX8_owes 0 = .ok (.iload_n 1, 1) := by decide +kernel
theorem dX8_owes_1 : decode cX8_owes 1 = .ok (.iconst 0, 1) := by decide +kernel
theorem dX8_owes_2 : decode cX8_owes 2 = .ok (.bipush 39, 2) := by decide +kernel
theorem dX8_owes_4 : decode cX8_owes 4 = .ok (.invokestatic 133, 3) := by decide +kernel
theorem dX8_owes_7 : decode cX8_owes 7 = .ok (.ifCond .eq 25, 3) := by decide +kernel
theorem dX8_owes_10 : decode cX8_owes 10 = .ok (.iload_n 2, 1) := by decide +kernel
theorem dX8_owes_11 : decode cX8_owes 11 = .ok (.iconst 0, 1) := by decide +kernel
theorem dX8_owes_12 : decode cX8_owes 12 = .ok (.iconst 2, 1) := by decide +kernel
theorem dX8_owes_13 : decode cX8_owes 13 = .ok (.invokestatic 133, 3) := by decide +kernel
theorem dX8_owes_16 : decode cX8_owes 16 = .ok (.ifCond .eq 16, 3) := by decide +kernel
theorem dX8_owes_19 : decode cX8_owes 19 = .ok (.aload_n 0, 1) := by decide +kernel
theorem dX8_owes_20 : decode cX8_owes 20 = .ok (.getfield 115, 3) := by decide +kernel
theorem dX8_owes_23 : decode cX8_owes 23 = .ok (.iconst 3, 1) := by decide +kernel
theorem dX8_owes_24 : decode cX8_owes 24 = .ok (.iload_n 1, 1) := by decide +kernel
theorem dX8_owes_25 : decode cX8_owes 25 = .ok (.imul, 1) := by decide +kernel
theorem dX8_owes_26 : decode cX8_owes 26 = .ok (.iload_n 2, 1) := by decide +kernel
theorem dX8_owes_27 : decode cX8_owes 27 = .ok (.iadd, 1) := by decide +kernel
theorem dX8_owes_28 : decode cX8_owes 28 = .ok (.iaload, 1) := by decide +kernel
theorem dX8_owes_29 : decode cX8_owes 29 = .ok (.goto 4, 3) := by decide +kernel
theorem dX8_owes_32 : decode cX8_owes 32 = .ok (.iconst (-1), 1) := by decide +kernel
theorem dX8_owes_33 : decode cX8_owes 33 = .ok (.ireturn, 1) := by decide +kernel
set_option maxRecDepth 20000 in
theorem ggX8_dawns_X8_today : GoodIn wsX8_dawns wsX8_today := goodIn_r _ [12, 13, 14, 15, 16, 17, 18, 19, 20, 21, 22, 23, 24, 25, 26, 27, 28, 29, 30, 31, 32, 33, 34, 35, 36, 37, 38, 39, 40, 41, 42, 43, 44, 45, 46, 47, 48, 49, 50, 51, 52, 53, 54, 55, 56, 57, 58, 59, 60, 61, 62, 63, 64, 65, 66, 67] (by decide +kernel) (by decide +kernel)
set_option maxRecDepth 20000 in
theorem gX8_dawns_X8_today : GoodIn wsX8_dawns (wsV RX8 143 RX8 yX8_today wsX8_today) := goodIn_app (goodIn_of _ (by decide +kernel)) ggX8_dawns_X8_today
theorem dX8_dawns_0 : decode cX8_dawns 0 = .ok (.aload_n 0, 1) := by decide +kernel
theorem dX8_dawns_1 : decode cX8_dawns 1 = .ok (.iconst (-1), 1) := by decide +kernel
theorem dX8_dawns_2 : decode cX8_dawns 2 = .ok (.putfield 16, 3) := by decide +kernel
theorem dX8_dawns_5 : decode cX8_dawns 5 = .ok (.iconst 0, 1) := by decide +kernel
theorem dX8_dawns_6 : decode cX8_dawns 6 = .ok (.istore_n 1, 1) := by decide +kernel
theorem dX8_dawns_7 : decode cX8_dawns 7 = .ok (.iload_n 1, 1) := by decide +kernel
theorem dX8_dawns_8 : decode cX8_dawns 8 = .ok (.aload_n 0, 1) := by decide +kernel
theorem dX8_dawns_9 : decode cX8_dawns 9 = .ok (.getfield 130, 3) := by decide +kernel
theorem dX8_dawns_12 : decode cX8_dawns 12 = .ok (.if_icmp .ge 67, 3) := by decide +kernel
theorem dX8_dawns_15 : decode cX8_dawns 15 = .ok (.aload_n 0, 1) := by decide +kernel
theorem dX8_dawns_16 : decode cX8_dawns 16 = .ok (.getfield 35, 3) := by decide +kernel
theorem dX8_dawns_19 : decode cX8_dawns 19 = .ok (.iload_n 1, 1) := by decide +kernel
theorem dX8_dawns_20 : decode cX8_dawns 20 = .ok (.iaload, 1) := by decide +kernel
theorem dX8_dawns_21 : decode cX8_dawns 21 = .ok (.iconst 2, 1) := by decide +kernel
theorem dX8_dawns_22 : decode cX8_dawns 22 = .ok (.if_icmp .gt 51, 3) := by decide +kernel
theorem dX8_dawns_25 : decode cX8_dawns 25 = .ok (.aload_n 0, 1) := by decide +kernel
theorem dX8_dawns_26 : decode cX8_dawns 26 = .ok (.getfield 26, 3) := by decide +kernel
theorem dX8_dawns_29 : decode cX8_dawns 29 = .ok (.iload_n 1, 1) := by decide +kernel
theorem dX8_dawns_30 : decode cX8_dawns 30 = .ok (.iaload, 1) := by decide +kernel
theorem dX8_dawns_31 : decode cX8_dawns 31 = .ok (.iconst 2, 1) := by decide +kernel
theorem dX8_dawns_32 : decode cX8_dawns 32 = .ok (.if_icmp .gt 41, 3) := by decide +kernel
theorem dX8_dawns_35 : decode cX8_dawns 35 = .ok (.aload_n 0, 1) := by decide +kernel
theorem dX8_dawns_36 : decode cX8_dawns 36 = .ok (.invokevirtual 143, 3) := by decide +kernel
theorem dX8_dawns_39 : decode cX8_dawns 39 = .ok (.aload_n 0, 1) := by decide +kernel
theorem dX8_dawns_40 : decode cX8_dawns 40 = .ok (.getfield 32, 3) := by decide +kernel
theorem dX8_dawns_43 : decode cX8_dawns 43 = .ok (.iload_n 1, 1) := by decide +kernel
theorem dX8_dawns_44 : decode cX8_dawns 44 = .ok (.iaload, 1) := by decide +kernel
theorem dX8_dawns_45 : decode cX8_dawns 45 = .ok (.isub, 1) := by decide +kernel
theorem dX8_dawns_46 : decode cX8_dawns 46 = .ok (.aload_n 0, 1) := by decide +kernel
theorem dX8_dawns_47 : decode cX8_dawns 47 = .ok (.getfield 7, 3) := by decide +kernel
theorem dX8_dawns_50 : decode cX8_dawns 50 = .ok (.if_icmp .gt 6, 3) := by decide +kernel
theorem dX8_dawns_53 : decode cX8_dawns 53 = .ok (.goto 20, 3) := by decide +kernel
theorem dX8_dawns_56 : decode cX8_dawns 56 = .ok (.aload_n 0, 1) := by decide +kernel
theorem dX8_dawns_57 : decode cX8_dawns 57 = .ok (.getfield 26, 3) := by decide +kernel
theorem dX8_dawns_60 : decode cX8_dawns 60 = .ok (.iload_n 1, 1) := by decide +kernel
theorem dX8_dawns_61 : decode cX8_dawns 61 = .ok (.iconst 3, 1) := by decide +kernel
theorem dX8_dawns_62 : decode cX8_dawns 62 = .ok (.iastore, 1) := by decide +kernel
theorem dX8_dawns_63 : decode cX8_dawns 63 = .ok (.aload_n 0, 1) := by decide +kernel
theorem dX8_dawns_64 : decode cX8_dawns 64 = .ok (.dup, 1) := by decide +kernel
theorem dX8_dawns_65 : decode cX8_dawns 65 = .ok (.getfield 226, 3) := by decide +kernel
theorem dX8_dawns_68 : decode cX8_dawns 68 = .ok (.iconst 1, 1) := by decide +kernel
theorem dX8_dawns_69 : decode cX8_dawns 69 = .ok (.iadd, 1) := by decide +kernel
theorem dX8_dawns_70 : decode cX8_dawns 70 = .ok (.putfield 226, 3) := by decide +kernel
theorem dX8_dawns_73 : decode cX8_dawns 73 = .ok (.iinc 1 1, 3) := by decide +kernel
theorem dX8_dawns_76 : decode cX8_dawns 76 = .ok (.goto (-69), 3) := by decide +kernel
theorem dX8_dawns_79 : decode cX8_dawns 79 = .ok (.return_, 1) := by decide +kernel
set_option maxRecDepth 20000 in
theorem ggX8_wait_X8_in : GoodIn wsX8_wait wsX8_in := goodIn_r _ [5] (by decide +kernel) (by decide +kernel)
set_option maxRecDepth 20000 in
theorem gX8_wait_X8_in : GoodIn wsX8_wait (va_wsS RX8 133 yX8_in wsX8_in) := goodIn_app (goodIn_of _ (by decide +kernel)) ggX8_wait_X8_in
set_option maxRecDepth 20000 in
theorem ggX8_wait_X8_dawns : GoodIn wsX8_wait wsX8_dawns := goodIn_r _ [9, 10, 11, 12, 13, 14, 15, 16, 17, 18, 19, 4, 20, 1, 21, 22, 23, 24, 25, 26, 27, 28, 29, 30, 31, 32, 33, 34, 35, 36, 37, 38, 39, 40, 41, 42, 43, 44, 45, 46, 47, 48, 49, 50, 51, 52, 53, 54, 55, 56, 57, 58, 59, 60, 61, 62, 63, 64, 65, 66, 67, 68, 69, 70, 71, 72, 73, 74] (by decide +kernel) (by decide +kernel)
set_option maxRecDepth 20000 in
theorem gX8_wait_X8_dawns : GoodIn wsX8_wait (wsV RX8 229 RX8 yX8_dawns wsX8_dawns) := goodIn_app (goodIn_of _ (by decide +kernel)) ggX8_wait_X8_dawns
theorem dX8_wait_0 : decode cX8_wait 0 = .ok (.iload_n 1, 1) := by decide +kernel
theorem dX8_wait_1 : decode cX8_wait 1 = .ok (.iconst 0, 1) := by decide +kernel
theorem dX8_wait_2 : decode cX8_wait 2 = .ok (.bipush 100, 2) := by decide +kernel
theorem dX8_wait_4 : decode cX8_wait 4 = .ok (.invokestatic 133, 3) := by decide +kernel
theorem dX8_wait_7 : decode cX8_wait 7 = .ok (.ifCond .ne 5, 3) := by decide +kernel
theorem dX8_wait_10 : decode cX8_wait 10 = .ok (.iconst (-1), 1) := by decide +kernel
theorem dX8_wait_11 : decode cX8_wait 11 = .ok (.ireturn, 1) := by decide +kernel
theorem dX8_wait_12 : decode cX8_wait 12 = .ok (.iconst 0, 1) := by decide +kernel
theorem dX8_wait_13 : decode cX8_wait 13 = .ok (.istore_n 2, 1) := by decide +kernel
theorem dX8_wait_14 : decode cX8_wait 14 = .ok (.iload_n 2, 1) := by decide +kernel
theorem dX8_wait_15 : decode cX8_wait 15 = .ok (.iload_n 1, 1) := by decide +kernel
theorem dX8_wait_16 : decode cX8_wait 16 = .ok (.if_icmp .ge 43, 3) := by decide +kernel
theorem dX8_wait_19 : decode cX8_wait 19 = .ok (.aload_n 0, 1) := by decide +kernel
theorem dX8_wait_20 : decode cX8_wait 20 = .ok (.getfield 127, 3) := by decide +kernel
theorem dX8_wait_23 : decode cX8_wait 23 = .ok (.sipush 999, 3) := by decide +kernel
theorem dX8_wait_26 : decode cX8_wait 26 = .ok (.if_icmp .ge 33, 3) := by decide +kernel
theorem dX8_wait_29 : decode cX8_wait 29 = .ok (.aload_n 0, 1) := by decide +kernel
theorem dX8_wait_30 : decode cX8_wait 30 = .ok (.dup, 1) := by decide +kernel
theorem dX8_wait_31 : decode cX8_wait 31 = .ok (.getfield 127, 3) := by decide +kernel
theorem dX8_wait_34 : decode cX8_wait 34 = .ok (.iconst 1, 1) := by decide +kernel
theorem dX8_wait_35 : decode cX8_wait 35 = .ok (.iadd, 1) := by decide +kernel
theorem dX8_wait_36 : decode cX8_wait 36 = .ok (.putfield 127, 3) := by decide +kernel
theorem dX8_wait_39 : decode cX8_wait 39 = .ok (.aload_n 0, 1) := by decide +kernel
theorem dX8_wait_40 : decode cX8_wait 40 = .ok (.getfield 127, 3) := by decide +kernel
theorem dX8_wait_43 : decode cX8_wait 43 = .ok (.bipush 10, 2) := by decide +kernel
theorem dX8_wait_45 : decode cX8_wait 45 = .ok (.irem, 1) := by decide +kernel
theorem dX8_wait_46 : decode cX8_wait 46 = .ok (.ifCond .ne 7, 3) := by decide +kernel
theorem dX8_wait_49 : decode cX8_wait 49 = .ok (.aload_n 0, 1) := by decide +kernel
theorem dX8_wait_50 : decode cX8_wait 50 = .ok (.invokevirtual 229, 3) := by decide +kernel
theorem dX8_wait_53 : decode cX8_wait 53 = .ok (.iinc 2 1, 3) := by decide +kernel
theorem dX8_wait_56 : decode cX8_wait 56 = .ok (.goto (-42), 3) := by decide +kernel
theorem dX8_wait_59 : decode cX8_wait 59 = .ok (.aload_n 0, 1) := by decide +kernel
theorem dX8_wait_60 : decode cX8_wait 60 = .ok (.getfield 127, 3) := by decide +kernel
theorem dX8_wait_63 : decode cX8_wait 63 = .ok (.ireturn, 1) := by decide +kernel
set_option maxRecDepth 20000 in
theorem ggX8_fresh_X8_in : GoodIn wsX8_fresh wsX8_in := goodIn_r _ [5] (by decide +kernel) (by decide +kernel)
set_option maxRecDepth 20000 in
theorem gX8_fresh_X8_in : GoodIn wsX8_fresh (va_wsS RX8 133 yX8_in wsX8_in) := goodIn_app (goodIn_of _ (by decide +kernel)) ggX8_fresh_X8_in
theorem dX8_fresh_0 : decode cX8_fresh 0 = .ok (.iload_n 1, 1) := by decide +kernel
theorem dX8_fresh_1 : decode cX8_fresh 1 = .ok (.iconst 0, 1) := by decide +kernel
theorem dX8_fresh_2 : decode cX8_fresh 2 = .ok (.bipush 10, 2) := by decide +kernel
theorem dX8_fresh_4 : decode cX8_fresh 4 = .ok (.invokestatic 133, 3) := by decide +kernel
theorem dX8_fresh_7 : decode cX8_fresh 7 = .ok (.ifCond .ne 5, 3) := by decide +kernel
theorem dX8_fresh_10 : decode cX8_fresh 10 = .ok (.iconst 0, 1) := by decide +kernel
theorem dX8_fresh_11 : decode cX8_fresh 11 = .ok (.ireturn, 1) := by decide +kernel
theorem dX8_fresh_12 : decode cX8_fresh 12 = .ok (.aload_n 0, 1) := by decide +kernel
theorem dX8_fresh_13 : decode cX8_fresh 13 = .ok (.iload_n 1, 1) := by decide +kernel
theorem dX8_fresh_14 : decode cX8_fresh 14 = .ok (.putfield 7, 3) := by decide +kernel
theorem dX8_fresh_17 : decode cX8_fresh 17 = .ok (.iconst 1, 1) := by decide +kernel
theorem dX8_fresh_18 : decode cX8_fresh 18 = .ok (.ireturn, 1) := by decide +kernel
set_option maxRecDepth 20000 in
theorem ggX8_held_X8_isVat : GoodIn wsX8_held wsX8_isVat := goodIn_r _ [13, 14, 15, 16, 12, 17, 21, 22, 23, 24, 25, 26, 27, 28, 29, 30, 31, 32, 33, 34, 35, 36, 37, 38, 39, 40, 41, 42, 43, 44, 45, 46, 47, 48, 49, 50, 51, 52, 53, 54, 55, 56, 57, 58, 59, 60, 61, 62, 63, 64, 65, 66, 67, 68, 69, 70, 71, 72, 73, 74] (by decide +kernel) (by decide +kernel)
set_option maxRecDepth 20000 in
theorem gX8_held_X8_isVat : GoodIn wsX8_held (wsV RX8 199 RX8 yX8_isVat wsX8_isVat) := goodIn_app (goodIn_of _ (by decide +kernel)) ggX8_held_X8_isVat
set_option maxRecDepth 20000 in
theorem ggX8_held_X8_shared : GoodIn wsX8_held wsX8_shared := goodIn_r _ [20] (by decide +kernel) (by decide +kernel)
set_option maxRecDepth 20000 in
theorem gX8_held_X8_shared : GoodIn wsX8_held (va_wsS RX8 232 yX8_shared wsX8_shared) := goodIn_app (goodIn_of _ (by decide +kernel)) ggX8_held_X8_shared
theorem dX8_held_0 : decode cX8_held 0 = .ok (.aload_n 0, 1) := by decide +kernel
theorem dX8_held_1 : decode cX8_held 1 = .ok (.iload_n 1, 1) := by decide +kernel
theorem dX8_held_2 : decode cX8_held 2 = .ok (.invokevirtual 199, 3) := by decide +kernel
theorem dX8_held_5 : decode cX8_held 5 = .ok (.ifCond .ne 5, 3) := by decide +kernel
theorem dX8_held_8 : decode cX8_held 8 = .ok (.iconst (-1), 1) := by decide +kernel
theorem dX8_held_9 : decode cX8_held 9 = .ok (.ireturn, 1) := by decide +kernel
theorem dX8_held_10 : decode cX8_held 10 = .ok (.lconst 1, 1) := by decide +kernel
theorem dX8_held_11 : decode cX8_held 11 = .ok (.lstore_n 3, 1) := by decide +kernel
theorem dX8_held_12 : decode cX8_held 12 = .ok (.aload_n 0, 1) := by decide +kernel
theorem dX8_held_13 : decode cX8_held 13 = .ok (.getfield 112, 3) := by decide +kernel
theorem dX8_held_16 : decode cX8_held 16 = .ok (.iload_n 1, 1) := by decide +kernel
theorem dX8_held_17 : decode cX8_held 17 = .ok (.laload, 1) := by decide +kernel
theorem dX8_held_18 : decode cX8_held 18 = .ok (.lconst 0, 1) := by decide +kernel
theorem dX8_held_19 : decode cX8_held 19 = .ok (.lcmp, 1) := by decide +kernel
theorem dX8_held_20 : decode cX8_held 20 = .ok (.ifCond .le 19, 3) := by decide +kernel
theorem dX8_held_23 : decode cX8_held 23 = .ok (.aload_n 0, 1) := by decide +kernel
theorem dX8_held_24 : decode cX8_held 24 = .ok (.getfield 108, 3) := by decide +kernel
theorem dX8_held_27 : decode cX8_held 27 = .ok (.iload_n 1, 1) := by decide +kernel
theorem dX8_held_28 : decode cX8_held 28 = .ok (.laload, 1) := by decide +kernel
theorem dX8_held_29 : decode cX8_held 29 = .ok (.aload_n 0, 1) := by decide +kernel
theorem dX8_held_30 : decode cX8_held 30 = .ok (.getfield 112, 3) := by decide +kernel
theorem dX8_held_33 : decode cX8_held 33 = .ok (.iload_n 1, 1) := by decide +kernel
theorem dX8_held_34 : decode cX8_held 34 = .ok (.laload, 1) := by decide +kernel
theorem dX8_held_35 : decode cX8_held 35 = .ok (.invokestatic 232, 3) := by decide +kernel
theorem dX8_held_38 : decode cX8_held 38 = .ok (.lstore_n 3, 1) := by decide +kernel
theorem dX8_held_39 : decode cX8_held 39 = .ok (.iload_n 2, 1) := by decide +kernel
theorem dX8_held_40 : decode cX8_held 40 = .ok (.tableswitch 141 0 7 #[48, 55, 70, 77, 84, 91, 106, 116], 48) := by decide +kernel
theorem dX8_held_88 : decode cX8_held 88 = .ok (.aload_n 0, 1) := by decide +kernel
theorem dX8_held_89 : decode cX8_held 89 = .ok (.getfield 90, 3) := by decide +kernel
theorem dX8_held_92 : decode cX8_held 92 = .ok (.iload_n 1, 1) := by decide +kernel
theorem dX8_held_93 : decode cX8_held 93 = .ok (.iaload, 1) := by decide +kernel
theorem dX8_held_94 : decode cX8_held 94 = .ok (.ireturn, 1) := by decide +kernel
theorem dX8_held_95 : decode cX8_held 95 = .ok (.aload_n 0, 1) := by decide +kernel
theorem dX8_held_96 : decode cX8_held 96 = .ok (.getfield 93, 3) := by decide +kernel
theorem dX8_held_99 : decode cX8_held 99 = .ok (.iload_n 1, 1) := by decide +kernel
theorem dX8_held_100 : decode cX8_held 100 = .ok (.baload, 1) := by decide +kernel
theorem dX8_held_101 : decode cX8_held 101 = .ok (.ifCond .eq 7, 3) := by decide +kernel
theorem dX8_held_104 : decode cX8_held 104 = .ok (.iconst 1, 1) := by decide +kernel
theorem dX8_held_105 : decode cX8_held 105 = .ok (.goto 4, 3) := by decide +kernel
theorem dX8_held_108 : decode cX8_held 108 = .ok (.iconst 0, 1) := by decide +kernel
theorem dX8_held_109 : decode cX8_held 109 = .ok (.ireturn, 1) := by decide +kernel
theorem dX8_held_110 : decode cX8_held 110 = .ok (.aload_n 0, 1) := by decide +kernel
theorem dX8_held_111 : decode cX8_held 111 = .ok (.getfield 96, 3) := by decide +kernel
theorem dX8_held_114 : decode cX8_held 114 = .ok (.iload_n 1, 1) := by decide +kernel
theorem dX8_held_115 : decode cX8_held 115 = .ok (.iaload, 1) := by decide +kernel
theorem dX8_held_116 : decode cX8_held 116 = .ok (.ireturn, 1) := by decide +kernel
theorem dX8_held_117 : decode cX8_held 117 = .ok (.aload_n 0, 1) := by decide +kernel
theorem dX8_held_118 : decode cX8_held 118 = .ok (.getfield 99, 3) := by decide +kernel
theorem dX8_held_121 : decode cX8_held 121 = .ok (.iload_n 1, 1) := by decide +kernel
theorem dX8_held_122 : decode cX8_held 122 = .ok (.iaload, 1) := by decide +kernel
theorem dX8_held_123 : decode cX8_held 123 = .ok (.ireturn, 1) := by decide +kernel
theorem dX8_held_124 : decode cX8_held 124 = .ok (.aload_n 0, 1) := by decide +kernel
theorem dX8_held_125 : decode cX8_held 125 = .ok (.getfield 102, 3) := by decide +kernel
theorem dX8_held_128 : decode cX8_held 128 = .ok (.iload_n 1, 1) := by decide +kernel
theorem dX8_held_129 : decode cX8_held 129 = .ok (.iaload, 1) := by decide +kernel
theorem dX8_held_130 : decode cX8_held 130 = .ok (.ireturn, 1) := by decide +kernel
theorem dX8_held_131 : decode cX8_held 131 = .ok (.aload_n 0, 1) := by decide +kernel
theorem dX8_held_132 : decode cX8_held 132 = .ok (.getfield 105, 3) := by decide +kernel
theorem dX8_held_135 : decode cX8_held 135 = .ok (.iload_n 1, 1) := by decide +kernel
theorem dX8_held_136 : decode cX8_held 136 = .ok (.baload, 1) := by decide +kernel
theorem dX8_held_137 : decode cX8_held 137 = .ok (.ifCond .eq 7, 3) := by decide +kernel
theorem dX8_held_140 : decode cX8_held 140 = .ok (.iconst 1, 1) := by decide +kernel
theorem dX8_held_141 : decode cX8_held 141 = .ok (.goto 4, 3) := by decide +kernel
theorem dX8_held_144 : decode cX8_held 144 = .ok (.iconst 0, 1) := by decide +kernel
theorem dX8_held_145 : decode cX8_held 145 = .ok (.ireturn, 1) := by decide +kernel
theorem dX8_held_146 : decode cX8_held 146 = .ok (.aload_n 0, 1) := by decide +kernel
theorem dX8_held_147 : decode cX8_held 147 = .ok (.getfield 108, 3) := by decide +kernel
theorem dX8_held_150 : decode cX8_held 150 = .ok (.iload_n 1, 1) := by decide +kernel
theorem dX8_held_151 : decode cX8_held 151 = .ok (.laload, 1) := by decide +kernel
theorem dX8_held_152 : decode cX8_held 152 = .ok (.lload_n 3, 1) := by decide +kernel
theorem dX8_held_153 : decode cX8_held 153 = .ok (.ldiv, 1) := by decide +kernel
theorem dX8_held_154 : decode cX8_held 154 = .ok (.l2i, 1) := by decide +kernel
theorem dX8_held_155 : decode cX8_held 155 = .ok (.ireturn, 1) := by decide +kernel
theorem dX8_held_156 : decode cX8_held 156 = .ok (.aload_n 0, 1) := by decide +kernel
theorem dX8_held_157 : decode cX8_held 157 = .ok (.getfield 112, 3) := by decide +kernel
theorem dX8_held_160 : decode cX8_held 160 = .ok (.iload_n 1, 1) := by decide +kernel
theorem dX8_held_161 : decode cX8_held 161 = .ok (.laload, 1) := by decide +kernel
theorem dX8_held_162 : decode cX8_held 162 = .ok (.lconst 0, 1) := by decide +kernel
theorem dX8_held_163 : decode cX8_held 163 = .ok (.lcmp, 1) := by decide +kernel
theorem dX8_held_164 : decode cX8_held 164 = .ok (.ifCond .ne 7, 3) := by decide +kernel
theorem dX8_held_167 : decode cX8_held 167 = .ok (.iconst 1, 1) := by decide +kernel
theorem dX8_held_168 : decode cX8_held 168 = .ok (.goto 12, 3) := by decide +kernel
theorem dX8_held_171 : decode cX8_held 171 = .ok (.aload_n 0, 1) := by decide +kernel
theorem dX8_held_172 : decode cX8_held 172 = .ok (.getfield 112, 3) := by decide +kernel
theorem dX8_held_175 : decode cX8_held 175 = .ok (.iload_n 1, 1) := by decide +kernel
theorem dX8_held_176 : decode cX8_held 176 = .ok (.laload, 1) := by decide +kernel
theorem dX8_held_177 : decode cX8_held 177 = .ok (.lload_n 3, 1) := by decide +kernel
theorem dX8_held_178 : decode cX8_held 178 = .ok (.ldiv, 1) := by decide +kernel
theorem dX8_held_179 : decode cX8_held 179 = .ok (.l2i, 1) := by decide +kernel
theorem dX8_held_180 : decode cX8_held 180 = .ok (.ireturn, 1) := by decide +kernel
theorem dX8_held_181 : decode cX8_held 181 = .ok (.iconst (-1), 1) := by decide +kernel
theorem dX8_held_182 : decode cX8_held 182 = .ok (.ireturn, 1) := by decide +kernel
theorem dX8_shared_0 : decode cX8_shared 0 = .ok (.lload_n 0, 1) := by decide +kernel
theorem dX8_shared_1 : decode cX8_shared 1 = .ok (.lstore 4, 2) := by decide +kernel
theorem dX8_shared_3 : decode cX8_shared 3 = .ok (.lload_n 2, 1) := by decide +kernel
theorem dX8_shared_4 : decode cX8_shared 4 = .ok (.lstore 6, 2) := by decide +kernel
theorem dX8_shared_6 : decode cX8_shared 6 = .ok (.lload 6, 2) := by decide +kernel
theorem dX8_shared_8 : decode cX8_shared 8 = .ok (.lconst 0, 1) := by decide +kernel
theorem dX8_shared_9 : decode cX8_shared 9 = .ok (.lcmp, 1) := by decide +kernel
theorem dX8_shared_10 : decode cX8_shared 10 = .ok (.ifCond .eq 21, 3) := by decide +kernel
theorem dX8_shared_13 : decode cX8_shared 13 = .ok (.lload 4, 2) := by decide +kernel
theorem dX8_shared_15 : decode cX8_shared 15 = .ok (.lload 6, 2) := by decide +kernel
theorem dX8_shared_17 : decode cX8_shared 17 = .ok (.lrem, 1) := by decide +kernel
theorem dX8_shared_18 : decode cX8_shared 18 = .ok (.lstore 8, 2) := by decide +kernel
theorem dX8_shared_20 : decode cX8_shared 20 = .ok (.lload 6, 2) := by decide +kernel
theorem dX8_shared_22 : decode cX8_shared 22 = .ok (.lstore 4, 2) := by decide +kernel
theorem dX8_shared_24 : decode cX8_shared 24 = .ok (.lload 8, 2) := by decide +kernel
theorem dX8_shared_26 : decode cX8_shared 26 = .ok (.lstore 6, 2) := by decide +kernel
theorem dX8_shared_28 : decode cX8_shared 28 = .ok (.goto (-22), 3) := by decide +kernel
theorem dX8_shared_31 : decode cX8_shared 31 = .ok (.lload 4, 2) := by decide +kernel
theorem dX8_shared_33 : decode cX8_shared 33 = .ok (.lreturn, 1) := by decide +kernel
set_option maxRecDepth 20000 in
theorem ggX8_tries_X8_today : GoodIn wsX8_tries wsX8_today := goodIn_r _ [19, 1, 25, 26, 27, 28, 29, 30, 31, 32, 33, 34, 35, 36, 37, 38, 39, 40, 41, 42, 43, 44, 45, 46, 47, 48, 49, 50, 51, 52, 53, 54, 55, 56, 57, 58, 59, 60, 61, 62, 63, 64, 65, 66, 67, 68, 69, 70, 71, 72, 73, 74, 75, 76, 77, 78] (by decide +kernel) (by decide +kernel)
set_option maxRecDepth 20000 in
theorem gX8_tries_X8_today : GoodIn wsX8_tries (wsV RX8 143 RX8 yX8_today wsX8_today) := goodIn_app (goodIn_of _ (by decide +kernel)) ggX8_tries_X8_today
set_option maxRecDepth 20000 in
theorem ggX8_tries_X8_hours : GoodIn wsX8_tries wsX8_hours := goodIn_r _ [23, 24, 25, 26, 27, 28, 29, 30, 31, 32, 33, 34, 35, 36, 37, 38, 39, 40, 41, 42, 43, 44, 45, 46, 47, 48, 49, 50, 51, 52, 53, 54, 55, 56, 57, 58, 59, 60, 61, 62, 63, 64, 65, 66, 67, 68, 69, 70, 71, 72, 73, 74, 75, 76, 77, 78] (by decide +kernel) (by decide +kernel)
set_option maxRecDepth 20000 in
theorem gX8_tries_X8_hours : GoodIn wsX8_tries (wsV RX8 176 RX8 yX8_hours wsX8_hours) := goodIn_app (goodIn_of _ (by decide +kernel)) ggX8_tries_X8_hours
theorem dX8_tries_0 : decode cX8_tries 0 = .ok (.aload_n 0, 1) := by decide +kernel
theorem dX8_tries_1 : decode cX8_tries 1 = .ok (.getfield 127, 3) := by decide +kernel
theorem dX8_tries_4 : decode cX8_tries 4 = .ok (.aload_n 0, 1) := by decide +kernel
theorem dX8_tries_5 : decode cX8_tries 5 = .ok (.getfield 66, 3) := by decide +kernel
theorem dX8_tries_8 : decode cX8_tries 8 = .ok (.iload_n 1, 1) := by decide +kernel
theorem dX8_tries_9 : decode cX8_tries 9 = .ok (.iaload, 1) := by decide +kernel
theorem dX8_tries_10 : decode cX8_tries 10 = .ok (.if_icmp .le 10, 3) := by decide +kernel
theorem dX8_tries_13 : decode cX8_tries 13 = .ok (.aload_n 0, 1) := by decide +kernel
theorem dX8_tries_14 : decode cX8_tries 14 = .ok (.getfield 127, 3) := by decide +kernel
theorem dX8_tries_17 : decode cX8_tries 17 = .ok (.goto 9, 3) := by decide +kernel
theorem dX8_tries_20 : decode cX8_tries 20 = .ok (.aload_n 0, 1) := by decide +kernel
theorem dX8_tries_21 : decode cX8_tries 21 = .ok (.getfield 66, 3) := by decide +kernel
theorem dX8_tries_24 : decode cX8_tries 24 = .ok (.iload_n 1, 1) := by decide +kernel
theorem dX8_tries_25 : decode cX8_tries 25 = .ok (.iaload, 1) := by decide +kernel
theorem dX8_tries_26 : decode cX8_tries 26 = .ok (.istore_n 2, 1) := by decide +kernel
theorem dX8_tries_27 : decode cX8_tries 27 = .ok (.iconst 0, 1) := by decide +kernel
theorem dX8_tries_28 : decode cX8_tries 28 = .ok (.istore_n 3, 1) := by decide +kernel
theorem dX8_tries_29 : decode cX8_tries 29 = .ok (.iconst 0, 1) := by decide +kernel
theorem dX8_tries_30 : decode cX8_tries 30 = .ok (.istore 4, 2) := by decide +kernel
theorem dX8_tries_32 : decode cX8_tries 32 = .ok (.iload 4, 2) := by decide +kernel
theorem dX8_tries_34 : decode cX8_tries 34 = .ok (.aload_n 0, 1) := by decide +kernel
theorem dX8_tries_35 : decode cX8_tries 35 = .ok (.getfield 236, 3) := by decide +kernel
theorem dX8_tries_38 : decode cX8_tries 38 = .ok (.if_icmp .ge 206, 3) := by decide +kernel
theorem dX8_tries_41 : decode cX8_tries 41 = .ok (.aload_n 0, 1) := by decide +kernel
theorem dX8_tries_42 : decode cX8_tries 42 = .ok (.getfield 124, 3) := by decide +kernel
theorem dX8_tries_45 : decode cX8_tries 45 = .ok (.iload 4, 2) := by decide +kernel
theorem dX8_tries_47 : decode cX8_tries 47 = .ok (.iaload, 1) := by decide +kernel
theorem dX8_tries_48 : decode cX8_tries 48 = .ok (.istore 5, 2) := by decide +kernel
theorem dX8_tries_50 : decode cX8_tries 50 = .ok (.aload_n 0, 1) := by decide +kernel
theorem dX8_tries_51 : decode cX8_tries 51 = .ok (.getfield 26, 3) := by decide +kernel
theorem dX8_tries_54 : decode cX8_tries 54 = .ok (.iload 5, 2) := by decide +kernel
theorem dX8_tries_56 : decode cX8_tries 56 = .ok (.iaload, 1) := by decide +kernel
theorem dX8_tries_57 : decode cX8_tries 57 = .ok (.iconst 2, 1) := by decide +kernel
theorem dX8_tries_58 : decode cX8_tries 58 = .ok (.if_icmp .ne 107, 3) := by decide +kernel
theorem dX8_tries_61 : decode cX8_tries 61 = .ok (.aload_n 0, 1) := by decide +kernel
theorem dX8_tries_62 : decode cX8_tries 62 = .ok (.getfield 23, 3) := by decide +kernel
theorem dX8_tries_65 : decode cX8_tries 65 = .ok (.aload_n 0, 1) := by decide +kernel
theorem dX8_tries_66 : decode cX8_tries 66 = .ok (.getfield 29, 3) := by decide +kernel
theorem dX8_tries_69 : decode cX8_tries 69 = .ok (.iload 5, 2) := by decide +kernel
theorem dX8_tries_71 : decode cX8_tries 71 = .ok (.iaload, 1) := by decide +kernel
theorem dX8_tries_72 : decode cX8_tries 72 = .ok (.iaload, 1) := by decide +kernel
theorem dX8_tries_73 : decode cX8_tries 73 = .ok (.istore 6, 2) := by decide +kernel
theorem dX8_tries_75 : decode cX8_tries 75 = .ok (.iload 4, 2) := by decide +kernel
theorem dX8_tries_77 : decode cX8_tries 77 = .ok (.ifCond .ne 31, 3) := by decide +kernel
theorem dX8_tries_80 : decode cX8_tries 80 = .ok (.aload_n 0, 1) := by decide +kernel
theorem dX8_tries_81 : decode cX8_tries 81 = .ok (.getfield 78, 3) := by decide +kernel
theorem dX8_tries_84 : decode cX8_tries 84 = .ok (.iload_n 1, 1) := by decide +kernel
theorem dX8_tries_85 : decode cX8_tries 85 = .ok (.baload, 1) := by decide +kernel
theorem dX8_tries_86 : decode cX8_tries 86 = .ok (.ifCond .ne 14, 3) := by decide +kernel
theorem dX8_tries_89 : decode cX8_tries 89 = .ok (.aload_n 0, 1) := by decide +kernel
theorem dX8_tries_90 : decode cX8_tries 90 = .ok (.getfield 81, 3) := by decide +kernel
theorem dX8_tries_93 : decode cX8_tries 93 = .ok (.iload_n 1, 1) := by decide +kernel
theorem dX8_tries_94 : decode cX8_tries 94 = .ok (.iaload, 1) := by decide +kernel
theorem dX8_tries_95 : decode cX8_tries 95 = .ok (.iload 6, 2) := by decide +kernel
theorem dX8_tries_97 : decode cX8_tries 97 = .ok (.if_icmp .ne 7, 3) := by decide +kernel
theorem dX8_tries_100 : decode cX8_tries 100 = .ok (.iconst 1, 1) := by decide +kernel
theorem dX8_tries_101 : decode cX8_tries 101 = .ok (.goto 54, 3) := by decide +kernel
theorem dX8_tries_104 : decode cX8_tries 104 = .ok (.iconst 0, 1) := by decide +kernel
theorem dX8_tries_105 : decode cX8_tries 105 = .ok (.goto 50, 3) := by decide +kernel
theorem dX8_tries_108 : decode cX8_tries 108 = .ok (.aload_n 0, 1) := by decide +kernel
theorem dX8_tries_109 : decode cX8_tries 109 = .ok (.getfield 26, 3) := by decide +kernel
theorem dX8_tries_112 : decode cX8_tries 112 = .ok (.aload_n 0, 1) := by decide +kernel
theorem dX8_tries_113 : decode cX8_tries 113 = .ok (.getfield 124, 3) := by decide +kernel
theorem dX8_tries_116 : decode cX8_tries 116 = .ok (.iload 4, 2) := by decide +kernel
theorem dX8_tries_118 : decode cX8_tries 118 = .ok (.iconst 1, 1) := by decide +kernel
theorem dX8_tries_119 : decode cX8_tries 119 = .ok (.isub, 1) := by decide +kernel
theorem dX8_tries_120 : decode cX8_tries 120 = .ok (.iaload, 1) := by decide +kernel
theorem dX8_tries_121 : decode cX8_tries 121 = .ok (.iaload, 1) := by decide +kernel
theorem dX8_tries_122 : decode cX8_tries 122 = .ok (.iconst 2, 1) := by decide +kernel
theorem dX8_tries_123 : decode cX8_tries 123 = .ok (.if_icmp .ne 31, 3) := by decide +kernel
theorem dX8_tries_126 : decode cX8_tries 126 = .ok (.aload_n 0, 1) := by decide +kernel
theorem dX8_tries_127 : decode cX8_tries 127 = .ok (.getfield 23, 3) := by decide +kernel
theorem dX8_tries_130 : decode cX8_tries 130 = .ok (.aload_n 0, 1) := by decide +kernel
theorem dX8_tries_131 : decode cX8_tries 131 = .ok (.getfield 29, 3) := by decide +kernel
theorem dX8_tries_134 : decode cX8_tries 134 = .ok (.aload_n 0, 1) := by decide +kernel
theorem dX8_tries_135 : decode cX8_tries 135 = .ok (.getfield 124, 3) := by decide +kernel
theorem dX8_tries_138 : decode cX8_tries 138 = .ok (.iload 4, 2) := by decide +kernel
theorem dX8_tries_140 : decode cX8_tries 140 = .ok (.iconst 1, 1) := by decide +kernel
theorem dX8_tries_141 : decode cX8_tries 141 = .ok (.isub, 1) := by decide +kernel
theorem dX8_tries_142 : decode cX8_tries 142 = .ok (.iaload, 1) := by decide +kernel
theorem dX8_tries_143 : decode cX8_tries 143 = .ok (.iaload, 1) := by decide +kernel
theorem dX8_tries_144 : decode cX8_tries 144 = .ok (.iaload, 1) := by decide +kernel
theorem dX8_tries_145 : decode cX8_tries 145 = .ok (.iload 6, 2) := by decide +kernel
theorem dX8_tries_147 : decode cX8_tries 147 = .ok (.if_icmp .ne 7, 3) := by decide +kernel
theorem dX8_tries_150 : decode cX8_tries 150 = .ok (.iconst 1, 1) := by decide +kernel
theorem dX8_tries_151 : decode cX8_tries 151 = .ok (.goto 4, 3) := by decide +kernel
theorem dX8_tries_154 : decode cX8_tries 154 = .ok (.iconst 0, 1) := by decide +kernel
theorem dX8_tries_155 : decode cX8_tries 155 = .ok (.istore 7, 2) := by decide +kernel
theorem dX8_tries_157 : decode cX8_tries 157 = .ok (.iload 7, 2) := by decide +kernel
theorem dX8_tries_159 : decode cX8_tries 159 = .ok (.ifCond .ne 6, 3) := by decide +kernel
theorem dX8_tries_162 : decode cX8_tries 162 = .ok (.iinc 2 2, 3) := by decide +kernel
theorem dX8_tries_165 : decode cX8_tries 165 = .ok (.aload_n 0, 1) := by decide +kernel
theorem dX8_tries_166 : decode cX8_tries 166 = .ok (.getfield 32, 3) := by decide +kernel
theorem dX8_tries_169 : decode cX8_tries 169 = .ok (.iload 5, 2) := by decide +kernel
theorem dX8_tries_171 : decode cX8_tries 171 = .ok (.iaload, 1) := by decide +kernel
theorem dX8_tries_172 : decode cX8_tries 172 = .ok (.aload_n 0, 1) := by decide +kernel
theorem dX8_tries_173 : decode cX8_tries 173 = .ok (.getfield 7, 3) := by decide +kernel
theorem dX8_tries_176 : decode cX8_tries 176 = .ok (.iadd, 1) := by decide +kernel
theorem dX8_tries_177 : decode cX8_tries 177 = .ok (.iconst 1, 1) := by decide +kernel
theorem dX8_tries_178 : decode cX8_tries 178 = .ok (.iadd, 1) := by decide +kernel
theorem dX8_tries_179 : decode cX8_tries 179 = .ok (.istore 6, 2) := by decide +kernel
