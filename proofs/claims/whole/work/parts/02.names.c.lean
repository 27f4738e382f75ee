theorem dX3_begin_139 : decode cX3_begin 139 = .ok (.iconst (-1), 1) := by decide +kernel
theorem dX3_begin_140 : decode cX3_begin 140 = .ok (.putfield 38, 3) := by decide +kernel
theorem dX3_begin_143 : decode cX3_begin 143 = .ok (.aload_n 0, 1) := by decide +kernel
theorem dX3_begin_144 : decode cX3_begin 144 = .ok (.iconst 0, 1) := by decide +kernel
theorem dX3_begin_145 : decode cX3_begin 145 = .ok (.putfield 34, 3) := by decide +kernel
theorem dX3_begin_148 : decode cX3_begin 148 = .ok (.aload_n 0, 1) := by decide +kernel
theorem dX3_begin_149 : decode cX3_begin 149 = .ok (.iconst 1, 1) := by decide +kernel
theorem dX3_begin_150 : decode cX3_begin 150 = .ok (.putfield 41, 3) := by decide +kernel
theorem dX3_begin_153 : decode cX3_begin 153 = .ok (.aload_n 0, 1) := by decide +kernel
theorem dX3_begin_154 : decode cX3_begin 154 = .ok (.iload_n 1, 1) := by decide +kernel
theorem dX3_begin_155 : decode cX3_begin 155 = .ok (.iload_n 3, 1) := by decide +kernel
theorem dX3_begin_156 : decode cX3_begin 156 = .ok (.iadd, 1) := by decide +kernel
theorem dX3_begin_157 : decode cX3_begin 157 = .ok (.putfield 31, 3) := by decide +kernel
theorem dX3_begin_160 : decode cX3_begin 160 = .ok (.iload_n 3, 1) := by decide +kernel
theorem dX3_begin_161 : decode cX3_begin 161 = .ok (.ireturn, 1) := by decide +kernel
set_option maxRecDepth 20000 in
theorem ggX3_divide_X2_oil : GoodIn wsX3_divide wsX2_oil := goodIn_r _ [13, 14, 15, 37, 38, 39, 40, 41, 42, 43, 44, 45, 46, 47, 48] (by decide +kernel) (by decide +kernel)
set_option maxRecDepth 20000 in
theorem gX3_divide_X2_oil : GoodIn wsX3_divide (wsV RX3 102 RX2 yX2_oil wsX2_oil) := goodIn_app (goodIn_of _ (by decide +kernel)) ggX3_divide_X2_oil
set_option maxRecDepth 20000 in
theorem ggX3_divide_X3_giveOneOver : GoodIn wsX3_divide wsX3_giveOneOver := goodIn_r _ [20, 4, 5, 21, 8, 6, 22, 23, 24, 25, 26, 27, 28, 29, 30, 31, 32, 33, 34, 35, 36, 37, 38, 39, 40, 41, 42, 43, 44, 45, 46, 47, 48] (by decide +kernel) (by decide +kernel)
set_option maxRecDepth 20000 in
theorem gX3_divide_X3_giveOneOver : GoodIn wsX3_divide (wsV RX3 117 RX3 yX3_giveOneOver wsX3_giveOneOver) := goodIn_app (goodIn_of _ (by decide +kernel)) ggX3_divide_X3_giveOneOver
theorem dX3_divide_0 : decode cX3_divide 0 = .ok (.aload_n 0, 1) := by decide +kernel
theorem dX3_divide_1 : decode cX3_divide 1 = .ok (.aload_n 0, 1) := by decide +kernel
theorem dX3_divide_2 : decode cX3_divide 2 = .ok (.getfield 50, 3) := by decide +kernel
theorem dX3_divide_5 : decode cX3_divide 5 = .ok (.i2l, 1) := by decide +kernel
theorem dX3_divide_6 : decode cX3_divide 6 = .ok (.iload_n 1, 1) := by decide +kernel
theorem dX3_divide_7 : decode cX3_divide 7 = .ok (.i2l, 1) := by decide +kernel
theorem dX3_divide_8 : decode cX3_divide 8 = .ok (.lmul, 1) := by decide +kernel
theorem dX3_divide_9 : decode cX3_divide 9 = .ok (.ldc2_w 112, 3) := by decide +kernel
theorem dX3_divide_12 : decode cX3_divide 12 = .ok (.ldiv, 1) := by decide +kernel
theorem dX3_divide_13 : decode cX3_divide 13 = .ok (.l2i, 1) := by decide +kernel
theorem dX3_divide_14 : decode cX3_divide 14 = .ok (.putfield 53, 3) := by decide +kernel
theorem dX3_divide_17 : decode cX3_divide 17 = .ok (.aload_n 0, 1) := by decide +kernel
theorem dX3_divide_18 : decode cX3_divide 18 = .ok (.getfield 50, 3) := by decide +kernel
theorem dX3_divide_21 : decode cX3_divide 21 = .ok (.aload_n 0, 1) := by decide +kernel
theorem dX3_divide_22 : decode cX3_divide 22 = .ok (.getfield 53, 3) := by decide +kernel
theorem dX3_divide_25 : decode cX3_divide 25 = .ok (.isub, 1) := by decide +kernel
theorem dX3_divide_26 : decode cX3_divide 26 = .ok (.istore_n 2, 1) := by decide +kernel
theorem dX3_divide_27 : decode cX3_divide 27 = .ok (.iload_n 2, 1) := by decide +kernel
theorem dX3_divide_28 : decode cX3_divide 28 = .ok (.istore_n 3, 1) := by decide +kernel
theorem dX3_divide_29 : decode cX3_divide 29 = .ok (.lconst 0, 1) := by decide +kernel
theorem dX3_divide_30 : decode cX3_divide 30 = .ok (.lstore 4, 2) := by decide +kernel
theorem dX3_divide_32 : decode cX3_divide 32 = .ok (.iconst 0, 1) := by decide +kernel
theorem dX3_divide_33 : decode cX3_divide 33 = .ok (.istore 6, 2) := by decide +kernel
theorem dX3_divide_35 : decode cX3_divide 35 = .ok (.iload 6, 2) := by decide +kernel
theorem dX3_divide_37 : decode cX3_divide 37 = .ok (.aload_n 0, 1) := by decide +kernel
theorem dX3_divide_38 : decode cX3_divide 38 = .ok (.getfield 21, 3) := by decide +kernel
theorem dX3_divide_41 : decode cX3_divide 41 = .ok (.if_icmp .ge 24, 3) := by decide +kernel
theorem dX3_divide_44 : decode cX3_divide 44 = .ok (.lload 4, 2) := by decide +kernel
theorem dX3_divide_46 : decode cX3_divide 46 = .ok (.aload_n 0, 1) := by decide +kernel
theorem dX3_divide_47 : decode cX3_divide 47 = .ok (.getfield 11, 3) := by decide +kernel
theorem dX3_divide_50 : decode cX3_divide 50 = .ok (.iload 6, 2) := by decide +kernel
theorem dX3_divide_52 : decode cX3_divide 52 = .ok (.aaload, 1) := by decide +kernel
theorem dX3_divide_53 : decode cX3_divide 53 = .ok (.invokevirtual 102, 3) := by decide +kernel
theorem dX3_divide_56 : decode cX3_divide 56 = .ok (.ladd, 1) := by decide +kernel
theorem dX3_divide_57 : decode cX3_divide 57 = .ok (.lstore 4, 2) := by decide +kernel
theorem dX3_divide_59 : decode cX3_divide 59 = .ok (.iinc 6 1, 3) := by decide +kernel
theorem dX3_divide_62 : decode cX3_divide 62 = .ok (.goto (-27), 3) := by decide +kernel
theorem dX3_divide_65 : decode cX3_divide 65 = .ok (.iconst 0, 1) := by decide +kernel
theorem dX3_divide_66 : decode cX3_divide 66 = .ok (.istore 6, 2) := by decide +kernel
theorem dX3_divide_68 : decode cX3_divide 68 = .ok (.iload 6, 2) := by decide +kernel
theorem dX3_divide_70 : decode cX3_divide 70 = .ok (.aload_n 0, 1) := by decide +kernel
theorem dX3_divide_71 : decode cX3_divide 71 = .ok (.getfield 21, 3) := by decide +kernel
theorem dX3_divide_74 : decode cX3_divide 74 = .ok (.if_icmp .ge 83, 3) := by decide +kernel
theorem dX3_divide_77 : decode cX3_divide 77 = .ok (.lload 4, 2) := by decide +kernel
theorem dX3_divide_79 : decode cX3_divide 79 = .ok (.lconst 0, 1) := by decide +kernel
theorem dX3_divide_80 : decode cX3_divide 80 = .ok (.lcmp, 1) := by decide +kernel
theorem dX3_divide_81 : decode cX3_divide 81 = .ok (.ifCond .le 76, 3) := by decide +kernel
theorem dX3_divide_84 : decode cX3_divide 84 = .ok (.iload_n 2, 1) := by decide +kernel
theorem dX3_divide_85 : decode cX3_divide 85 = .ok (.i2l, 1) := by decide +kernel
theorem dX3_divide_86 : decode cX3_divide 86 = .ok (.aload_n 0, 1) := by decide +kernel
theorem dX3_divide_87 : decode cX3_divide 87 = .ok (.getfield 11, 3) := by decide +kernel
theorem dX3_divide_90 : decode cX3_divide 90 = .ok (.iload 6, 2) := by decide +kernel
theorem dX3_divide_92 : decode cX3_divide 92 = .ok (.aaload, 1) := by decide +kernel
theorem dX3_divide_93 : decode cX3_divide 93 = .ok (.invokevirtual 102, 3) := by decide +kernel
theorem dX3_divide_96 : decode cX3_divide 96 = .ok (.lmul, 1) := by decide +kernel
theorem dX3_divide_97 : decode cX3_divide 97 = .ok (.lstore 7, 2) := by decide +kernel
theorem dX3_divide_99 : decode cX3_divide 99 = .ok (.aload_n 0, 1) := by decide +kernel
theorem dX3_divide_100 : decode cX3_divide 100 = .ok (.getfield 11, 3) := by decide +kernel
theorem dX3_divide_103 : decode cX3_divide 103 = .ok (.iload 6, 2) := by decide +kernel
theorem dX3_divide_105 : decode cX3_divide 105 = .ok (.aaload, 1) := by decide +kernel
theorem dX3_divide_106 : decode cX3_divide 106 = .ok (.lload 7, 2) := by decide +kernel
theorem dX3_divide_108 : decode cX3_divide 108 = .ok (.lload 4, 2) := by decide +kernel
theorem dX3_divide_110 : decode cX3_divide 110 = .ok (.ldiv, 1) := by decide +kernel
theorem dX3_divide_111 : decode cX3_divide 111 = .ok (.l2i, 1) := by decide +kernel
theorem dX3_divide_112 : decode cX3_divide 112 = .ok (.putfield 114, 3) := by decide +kernel
theorem dX3_divide_115 : decode cX3_divide 115 = .ok (.aload_n 0, 1) := by decide +kernel
theorem dX3_divide_116 : decode cX3_divide 116 = .ok (.getfield 11, 3) := by decide +kernel
theorem dX3_divide_119 : decode cX3_divide 119 = .ok (.iload 6, 2) := by decide +kernel
theorem dX3_divide_121 : decode cX3_divide 121 = .ok (.aaload, 1) := by decide +kernel
theorem dX3_divide_122 : decode cX3_divide 122 = .ok (.iconst 5, 1) := by decide +kernel
theorem dX3_divide_123 : decode cX3_divide 123 = .ok (.putfield 80, 3) := by decide +kernel
theorem dX3_divide_126 : decode cX3_divide 126 = .ok (.aload_n 0, 1) := by decide +kernel
theorem dX3_divide_127 : decode cX3_divide 127 = .ok (.getfield 17, 3) := by decide +kernel
theorem dX3_divide_130 : decode cX3_divide 130 = .ok (.iload 6, 2) := by decide +kernel
theorem dX3_divide_132 : decode cX3_divide 132 = .ok (.lload 7, 2) := by decide +kernel
theorem dX3_divide_134 : decode cX3_divide 134 = .ok (.lload 4, 2) := by decide +kernel
theorem dX3_divide_136 : decode cX3_divide 136 = .ok (.lrem, 1) := by decide +kernel
theorem dX3_divide_137 : decode cX3_divide 137 = .ok (.lastore, 1) := by decide +kernel
theorem dX3_divide_138 : decode cX3_divide 138 = .ok (.iload_n 3, 1) := by decide +kernel
theorem dX3_divide_139 : decode cX3_divide 139 = .ok (.aload_n 0, 1) := by decide +kernel
theorem dX3_divide_140 : decode cX3_divide 140 = .ok (.getfield 11, 3) := by decide +kernel
theorem dX3_divide_143 : decode cX3_divide 143 = .ok (.iload 6, 2) := by decide +kernel
theorem dX3_divide_145 : decode cX3_divide 145 = .ok (.aaload, 1) := by decide +kernel
theorem dX3_divide_146 : decode cX3_divide 146 = .ok (.getfield 114, 3) := by decide +kernel
theorem dX3_divide_149 : decode cX3_divide 149 = .ok (.isub, 1) := by decide +kernel
theorem dX3_divide_150 : decode cX3_divide 150 = .ok (.istore_n 3, 1) := by decide +kernel
theorem dX3_divide_151 : decode cX3_divide 151 = .ok (.iinc 6 1, 3) := by decide +kernel
theorem dX3_divide_154 : decode cX3_divide 154 = .ok (.goto (-86), 3) := by decide +kernel
theorem dX3_divide_157 : decode cX3_divide 157 = .ok (.iconst 0, 1) := by decide +kernel
theorem dX3_divide_158 : decode cX3_divide 158 = .ok (.istore 6, 2) := by decide +kernel
theorem dX3_divide_160 : decode cX3_divide 160 = .ok (.iload 6, 2) := by decide +kernel
theorem dX3_divide_162 : decode cX3_divide 162 = .ok (.aload_n 0, 1) := by decide +kernel
theorem dX3_divide_163 : decode cX3_divide 163 = .ok (.getfield 21, 3) := by decide +kernel
theorem dX3_divide_166 : decode cX3_divide 166 = .ok (.if_icmp .ge 20, 3) := by decide +kernel
theorem dX3_divide_169 : decode cX3_divide 169 = .ok (.iload_n 3, 1) := by decide +kernel
theorem dX3_divide_170 : decode cX3_divide 170 = .ok (.ifCond .le 16, 3) := by decide +kernel
theorem dX3_divide_173 : decode cX3_divide 173 = .ok (.aload_n 0, 1) := by decide +kernel
theorem dX3_divide_174 : decode cX3_divide 174 = .ok (.invokevirtual 117, 3) := by decide +kernel
theorem dX3_divide_177 : decode cX3_divide 177 = .ok (.iinc 3 (-1), 3) := by decide +kernel
theorem dX3_divide_180 : decode cX3_divide 180 = .ok (.iinc 6 1, 3) := by decide +kernel
theorem dX3_divide_183 : decode cX3_divide 183 = .ok (.goto (-23), 3) := by decide +kernel
theorem dX3_divide_186 : decode cX3_divide 186 = .ok (.return_, 1) := by decide +kernel
theorem dX3_giveOneOver_0 : decode cX3_giveOneOver 0 = .ok (.iconst 0, 1) := by decide +kernel
theorem dX3_giveOneOver_1 : decode cX3_giveOneOver 1 = .ok (.istore_n 1, 1) := by decide +kernel
theorem dX3_giveOneOver_2 : decode cX3_giveOneOver 2 = .ok (.iconst 1, 1) := by decide +kernel
theorem dX3_giveOneOver_3 : decode cX3_giveOneOver 3 = .ok (.istore_n 2, 1) := by decide +kernel
theorem dX3_giveOneOver_4 : decode cX3_giveOneOver 4 = .ok (.iload_n 2, 1) := by decide +kernel
theorem dX3_giveOneOver_5 : decode cX3_giveOneOver 5 = .ok (.aload_n 0, 1) := by decide +kernel
theorem dX3_giveOneOver_6 : decode cX3_giveOneOver 6 = .ok (.getfield 21, 3) := by decide +kernel
theorem dX3_giveOneOver_9 : decode cX3_giveOneOver 9 = .ok (.if_icmp .ge 74, 3) := by decide +kernel
theorem dX3_giveOneOver_12 : decode cX3_giveOneOver 12 = .ok (.aload_n 0, 1) := by decide +kernel
theorem dX3_giveOneOver_13 : decode cX3_giveOneOver 13 = .ok (.getfield 11, 3) := by decide +kernel
theorem dX3_giveOneOver_16 : decode cX3_giveOneOver 16 = .ok (.iload_n 2, 1) := by decide +kernel
theorem dX3_giveOneOver_17 : decode cX3_giveOneOver 17 = .ok (.aaload, 1) := by decide +kernel
theorem dX3_giveOneOver_18 : decode cX3_giveOneOver 18 = .ok (.getfield 120, 3) := by decide +kernel
theorem dX3_giveOneOver_21 : decode cX3_giveOneOver 21 = .ok (.aload_n 0, 1) := by decide +kernel
theorem dX3_giveOneOver_22 : decode cX3_giveOneOver 22 = .ok (.getfield 11, 3) := by decide +kernel
theorem dX3_giveOneOver_25 : decode cX3_giveOneOver 25 = .ok (.iload_n 1, 1) := by decide +kernel
theorem dX3_giveOneOver_26 : decode cX3_giveOneOver 26 = .ok (.aaload, 1) := by decide +kernel
theorem dX3_giveOneOver_27 : decode cX3_giveOneOver 27 = .ok (.getfield 120, 3) := by decide +kernel
theorem dX3_giveOneOver_30 : decode cX3_giveOneOver 30 = .ok (.if_icmp .ge 7, 3) := by decide +kernel
theorem dX3_giveOneOver_33 : decode cX3_giveOneOver 33 = .ok (.iconst 1, 1) := by decide +kernel
theorem dX3_giveOneOver_34 : decode cX3_giveOneOver 34 = .ok (.goto 4, 3) := by decide +kernel
theorem dX3_giveOneOver_37 : decode cX3_giveOneOver 37 = .ok (.iconst 0, 1) := by decide +kernel
theorem dX3_giveOneOver_38 : decode cX3_giveOneOver 38 = .ok (.istore_n 3, 1) := by decide +kernel
theorem dX3_giveOneOver_39 : decode cX3_giveOneOver 39 = .ok (.aload_n 0, 1) := by decide +kernel
theorem dX3_giveOneOver_40 : decode cX3_giveOneOver 40 = .ok (.getfield 17, 3) := by decide +kernel
theorem dX3_giveOneOver_43 : decode cX3_giveOneOver 43 = .ok (.iload_n 2, 1) := by decide +kernel
theorem dX3_giveOneOver_44 : decode cX3_giveOneOver 44 = .ok (.laload, 1) := by decide +kernel
theorem dX3_giveOneOver_45 : decode cX3_giveOneOver 45 = .ok (.aload_n 0, 1) := by decide +kernel
theorem dX3_giveOneOver_46 : decode cX3_giveOneOver 46 = .ok (.getfield 17, 3) := by decide +kernel
theorem dX3_giveOneOver_49 : decode cX3_giveOneOver 49 = .ok (.iload_n 1, 1) := by decide +kernel
theorem dX3_giveOneOver_50 : decode cX3_giveOneOver 50 = .ok (.laload, 1) := by decide +kernel
theorem dX3_giveOneOver_51 : decode cX3_giveOneOver 51 = .ok (.lcmp, 1) := by decide +kernel
theorem dX3_giveOneOver_52 : decode cX3_giveOneOver 52 = .ok (.ifCond .gt 23, 3) := by decide +kernel
theorem dX3_giveOneOver_55 : decode cX3_giveOneOver 55 = .ok (.aload_n 0, 1) := by decide +kernel
theorem dX3_giveOneOver_56 : decode cX3_giveOneOver 56 = .ok (.getfield 17, 3) := by decide +kernel
theorem dX3_giveOneOver_59 : decode cX3_giveOneOver 59 = .ok (.iload_n 2, 1) := by decide +kernel
theorem dX3_giveOneOver_60 : decode cX3_giveOneOver 60 = .ok (.laload, 1) := by decide +kernel
theorem dX3_giveOneOver_61 : decode cX3_giveOneOver 61 = .ok (.aload_n 0, 1) := by decide +kernel
theorem dX3_giveOneOver_62 : decode cX3_giveOneOver 62 = .ok (.getfield 17, 3) := by decide +kernel
theorem dX3_giveOneOver_65 : decode cX3_giveOneOver 65 = .ok (.iload_n 1, 1) := by decide +kernel
theorem dX3_giveOneOver_66 : decode cX3_giveOneOver 66 = .ok (.laload, 1) := by decide +kernel
theorem dX3_giveOneOver_67 : decode cX3_giveOneOver 67 = .ok (.lcmp, 1) := by decide +kernel
theorem dX3_giveOneOver_68 : decode cX3_giveOneOver 68 = .ok (.ifCond .ne 9, 3) := by decide +kernel
theorem dX3_giveOneOver_71 : decode cX3_giveOneOver 71 = .ok (.iload_n 3, 1) := by decide +kernel
theorem dX3_giveOneOver_72 : decode cX3_giveOneOver 72 = .ok (.ifCond .eq 5, 3) := by decide +kernel
theorem dX3_giveOneOver_75 : decode cX3_giveOneOver 75 = .ok (.iload_n 2, 1) := by decide +kernel
theorem dX3_giveOneOver_76 : decode cX3_giveOneOver 76 = .ok (.istore_n 1, 1) := by decide +kernel
theorem dX3_giveOneOver_77 : decode cX3_giveOneOver 77 = .ok (.iinc 2 1, 3) := by decide +kernel
theorem dX3_giveOneOver_80 : decode cX3_giveOneOver 80 = .ok (.goto (-76), 3) := by decide +kernel
theorem dX3_giveOneOver_83 : decode cX3_giveOneOver 83 = .ok (.aload_n 0, 1) := by decide +kernel
theorem dX3_giveOneOver_84 : decode cX3_giveOneOver 84 = .ok (.getfield 21, 3) := by decide +kernel
theorem dX3_giveOneOver_87 : decode cX3_giveOneOver 87 = .ok (.ifCond .le 27, 3) := by decide +kernel
theorem dX3_giveOneOver_90 : decode cX3_giveOneOver 90 = .ok (.aload_n 0, 1) := by decide +kernel
theorem dX3_giveOneOver_91 : decode cX3_giveOneOver 91 = .ok (.getfield 11, 3) := by decide +kernel
theorem dX3_giveOneOver_94 : decode cX3_giveOneOver 94 = .ok (.iload_n 1, 1) := by decide +kernel
theorem dX3_giveOneOver_95 : decode cX3_giveOneOver 95 = .ok (.aaload, 1) := by decide +kernel
theorem dX3_giveOneOver_96 : decode cX3_giveOneOver 96 = .ok (.dup, 1) := by decide +kernel
theorem dX3_giveOneOver_97 : decode cX3_giveOneOver 97 = .ok (.getfield 114, 3) := by decide +kernel
theorem dX3_giveOneOver_100 : decode cX3_giveOneOver 100 = .ok (.iconst 1, 1) := by decide +kernel
theorem dX3_giveOneOver_101 : decode cX3_giveOneOver 101 = .ok (.iadd, 1) := by decide +kernel
theorem dX3_giveOneOver_102 : decode cX3_giveOneOver 102 = .ok (.putfield 114, 3) := by decide +kernel
theorem dX3_giveOneOver_105 : decode cX3_giveOneOver 105 = .ok (.aload_n 0, 1) := by decide +kernel
theorem dX3_giveOneOver_106 : decode cX3_giveOneOver 106 = .ok (.getfield 17, 3) := by decide +kernel
theorem dX3_giveOneOver_109 : decode cX3_giveOneOver 109 = .ok (.iload_n 1, 1) := by decide +kernel
theorem dX3_giveOneOver_110 : decode cX3_giveOneOver 110 = .ok (.ldc2_w 121, 3) := by decide +kernel
theorem dX3_giveOneOver_113 : decode cX3_giveOneOver 113 = .ok (.lastore, 1) := by decide +kernel
theorem dX3_giveOneOver_114 : decode cX3_giveOneOver 114 = .ok (.return_, 1) := by decide +kernel
theorem dX3_emptyTo_0 : decode cX3_emptyTo 0 = .ok (.iconst 0, 1) := by decide +kernel
theorem dX3_emptyTo_1 : decode cX3_emptyTo 1 = .ok (.istore_n 2, 1) := by decide +kernel
theorem dX3_emptyTo_2 : decode cX3_emptyTo 2 = .ok (.iload_n 2, 1) := by decide +kernel
theorem dX3_emptyTo_3 : decode cX3_emptyTo 3 = .ok (.aload_n 0, 1) := by decide +kernel
theorem dX3_emptyTo_4 : decode cX3_emptyTo 4 = .ok (.getfield 21, 3) := by decide +kernel
theorem dX3_emptyTo_7 : decode cX3_emptyTo 7 = .ok (.if_icmp .ge 48, 3) := by decide +kernel
theorem dX3_emptyTo_10 : decode cX3_emptyTo 10 = .ok (.aload_n 0, 1) := by decide +kernel
theorem dX3_emptyTo_11 : decode cX3_emptyTo 11 = .ok (.getfield 11, 3) := by decide +kernel
theorem dX3_emptyTo_14 : decode cX3_emptyTo 14 = .ok (.iload_n 2, 1) := by decide +kernel
theorem dX3_emptyTo_15 : decode cX3_emptyTo 15 = .ok (.aaload, 1) := by decide +kernel
theorem dX3_emptyTo_16 : decode cX3_emptyTo 16 = .ok (.bipush 6, 2) := by decide +kernel
theorem dX3_emptyTo_18 : decode cX3_emptyTo 18 = .ok (.putfield 80, 3) := by decide +kernel
theorem dX3_emptyTo_21 : decode cX3_emptyTo 21 = .ok (.aload_n 0, 1) := by decide +kernel
theorem dX3_emptyTo_22 : decode cX3_emptyTo 22 = .ok (.getfield 11, 3) := by decide +kernel
theorem dX3_emptyTo_25 : decode cX3_emptyTo 25 = .ok (.iload_n 2, 1) := by decide +kernel
theorem dX3_emptyTo_26 : decode cX3_emptyTo 26 = .ok (.aaload, 1) := by decide +kernel
theorem dX3_emptyTo_27 : decode cX3_emptyTo 27 = .ok (.aload_n 0, 1) := by decide +kernel
theorem dX3_emptyTo_28 : decode cX3_emptyTo 28 = .ok (.getfield 11, 3) := by decide +kernel
theorem dX3_emptyTo_31 : decode cX3_emptyTo 31 = .ok (.iload_n 2, 1) := by decide +kernel
theorem dX3_emptyTo_32 : decode cX3_emptyTo 32 = .ok (.aaload, 1) := by decide +kernel
theorem dX3_emptyTo_33 : decode cX3_emptyTo 33 = .ok (.getfield 114, 3) := by decide +kernel
theorem dX3_emptyTo_36 : decode cX3_emptyTo 36 = .ok (.putfield 123, 3) := by decide +kernel
theorem dX3_emptyTo_39 : decode cX3_emptyTo 39 = .ok (.aload_n 0, 1) := by decide +kernel
theorem dX3_emptyTo_40 : decode cX3_emptyTo 40 = .ok (.getfield 11, 3) := by decide +kernel
theorem dX3_emptyTo_43 : decode cX3_emptyTo 43 = .ok (.iload_n 2, 1) := by decide +kernel
theorem dX3_emptyTo_44 : decode cX3_emptyTo 44 = .ok (.aaload, 1) := by decide +kernel
theorem dX3_emptyTo_45 : decode cX3_emptyTo 45 = .ok (.iload_n 1, 1) := by decide +kernel
theorem dX3_emptyTo_46 : decode cX3_emptyTo 46 = .ok (.putfield 83, 3) := by decide +kernel
theorem dX3_emptyTo_49 : decode cX3_emptyTo 49 = .ok (.iinc 2 1, 3) := by decide +kernel
theorem dX3_emptyTo_52 : decode cX3_emptyTo 52 = .ok (.goto (-50), 3) := by decide +kernel
theorem dX3_emptyTo_55 : decode cX3_emptyTo 55 = .ok (.aload_n 0, 1) := by decide +kernel
theorem dX3_emptyTo_56 : decode cX3_emptyTo 56 = .ok (.iconst 0, 1) := by decide +kernel
theorem dX3_emptyTo_57 : decode cX3_emptyTo 57 = .ok (.putfield 21, 3) := by decide +kernel
theorem dX3_emptyTo_60 : decode cX3_emptyTo 60 = .ok (.aload_n 0, 1) := by decide +kernel
theorem dX3_emptyTo_61 : decode cX3_emptyTo 61 = .ok (.iconst 0, 1) := by decide +kernel
theorem dX3_emptyTo_62 : decode cX3_emptyTo 62 = .ok (.putfield 41, 3) := by decide +kernel
theorem dX3_emptyTo_65 : decode cX3_emptyTo 65 = .ok (.aload_n 0, 1) := by decide +kernel
theorem dX3_emptyTo_66 : decode cX3_emptyTo 66 = .ok (.iconst 0, 1) := by decide +kernel
theorem dX3_emptyTo_67 : decode cX3_emptyTo 67 = .ok (.putfield 44, 3) := by decide +kernel
theorem dX3_emptyTo_70 : decode cX3_emptyTo 70 = .ok (.aload_n 0, 1) := by decide +kernel
theorem dX3_emptyTo_71 : decode cX3_emptyTo 71 = .ok (.iconst 0, 1) := by decide +kernel
theorem dX3_emptyTo_72 : decode cX3_emptyTo 72 = .ok (.putfield 47, 3) := by decide +kernel
theorem dX3_emptyTo_75 : decode cX3_emptyTo 75 = .ok (.aload_n 0, 1) := by decide +kernel
theorem dX3_emptyTo_76 : decode cX3_emptyTo 76 = .ok (.iconst (-1), 1) := by decide +kernel
theorem dX3_emptyTo_77 : decode cX3_emptyTo 77 = .ok (.putfield 50, 3) := by decide +kernel
theorem dX3_emptyTo_80 : decode cX3_emptyTo 80 = .ok (.aload_n 0, 1) := by decide +kernel
theorem dX3_emptyTo_81 : decode cX3_emptyTo 81 = .ok (.iconst (-1), 1) := by decide +kernel
theorem dX3_emptyTo_82 : decode cX3_emptyTo 82 = .ok (.putfield 53, 3) := by decide +kernel
theorem dX3_emptyTo_85 : decode cX3_emptyTo 85 = .ok (.return_, 1) := by decide +kernel
theorem dX4_init_0 : decode cX4_init 0 = .ok (.aload_n 0, 1) := by decide +kernel
theorem dX4_init_1 : decode cX4_init 1 = .ok (.invokespecial 3, 3) := by decide +kernel
theorem dX4_init_4 : decode cX4_init 4 = .ok (.aload_n 0, 1) := by decide +kernel
theorem dX4_init_5 : decode cX4_init 5 = .ok (.bipush 8, 2) := by decide +kernel
theorem dX4_init_7 : decode cX4_init 7 = .ok (.newarray .int, 2) := by decide +kernel
theorem dX4_init_9 : decode cX4_init 9 = .ok (.putfield 9, 3) := by decide +kernel
theorem dX4_init_12 : decode cX4_init 12 = .ok (.aload_n 0, 1) := by decide +kernel
theorem dX4_init_13 : decode cX4_init 13 = .ok (.bipush 8, 2) := by decide +kernel
theorem dX4_init_15 : decode cX4_init 15 = .ok (.newarray .int, 2) := by decide +kernel
theorem dX4_init_17 : decode cX4_init 17 = .ok (.putfield 15, 3) := by decide +kernel
theorem dX4_init_20 : decode cX4_init 20 = .ok (.aload_n 0, 1) := by decide +kernel
theorem dX4_init_21 : decode cX4_init 21 = .ok (.bipush 8, 2) := by decide +kernel
theorem dX4_init_23 : decode cX4_init 23 = .ok (.newarray .int, 2) := by decide +kernel
theorem dX4_init_25 : decode cX4_init 25 = .ok (.putfield 18, 3) := by decide +kernel
theorem dX4_init_28 : decode cX4_init 28 = .ok (.aload_n 0, 1) := by decide +kernel
theorem dX4_init_29 : decode cX4_init 29 = .ok (.bipush 8, 2) := by decide +kernel
theorem dX4_init_31 : decode cX4_init 31 = .ok (.newarray .int, 2) := by decide +kernel
theorem dX4_init_33 : decode cX4_init 33 = .ok (.putfield 21, 3) := by decide +kernel
theorem dX4_init_36 : decode cX4_init 36 = .ok (.aload_n 0, 1) := by decide +kernel
theorem dX4_init_37 : decode cX4_init 37 = .ok (.sipush 256, 3) := by decide +kernel
theorem dX4_init_40 : decode cX4_init 40 = .ok (.newarray .int, 2) := by decide +kernel
theorem dX4_init_42 : decode cX4_init 42 = .ok (.putfield 24, 3) := by decide +kernel
theorem dX4_init_45 : decode cX4_init 45 = .ok (.aload_n 0, 1) := by decide +kernel
theorem dX4_init_46 : decode cX4_init 46 = .ok (.sipush 256, 3) := by decide +kernel
theorem dX4_init_49 : decode cX4_init 49 = .ok (.newarray .int, 2) := by decide +kernel
theorem dX4_init_51 : decode cX4_init 51 = .ok (.putfield 27, 3) := by decide +kernel
theorem dX4_init_54 : decode cX4_init 54 = .ok (.aload_n 0, 1) := by decide +kernel
theorem dX4_init_55 : decode cX4_init 55 = .ok (.sipush 18432, 3) := by decide +kernel
theorem dX4_init_58 : decode cX4_init 58 = .ok (.newarray .int, 2) := by decide +kernel
theorem dX4_init_60 : decode cX4_init 60 = .ok (.putfield 30, 3) := by decide +kernel
theorem dX4_init_63 : decode cX4_init 63 = .ok (.aload_n 0, 1) := by decide +kernel
theorem dX4_init_64 : decode cX4_init 64 = .ok (.iconst 0, 1) := by decide +kernel
theorem dX4_init_65 : decode cX4_init 65 = .ok (.putfield 33, 3) := by decide +kernel
theorem dX4_init_68 : decode cX4_init 68 = .ok (.aload_n 0, 1) := by decide +kernel
theorem dX4_init_69 : decode cX4_init 69 = .ok (.iconst 0, 1) := by decide +kernel
theorem dX4_init_70 : decode cX4_init 70 = .ok (.putfield 37, 3) := by decide +kernel
theorem dX4_init_73 : decode cX4_init 73 = .ok (.aload_n 0, 1) := by decide +kernel
theorem dX4_init_74 : decode cX4_init 74 = .ok (.iconst (-1), 1) := by decide +kernel
theorem dX4_init_75 : decode cX4_init 75 = .ok (.putfield 41, 3) := by decide +kernel
theorem dX4_init_78 : decode cX4_init 78 = .ok (.aload_n 0, 1) := by decide +kernel
theorem dX4_init_79 : decode cX4_init 79 = .ok (.bipush 8, 2) := by decide +kernel
theorem dX4_init_81 : decode cX4_init 81 = .ok (.newarray .int, 2) := by decide +kernel
theorem dX4_init_83 : decode cX4_init 83 = .ok (.putfield 44, 3) := by decide +kernel
theorem dX4_init_86 : decode cX4_init 86 = .ok (.aload_n 0, 1) := by decide +kernel
theorem dX4_init_87 : decode cX4_init 87 = .ok (.iconst 0, 1) := by decide +kernel
theorem dX4_init_88 : decode cX4_init 88 = .ok (.putfield 47, 3) := by decide +kernel
theorem dX4_init_91 : decode cX4_init 91 = .ok (.aload_n 0, 1) := by decide +kernel
theorem dX4_init_92 : decode cX4_init 92 = .ok (.iconst 0, 1) := by decide +kernel
theorem dX4_init_93 : decode cX4_init 93 = .ok (.putfield 50, 3) := by decide +kernel
theorem dX4_init_96 : decode cX4_init 96 = .ok (.aload_n 0, 1) := by decide +kernel
theorem dX4_init_97 : decode cX4_init 97 = .ok (.iconst 0, 1) := by decide +kernel
theorem dX4_init_98 : decode cX4_init 98 = .ok (.putfield 53, 3) := by decide +kernel
theorem dX4_init_101 : decode cX4_init 101 = .ok (.aload_n 0, 1) := by decide +kernel
theorem dX4_init_102 : decode cX4_init 102 = .ok (.iconst 0, 1) := by decide +kernel
theorem dX4_init_103 : decode cX4_init 103 = .ok (.putfield 56, 3) := by decide +kernel
theorem dX4_init_106 : decode cX4_init 106 = .ok (.return_, 1) := by decide +kernel
theorem dX4_start_0 : decode cX4_start 0 = .ok (.aload_n 0, 1) := by decide +kernel
theorem dX4_start_1 : decode cX4_start 1 = .ok (.iload_n 1, 1) := by decide +kernel
theorem dX4_start_2 : decode cX4_start 2 = .ok (.putfield 33, 3) := by decide +kernel
theorem dX4_start_5 : decode cX4_start 5 = .ok (.aload_n 0, 1) := by decide +kernel
theorem dX4_start_6 : decode cX4_start 6 = .ok (.iload_n 2, 1) := by decide +kernel
theorem dX4_start_7 : decode cX4_start 7 = .ok (.putfield 37, 3) := by decide +kernel
theorem dX4_start_10 : decode cX4_start 10 = .ok (.aload_n 0, 1) := by decide +kernel
theorem dX4_start_11 : decode cX4_start 11 = .ok (.iload_n 3, 1) := by decide +kernel
theorem dX4_start_12 : decode cX4_start 12 = .ok (.putfield 41, 3) := by decide +kernel
theorem dX4_start_15 : decode cX4_start 15 = .ok (.aload_n 0, 1) := by decide +kernel
theorem dX4_start_16 : decode cX4_start 16 = .ok (.iconst 0, 1) := by decide +kernel
theorem dX4_start_17 : decode cX4_start 17 = .ok (.putfield 47, 3) := by decide +kernel
theorem dX4_start_20 : decode cX4_start 20 = .ok (.aload_n 0, 1) := by decide +kernel
theorem dX4_start_21 : decode cX4_start 21 = .ok (.iconst 1, 1) := by decide +kernel
theorem dX4_start_22 : decode cX4_start 22 = .ok (.putfield 56, 3) := by decide +kernel
theorem dX4_start_25 : decode cX4_start 25 = .ok (.return_, 1) := by decide +kernel
set_option maxRecDepth 20000 in
theorem ggX4_add_X2_likeIfClean : GoodIn wsX4_add wsX2_likeIfClean := goodIn_r _ [11, 12, 13, 14, 30, 31, 32, 33, 34, 35, 36, 37, 38, 39, 40, 41, 42, 43, 44] (by decide +kernel) (by decide +kernel)
set_option maxRecDepth 20000 in
theorem gX4_add_X2_likeIfClean : GoodIn wsX4_add (wsV RX4 64 RX2 yX2_likeIfClean wsX2_likeIfClean) := goodIn_app (goodIn_of _ (by decide +kernel)) ggX4_add_X2_likeIfClean
theorem dX4_add_0 : decode cX4_add 0 = .ok (.aload_n 0, 1) := by decide +kernel
theorem dX4_add_1 : decode cX4_add 1 = .ok (.getfield 47, 3) := by decide +kernel
theorem dX4_add_4 : decode cX4_add 4 = .ok (.bipush 8, 2) := by decide +kernel
theorem dX4_add_6 : decode cX4_add 6 = .ok (.if_icmp .lt 4, 3) := by decide +kernel
theorem dX4_add_9 : decode cX4_add 9 = .ok (.return_, 1) := by decide +kernel
theorem dX4_add_10 : decode cX4_add 10 = .ok (.aload_n 0, 1) := by decide +kernel
theorem dX4_add_11 : decode cX4_add 11 = .ok (.getfield 9, 3) := by decide +kernel
theorem dX4_add_14 : decode cX4_add 14 = .ok (.aload_n 0, 1) := by decide +kernel
theorem dX4_add_15 : decode cX4_add 15 = .ok (.getfield 47, 3) := by decide +kernel
theorem dX4_add_18 : decode cX4_add 18 = .ok (.aload_n 1, 1) := by decide +kernel
theorem dX4_add_19 : decode cX4_add 19 = .ok (.getfield 59, 3) := by decide +kernel
theorem dX4_add_22 : decode cX4_add 22 = .ok (.iastore, 1) := by decide +kernel
theorem dX4_add_23 : decode cX4_add 23 = .ok (.aload_n 0, 1) := by decide +kernel
theorem dX4_add_24 : decode cX4_add 24 = .ok (.getfield 15, 3) := by decide +kernel
theorem dX4_add_27 : decode cX4_add 27 = .ok (.aload_n 0, 1) := by decide +kernel
theorem dX4_add_28 : decode cX4_add 28 = .ok (.getfield 47, 3) := by decide +kernel
theorem dX4_add_31 : decode cX4_add 31 = .ok (.aload_n 1, 1) := by decide +kernel
theorem dX4_add_32 : decode cX4_add 32 = .ok (.invokevirtual 64, 3) := by decide +kernel
theorem dX4_add_35 : decode cX4_add 35 = .ok (.iastore, 1) := by decide +kernel
theorem dX4_add_36 : decode cX4_add 36 = .ok (.aload_n 0, 1) := by decide +kernel
theorem dX4_add_37 : decode cX4_add 37 = .ok (.getfield 18, 3) := by decide +kernel
theorem dX4_add_40 : decode cX4_add 40 = .ok (.aload_n 0, 1) := by decide +kernel
theorem dX4_add_41 : decode cX4_add 41 = .ok (.getfield 47, 3) := by decide +kernel
theorem dX4_add_44 : decode cX4_add 44 = .ok (.iload_n 2, 1) := by decide +kernel
theorem dX4_add_45 : decode cX4_add 45 = .ok (.iastore, 1) := by decide +kernel
theorem dX4_add_46 : decode cX4_add 46 = .ok (.aload_n 0, 1) := by decide +kernel
theorem dX4_add_47 : decode cX4_add 47 = .ok (.getfield 21, 3) := by decide +kernel
theorem dX4_add_50 : decode cX4_add 50 = .ok (.aload_n 0, 1) := by decide +kernel
theorem dX4_add_51 : decode cX4_add 51 = .ok (.getfield 47, 3) := by decide +kernel
theorem dX4_add_54 : decode cX4_add 54 = .ok (.iload_n 3, 1) := by decide +kernel
theorem dX4_add_55 : decode cX4_add 55 = .ok (.iastore, 1) := by decide +kernel
theorem dX4_add_56 : decode cX4_add 56 = .ok (.aload_n 0, 1) := by decide +kernel
theorem dX4_add_57 : decode cX4_add 57 = .ok (.dup, 1) := by decide +kernel
theorem dX4_add_58 : decode cX4_add 58 = .ok (.getfield 47, 3) := by decide +kernel
theorem dX4_add_61 : decode cX4_add 61 = .ok (.iconst 1, 1) := by decide +kernel
theorem dX4_add_62 : decode cX4_add 62 = .ok (.iadd, 1) := by decide +kernel
theorem dX4_add_63 : decode cX4_add 63 = .ok (.putfield 47, 3) := by decide +kernel
theorem dX4_add_66 : decode cX4_add 66 = .ok (.return_, 1) := by decide +kernel
set_option maxRecDepth 20000 in
theorem ggX4_decide_X4_sumUp : GoodIn wsX4_decide wsX4_sumUp := goodIn_r _ [6, 7, 8, 1, 9, 10, 11, 12, 5, 13, 52, 53, 54, 55, 56, 57, 58, 59, 60, 61, 62, 63, 64, 65, 66] (by decide +kernel) (by decide +kernel)
set_option maxRecDepth 20000 in
theorem gX4_decide_X4_sumUp : GoodIn wsX4_decide (wsV RX4 68 RX4 yX4_sumUp wsX4_sumUp) := goodIn_app (goodIn_of _ (by decide +kernel)) ggX4_decide_X4_sumUp
set_option maxRecDepth 20000 in
theorem ggX4_decide_X4_holds : GoodIn wsX4_decide wsX4_holds := goodIn_r _ [13] (by decide +kernel) (by decide +kernel)
set_option maxRecDepth 20000 in
theorem gX4_decide_X4_holds : GoodIn wsX4_decide (va_wsS RX4 72 yX4_holds wsX4_holds) := goodIn_app (goodIn_of _ (by decide +kernel)) ggX4_decide_X4_holds
set_option maxRecDepth 20000 in
theorem ggX4_decide_X4_judge : GoodIn wsX4_decide wsX4_judge := goodIn_r _ [17, 8, 18, 19, 20, 21, 5, 22, 23, 1, 11, 12, 13, 24, 25, 26, 27, 28, 29, 30, 31, 32, 33, 10, 34, 35, 36, 37, 38, 39, 40, 7, 41, 42, 43, 52, 53, 54, 55, 56, 57, 58, 59, 60, 61, 62, 63, 64, 65, 66] (by decide +kernel) (by decide +kernel)
set_option maxRecDepth 20000 in
theorem gX4_decide_X4_judge : GoodIn wsX4_decide (wsV RX4 76 RX4 yX4_judge wsX4_judge) := goodIn_app (goodIn_of _ (by decide +kernel)) ggX4_decide_X4_judge
set_option maxRecDepth 20000 in
theorem ggX4_decide_X4_follow : GoodIn wsX4_decide wsX4_follow := goodIn_r _ [47, 48, 1, 28, 49, 50, 51, 19, 20, 21, 5, 22, 23, 11, 12, 13, 24, 25, 26, 27, 29, 18, 30, 31, 32, 33, 10, 34, 35, 36, 37, 38, 39, 40, 7, 41, 42, 43, 52, 53, 54, 55, 56, 57, 58, 59, 60, 61, 62, 63, 64, 65, 66] (by decide +kernel) (by decide +kernel)
set_option maxRecDepth 20000 in
theorem gX4_decide_X4_follow : GoodIn wsX4_decide (wsV RX4 80 RX4 yX4_follow wsX4_follow) := goodIn_app (goodIn_of _ (by decide +kernel)) ggX4_decide_X4_follow
theorem dX4_decide_0 : decode cX4_decide 0 = .ok (.iconst 1, 1) := by decide +kernel
theorem dX4_decide_1 : decode cX4_decide 1 = .ok (.aload_n 0, 1) := by decide +kernel
theorem dX4_decide_2 : decode cX4_decide 2 = .ok (.getfield 47, 3) := by decide +kernel
theorem dX4_decide_5 : decode cX4_decide 5 = .ok (.ishl, 1) := by decide +kernel
theorem dX4_decide_6 : decode cX4_decide 6 = .ok (.iconst 1, 1) := by decide +kernel
theorem dX4_decide_7 : decode cX4_decide 7 = .ok (.isub, 1) := by decide +kernel
theorem dX4_decide_8 : decode cX4_decide 8 = .ok (.istore_n 1, 1) := by decide +kernel
theorem dX4_decide_9 : decode cX4_decide 9 = .ok (.iconst 1, 1) := by decide +kernel
theorem dX4_decide_10 : decode cX4_decide 10 = .ok (.istore_n 2, 1) := by decide +kernel
theorem dX4_decide_11 : decode cX4_decide 11 = .ok (.iload_n 2, 1) := by decide +kernel
theorem dX4_decide_12 : decode cX4_decide 12 = .ok (.iload_n 1, 1) := by decide +kernel
theorem dX4_decide_13 : decode cX4_decide 13 = .ok (.if_icmp .gt 14, 3) := by decide +kernel
theorem dX4_decide_16 : decode cX4_decide 16 = .ok (.aload_n 0, 1) := by decide +kernel
theorem dX4_decide_17 : decode cX4_decide 17 = .ok (.iload_n 2, 1) := by decide +kernel
theorem dX4_decide_18 : decode cX4_decide 18 = .ok (.invokevirtual 68, 3) := by decide +kernel
theorem dX4_decide_21 : decode cX4_decide 21 = .ok (.iinc 2 1, 3) := by decide +kernel
theorem dX4_decide_24 : decode cX4_decide 24 = .ok (.goto (-13), 3) := by decide +kernel
theorem dX4_decide_27 : decode cX4_decide 27 = .ok (.iload_n 1, 1) := by decide +kernel
theorem dX4_decide_28 : decode cX4_decide 28 = .ok (.istore_n 2, 1) := by decide +kernel
theorem dX4_decide_29 : decode cX4_decide 29 = .ok (.iload_n 2, 1) := by decide +kernel
theorem dX4_decide_30 : decode cX4_decide 30 = .ok (.ifCond .le 39, 3) := by decide +kernel
theorem dX4_decide_33 : decode cX4_decide 33 = .ok (.iconst 0, 1) := by decide +kernel
theorem dX4_decide_34 : decode cX4_decide 34 = .ok (.istore_n 3, 1) := by decide +kernel
theorem dX4_decide_35 : decode cX4_decide 35 = .ok (.iload_n 3, 1) := by decide +kernel
theorem dX4_decide_36 : decode cX4_decide 36 = .ok (.aload_n 0, 1) := by decide +kernel
theorem dX4_decide_37 : decode cX4_decide 37 = .ok (.getfield 47, 3) := by decide +kernel
theorem dX4_decide_40 : decode cX4_decide 40 = .ok (.if_icmp .ge 23, 3) := by decide +kernel
theorem dX4_decide_43 : decode cX4_decide 43 = .ok (.iload_n 2, 1) := by decide +kernel
theorem dX4_decide_44 : decode cX4_decide 44 = .ok (.iload_n 3, 1) := by decide +kernel
theorem dX4_decide_45 : decode cX4_decide 45 = .ok (.invokestatic 72, 3) := by decide +kernel
theorem dX4_decide_48 : decode cX4_decide 48 = .ok (.ifCond .eq 9, 3) := by decide +kernel
theorem dX4_decide_51 : decode cX4_decide 51 = .ok (.aload_n 0, 1) := by decide +kernel
theorem dX4_decide_52 : decode cX4_decide 52 = .ok (.iload_n 2, 1) := by decide +kernel
theorem dX4_decide_53 : decode cX4_decide 53 = .ok (.iload_n 3, 1) := by decide +kernel
theorem dX4_decide_54 : decode cX4_decide 54 = .ok (.invokevirtual 76, 3) := by decide +kernel
theorem dX4_decide_57 : decode cX4_decide 57 = .ok (.iinc 3 1, 3) := by decide +kernel
theorem dX4_decide_60 : decode cX4_decide 60 = .ok (.goto (-25), 3) := by decide +kernel
theorem dX4_decide_63 : decode cX4_decide 63 = .ok (.iinc 2 (-1), 3) := by decide +kernel
theorem dX4_decide_66 : decode cX4_decide 66 = .ok (.goto (-37), 3) := by decide +kernel
theorem dX4_decide_69 : decode cX4_decide 69 = .ok (.aload_n 0, 1) := by decide +kernel
theorem dX4_decide_70 : decode cX4_decide 70 = .ok (.invokevirtual 80, 3) := by decide +kernel
theorem dX4_decide_73 : decode cX4_decide 73 = .ok (.return_, 1) := by decide +kernel
set_option maxRecDepth 20000 in
theorem ggX4_sumUp_X4_holds : GoodIn wsX4_sumUp wsX4_holds := goodIn_r _ [9] (by decide +kernel) (by decide +kernel)
set_option maxRecDepth 20000 in
theorem gX4_sumUp_X4_holds : GoodIn wsX4_sumUp (va_wsS RX4 72 yX4_holds wsX4_holds) := goodIn_app (goodIn_of _ (by decide +kernel)) ggX4_sumUp_X4_holds
theorem dX4_sumUp_0 : decode cX4_sumUp 0 = .ok (.aload_n 0, 1) := by decide +kernel
theorem dX4_sumUp_1 : decode cX4_sumUp 1 = .ok (.getfield 24, 3) := by decide +kernel
theorem dX4_sumUp_4 : decode cX4_sumUp 4 = .ok (.iload_n 1, 1) := by decide +kernel
theorem dX4_sumUp_5 : decode cX4_sumUp 5 = .ok (.iconst 0, 1) := by decide +kernel
theorem dX4_sumUp_6 : decode cX4_sumUp 6 = .ok (.iastore, 1) := by decide +kernel
theorem dX4_sumUp_7 : decode cX4_sumUp 7 = .ok (.aload_n 0, 1) := by decide +kernel
theorem dX4_sumUp_8 : decode cX4_sumUp 8 = .ok (.getfield 27, 3) := by decide +kernel
theorem dX4_sumUp_11 : decode cX4_sumUp 11 = .ok (.iload_n 1, 1) := by decide +kernel
theorem dX4_sumUp_12 : decode cX4_sumUp 12 = .ok (.iconst 0, 1) := by decide +kernel
theorem dX4_sumUp_13 : decode cX4_sumUp 13 = .ok (.iastore, 1) := by decide +kernel
theorem dX4_sumUp_14 : decode cX4_sumUp 14 = .ok (.iconst 0, 1) := by decide +kernel
theorem dX4_sumUp_15 : decode cX4_sumUp 15 = .ok (.istore_n 2, 1) := by decide +kernel
theorem dX4_sumUp_16 : decode cX4_sumUp 16 = .ok (.iload_n 2, 1) := by decide +kernel
theorem dX4_sumUp_17 : decode cX4_sumUp 17 = .ok (.aload_n 0, 1) := by decide +kernel
theorem dX4_sumUp_18 : decode cX4_sumUp 18 = .ok (.getfield 47, 3) := by decide +kernel
theorem dX4_sumUp_21 : decode cX4_sumUp 21 = .ok (.if_icmp .ge 56, 3) := by decide +kernel
theorem dX4_sumUp_24 : decode cX4_sumUp 24 = .ok (.iload_n 1, 1) := by decide +kernel
theorem dX4_sumUp_25 : decode cX4_sumUp 25 = .ok (.iload_n 2, 1) := by decide +kernel
theorem dX4_sumUp_26 : decode cX4_sumUp 26 = .ok (.invokestatic 72, 3) := by decide +kernel
theorem dX4_sumUp_29 : decode cX4_sumUp 29 = .ok (.ifCond .eq 42, 3) := by decide +kernel
theorem dX4_sumUp_32 : decode cX4_sumUp 32 = .ok (.aload_n 0, 1) := by decide +kernel
theorem dX4_sumUp_33 : decode cX4_sumUp 33 = .ok (.getfield 24, 3) := by decide +kernel
theorem dX4_sumUp_36 : decode cX4_sumUp 36 = .ok (.iload_n 1, 1) := by decide +kernel
theorem dX4_sumUp_37 : decode cX4_sumUp 37 = .ok (.dup2, 1) := by decide +kernel
theorem dX4_sumUp_38 : decode cX4_sumUp 38 = .ok (.iaload, 1) := by decide +kernel
theorem dX4_sumUp_39 : decode cX4_sumUp 39 = .ok (.aload_n 0, 1) := by decide +kernel
theorem dX4_sumUp_40 : decode cX4_sumUp 40 = .ok (.getfield 18, 3) := by decide +kernel
theorem dX4_sumUp_43 : decode cX4_sumUp 43 = .ok (.iload_n 2, 1) := by decide +kernel
theorem dX4_sumUp_44 : decode cX4_sumUp 44 = .ok (.iaload, 1) := by decide +kernel
theorem dX4_sumUp_45 : decode cX4_sumUp 45 = .ok (.iadd, 1) := by decide +kernel
theorem dX4_sumUp_46 : decode cX4_sumUp 46 = .ok (.iastore, 1) := by decide +kernel
theorem dX4_sumUp_47 : decode cX4_sumUp 47 = .ok (.aload_n 0, 1) := by decide +kernel
theorem dX4_sumUp_48 : decode cX4_sumUp 48 = .ok (.getfield 27, 3) := by decide +kernel
theorem dX4_sumUp_51 : decode cX4_sumUp 51 = .ok (.iload_n 1, 1) := by decide +kernel
theorem dX4_sumUp_52 : decode cX4_sumUp 52 = .ok (.dup2, 1) := by decide +kernel
theorem dX4_sumUp_53 : decode cX4_sumUp 53 = .ok (.iaload, 1) := by decide +kernel
theorem dX4_sumUp_54 : decode cX4_sumUp 54 = .ok (.aload_n 0, 1) := by decide +kernel
theorem dX4_sumUp_55 : decode cX4_sumUp 55 = .ok (.getfield 15, 3) := by decide +kernel
theorem dX4_sumUp_58 : decode cX4_sumUp 58 = .ok (.iload_n 2, 1) := by decide +kernel
theorem dX4_sumUp_59 : decode cX4_sumUp 59 = .ok (.iaload, 1) := by decide +kernel
theorem dX4_sumUp_60 : decode cX4_sumUp 60 = .ok (.iconst (-1), 1) := by decide +kernel
theorem dX4_sumUp_61 : decode cX4_sumUp 61 = .ok (.if_icmp .ne 7, 3) := by decide +kernel
theorem dX4_sumUp_64 : decode cX4_sumUp 64 = .ok (.iconst 0, 1) := by decide +kernel
theorem dX4_sumUp_65 : decode cX4_sumUp 65 = .ok (.goto 4, 3) := by decide +kernel
theorem dX4_sumUp_68 : decode cX4_sumUp 68 = .ok (.iconst 1, 1) := by decide +kernel
theorem dX4_sumUp_69 : decode cX4_sumUp 69 = .ok (.iadd, 1) := by decide +kernel
theorem dX4_sumUp_70 : decode cX4_sumUp 70 = .ok (.iastore, 1) := by decide +kernel
theorem dX4_sumUp_71 : decode cX4_sumUp 71 = .ok (.iinc 2 1, 3) := by decide +kernel
theorem dX4_sumUp_74 : decode cX4_sumUp 74 = .ok (.goto (-58), 3) := by decide +kernel
theorem dX4_sumUp_77 : decode cX4_sumUp 77 = .ok (.return_, 1) := by decide +kernel
set_option maxRecDepth 20000 in
theorem ggX4_judge_X4_bestNext : GoodIn wsX4_judge wsX4_bestNext := goodIn_r _ [7, 8, 9, 10, 11, 6, 12, 13, 14, 15, 16, 17, 18, 2, 19, 20, 21, 22, 23, 24, 25, 26, 27, 28, 29, 30, 31, 32, 33, 34, 35, 36, 37, 38, 39, 40, 41, 42, 43, 44, 45, 46, 47, 48, 49] (by decide +kernel) (by decide +kernel)
set_option maxRecDepth 20000 in
theorem gX4_judge_X4_bestNext : GoodIn wsX4_judge (wsV RX4 83 RX4 yX4_bestNext wsX4_bestNext) := goodIn_app (goodIn_of _ (by decide +kernel)) ggX4_judge_X4_bestNext
set_option maxRecDepth 20000 in
theorem ggX4_judge_X4_slot : GoodIn wsX4_judge wsX4_slot := goodIn_r _ [34] (by decide +kernel) (by decide +kernel)
set_option maxRecDepth 20000 in
theorem gX4_judge_X4_slot : GoodIn wsX4_judge (va_wsS RX4 87 yX4_slot wsX4_slot) := goodIn_app (goodIn_of _ (by decide +kernel)) ggX4_judge_X4_slot
set_option maxRecDepth 20000 in
theorem ggX4_judge_X4_hourAfter : GoodIn wsX4_judge wsX4_hourAfter := goodIn_r _ [29, 30, 31, 35, 36, 37, 38, 39, 40, 41, 42, 43, 44, 45, 46, 47, 48, 49] (by decide +kernel) (by decide +kernel)
set_option maxRecDepth 20000 in
theorem gX4_judge_X4_hourAfter : GoodIn wsX4_judge (wsV RX4 90 RX4 yX4_hourAfter wsX4_hourAfter) := goodIn_app (goodIn_of _ (by decide +kernel)) ggX4_judge_X4_hourAfter
set_option maxRecDepth 20000 in
theorem ggX4_judge_X4_worth : GoodIn wsX4_judge wsX4_worth := goodIn_r _ [16, 17, 18, 2, 19, 20, 21, 6, 22, 23, 24, 25, 26, 27, 28, 29, 30, 31, 32, 33, 34, 35, 36, 37, 38, 39, 40, 41, 42, 43, 44, 45, 46, 47, 48, 49] (by decide +kernel) (by decide +kernel)
set_option maxRecDepth 20000 in
theorem gX4_judge_X4_worth : GoodIn wsX4_judge (wsV RX4 94 RX4 yX4_worth wsX4_worth) := goodIn_app (goodIn_of _ (by decide +kernel)) ggX4_judge_X4_worth
theorem dX4_judge_0 : decode cX4_judge 0 = .ok (.iconst 0, 1) := by decide +kernel
theorem dX4_judge_1 : decode cX4_judge 1 = .ok (.istore_n 3, 1) := by decide +kernel
theorem dX4_judge_2 : decode cX4_judge 2 = .ok (.iload_n 3, 1) := by decide +kernel
theorem dX4_judge_3 : decode cX4_judge 3 = .ok (.aload_n 0, 1) := by decide +kernel
theorem dX4_judge_4 : decode cX4_judge 4 = .ok (.getfield 27, 3) := by decide +kernel
theorem dX4_judge_7 : decode cX4_judge 7 = .ok (.iload_n 1, 1) := by decide +kernel
theorem dX4_judge_8 : decode cX4_judge 8 = .ok (.iaload, 1) := by decide +kernel
theorem dX4_judge_9 : decode cX4_judge 9 = .ok (.if_icmp .gt 53, 3) := by decide +kernel
theorem dX4_judge_12 : decode cX4_judge 12 = .ok (.aload_n 0, 1) := by decide +kernel
theorem dX4_judge_13 : decode cX4_judge 13 = .ok (.iload_n 1, 1) := by decide +kernel
theorem dX4_judge_14 : decode cX4_judge 14 = .ok (.iload_n 2, 1) := by decide +kernel
theorem dX4_judge_15 : decode cX4_judge 15 = .ok (.iload_n 3, 1) := by decide +kernel
theorem dX4_judge_16 : decode cX4_judge 16 = .ok (.invokevirtual 83, 3) := by decide +kernel
theorem dX4_judge_19 : decode cX4_judge 19 = .ok (.istore 4, 2) := by decide +kernel
theorem dX4_judge_21 : decode cX4_judge 21 = .ok (.aload_n 0, 1) := by decide +kernel
theorem dX4_judge_22 : decode cX4_judge 22 = .ok (.getfield 30, 3) := by decide +kernel
theorem dX4_judge_25 : decode cX4_judge 25 = .ok (.iload_n 1, 1) := by decide +kernel
theorem dX4_judge_26 : decode cX4_judge 26 = .ok (.iload_n 2, 1) := by decide +kernel
theorem dX4_judge_27 : decode cX4_judge 27 = .ok (.iload_n 3, 1) := by decide +kernel
theorem dX4_judge_28 : decode cX4_judge 28 = .ok (.invokestatic 87, 3) := by decide +kernel
theorem dX4_judge_31 : decode cX4_judge 31 = .ok (.iload 4, 2) := by decide +kernel
theorem dX4_judge_33 : decode cX4_judge 33 = .ok (.iconst (-1), 1) := by decide +kernel
theorem dX4_judge_34 : decode cX4_judge 34 = .ok (.if_icmp .ne 12, 3) := by decide +kernel
theorem dX4_judge_37 : decode cX4_judge 37 = .ok (.aload_n 0, 1) := by decide +kernel
theorem dX4_judge_38 : decode cX4_judge 38 = .ok (.iload_n 1, 1) := by decide +kernel
theorem dX4_judge_39 : decode cX4_judge 39 = .ok (.iload_n 3, 1) := by decide +kernel
theorem dX4_judge_40 : decode cX4_judge 40 = .ok (.invokevirtual 90, 3) := by decide +kernel
theorem dX4_judge_43 : decode cX4_judge 43 = .ok (.goto 12, 3) := by decide +kernel
theorem dX4_judge_46 : decode cX4_judge 46 = .ok (.aload_n 0, 1) := by decide +kernel
theorem dX4_judge_47 : decode cX4_judge 47 = .ok (.iload_n 1, 1) := by decide +kernel
theorem dX4_judge_48 : decode cX4_judge 48 = .ok (.iload_n 2, 1) := by decide +kernel
theorem dX4_judge_49 : decode cX4_judge 49 = .ok (.iload_n 3, 1) := by decide +kernel
theorem dX4_judge_50 : decode cX4_judge 50 = .ok (.iload 4, 2) := by decide +kernel
theorem dX4_judge_52 : decode cX4_judge 52 = .ok (.invokevirtual 94, 3) := by decide +kernel
theorem dX4_judge_55 : decode cX4_judge 55 = .ok (.iastore, 1) := by decide +kernel
theorem dX4_judge_56 : decode cX4_judge 56 = .ok (.iinc 3 1, 3) := by decide +kernel
theorem dX4_judge_59 : decode cX4_judge 59 = .ok (.goto (-57), 3) := by decide +kernel
theorem dX4_judge_62 : decode cX4_judge 62 = .ok (.return_, 1) := by decide +kernel
set_option maxRecDepth 20000 in
theorem ggX4_bestNext_X4_holds : GoodIn wsX4_bestNext wsX4_holds := goodIn_r _ [6] (by decide +kernel) (by decide +kernel)
set_option maxRecDepth 20000 in
theorem gX4_bestNext_X4_holds : GoodIn wsX4_bestNext (va_wsS RX4 72 yX4_holds wsX4_holds) := goodIn_app (goodIn_of _ (by decide +kernel)) ggX4_bestNext_X4_holds
set_option maxRecDepth 20000 in
theorem ggX4_bestNext_X4_worth : GoodIn wsX4_bestNext wsX4_worth := goodIn_r _ [10, 11, 12, 13, 14, 15, 16, 5, 17, 18, 19, 20, 21, 22, 23, 24, 25, 26, 27, 28, 29, 30, 31, 32, 33, 34, 35, 36, 37, 38, 39, 40, 41, 42, 43, 44] (by decide +kernel) (by decide +kernel)
set_option maxRecDepth 20000 in
theorem gX4_bestNext_X4_worth : GoodIn wsX4_bestNext (wsV RX4 94 RX4 yX4_worth wsX4_worth) := goodIn_app (goodIn_of _ (by decide +kernel)) ggX4_bestNext_X4_worth
theorem dX4_bestNext_0 : decode cX4_bestNext 0 = .ok (.iconst (-1), 1) := by decide +kernel
theorem dX4_bestNext_1 : decode cX4_bestNext 1 = .ok (.istore 4, 2) := by decide +kernel
theorem dX4_bestNext_3 : decode cX4_bestNext 3 = .ok (.ldc 98, 2) := by decide +kernel
theorem dX4_bestNext_5 : decode cX4_bestNext 5 = .ok (.istore 5, 2) := by decide +kernel
theorem dX4_bestNext_7 : decode cX4_bestNext 7 = .ok (.iconst 0, 1) := by decide +kernel
theorem dX4_bestNext_8 : decode cX4_bestNext 8 = .ok (.istore 6, 2) := by decide +kernel
theorem dX4_bestNext_10 : decode cX4_bestNext 10 = .ok (.iload 6, 2) := by decide +kernel
theorem dX4_bestNext_12 : decode cX4_bestNext 12 = .ok (.aload_n 0, 1) := by decide +kernel
theorem dX4_bestNext_13 : decode cX4_bestNext 13 = .ok (.getfield 47, 3) := by decide +kernel
theorem dX4_bestNext_16 : decode cX4_bestNext 16 = .ok (.if_icmp .ge 44, 3) := by decide +kernel
theorem dX4_bestNext_19 : decode cX4_bestNext 19 = .ok (.iload_n 1, 1) := by decide +kernel
theorem dX4_bestNext_20 : decode cX4_bestNext 20 = .ok (.iload 6, 2) := by decide +kernel
theorem dX4_bestNext_22 : decode cX4_bestNext 22 = .ok (.invokestatic 72, 3) := by decide +kernel
theorem dX4_bestNext_25 : decode cX4_bestNext 25 = .ok (.ifCond .ne 29, 3) := by decide +kernel
theorem dX4_bestNext_28 : decode cX4_bestNext 28 = .ok (.aload_n 0, 1) := by decide +kernel
theorem dX4_bestNext_29 : decode cX4_bestNext 29 = .ok (.iload_n 1, 1) := by decide +kernel
theorem dX4_bestNext_30 : decode cX4_bestNext 30 = .ok (.iload_n 2, 1) := by decide +kernel
theorem dX4_bestNext_31 : decode cX4_bestNext 31 = .ok (.iload_n 3, 1) := by decide +kernel
theorem dX4_bestNext_32 : decode cX4_bestNext 32 = .ok (.iload 6, 2) := by decide +kernel
theorem dX4_bestNext_34 : decode cX4_bestNext 34 = .ok (.invokevirtual 94, 3) := by decide +kernel
theorem dX4_bestNext_37 : decode cX4_bestNext 37 = .ok (.istore 7, 2) := by decide +kernel
theorem dX4_bestNext_39 : decode cX4_bestNext 39 = .ok (.iload 7, 2) := by decide +kernel
theorem dX4_bestNext_41 : decode cX4_bestNext 41 = .ok (.iload 5, 2) := by decide +kernel
theorem dX4_bestNext_43 : decode cX4_bestNext 43 = .ok (.if_icmp .ge 11, 3) := by decide +kernel
theorem dX4_bestNext_46 : decode cX4_bestNext 46 = .ok (.iload 7, 2) := by decide +kernel
theorem dX4_bestNext_48 : decode cX4_bestNext 48 = .ok (.istore 5, 2) := by decide +kernel
theorem dX4_bestNext_50 : decode cX4_bestNext 50 = .ok (.iload 6, 2) := by decide +kernel
theorem dX4_bestNext_52 : decode cX4_bestNext 52 = .ok (.istore 4, 2) := by decide +kernel
theorem dX4_bestNext_54 : decode cX4_bestNext 54 = .ok (.iinc 6 1, 3) := by decide +kernel
theorem dX4_bestNext_57 : decode cX4_bestNext 57 = .ok (.goto (-47), 3) := by decide +kernel
theorem dX4_bestNext_60 : decode cX4_bestNext 60 = .ok (.iload 4, 2) := by decide +kernel
theorem dX4_bestNext_62 : decode cX4_bestNext 62 = .ok (.ireturn, 1) := by decide +kernel
set_option maxRecDepth 20000 in
theorem ggX4_worth_X4_needsWash : GoodIn wsX4_worth wsX4_needsWash := goodIn_r _ [8, 9, 10, 11, 21, 22, 23, 24, 25, 26, 27, 28, 29, 30, 31, 32, 33, 34, 35] (by decide +kernel) (by decide +kernel)
set_option maxRecDepth 20000 in
theorem gX4_worth_X4_needsWash : GoodIn wsX4_worth (wsV RX4 99 RX4 yX4_needsWash wsX4_needsWash) := goodIn_app (goodIn_of _ (by decide +kernel)) ggX4_worth_X4_needsWash
set_option maxRecDepth 20000 in
theorem ggX4_worth_X4_hourAfter : GoodIn wsX4_worth wsX4_hourAfter := goodIn_r _ [15, 16, 17, 21, 22, 23, 24, 25, 26, 27, 28, 29, 30, 31, 32, 33, 34, 35] (by decide +kernel) (by decide +kernel)
set_option maxRecDepth 20000 in
theorem gX4_worth_X4_hourAfter : GoodIn wsX4_worth (wsV RX4 90 RX4 yX4_hourAfter wsX4_hourAfter) := goodIn_app (goodIn_of _ (by decide +kernel)) ggX4_worth_X4_hourAfter
set_option maxRecDepth 20000 in
theorem ggX4_worth_X4_slot : GoodIn wsX4_worth wsX4_slot := goodIn_r _ [20] (by decide +kernel) (by decide +kernel)
set_option maxRecDepth 20000 in
theorem gX4_worth_X4_slot : GoodIn wsX4_worth (va_wsS RX4 87 yX4_slot wsX4_slot) := goodIn_app (goodIn_of _ (by decide +kernel)) ggX4_worth_X4_slot
theorem dX4_worth_0 : decode cX4_worth 0 = .ok (.iload_n 3, 1) := by decide +kernel
theorem dX4_worth_1 : decode cX4_worth 1 = .ok (.aload_n 0, 1) := by decide +kernel
theorem dX4_worth_2 : decode cX4_worth 2 = .ok (.iload_n 2, 1) := by decide +kernel
theorem dX4_worth_3 : decode cX4_worth 3 = .ok (.iload 4, 2) := by decide +kernel
theorem dX4_worth_5 : decode cX4_worth 5 = .ok (.invokevirtual 99, 3) := by decide +kernel
theorem dX4_worth_8 : decode cX4_worth 8 = .ok (.ifCond .eq 7, 3) := by decide +kernel
theorem dX4_worth_11 : decode cX4_worth 11 = .ok (.iconst 1, 1) := by decide +kernel
theorem dX4_worth_12 : decode cX4_worth 12 = .ok (.goto 4, 3) := by decide +kernel
theorem dX4_worth_15 : decode cX4_worth 15 = .ok (.iconst 0, 1) := by decide +kernel
theorem dX4_worth_16 : decode cX4_worth 16 = .ok (.iadd, 1) := by decide +kernel
theorem dX4_worth_17 : decode cX4_worth 17 = .ok (.istore 5, 2) := by decide +kernel
theorem dX4_worth_19 : decode cX4_worth 19 = .ok (.aload_n 0, 1) := by decide +kernel
theorem dX4_worth_20 : decode cX4_worth 20 = .ok (.iload_n 1, 1) := by decide +kernel
theorem dX4_worth_21 : decode cX4_worth 21 = .ok (.iload 5, 2) := by decide +kernel
theorem dX4_worth_23 : decode cX4_worth 23 = .ok (.invokevirtual 90, 3) := by decide +kernel
theorem dX4_worth_26 : decode cX4_worth 26 = .ok (.aload_n 0, 1) := by decide +kernel
theorem dX4_worth_27 : decode cX4_worth 27 = .ok (.getfield 21, 3) := by decide +kernel
theorem dX4_worth_30 : decode cX4_worth 30 = .ok (.iload 4, 2) := by decide +kernel
theorem dX4_worth_32 : decode cX4_worth 32 = .ok (.iaload, 1) := by decide +kernel
theorem dX4_worth_33 : decode cX4_worth 33 = .ok (.if_icmp .lt 8, 3) := by decide +kernel
theorem dX4_worth_36 : decode cX4_worth 36 = .ok (.ldc 102, 2) := by decide +kernel
theorem dX4_worth_38 : decode cX4_worth 38 = .ok (.goto 4, 3) := by decide +kernel
theorem dX4_worth_41 : decode cX4_worth 41 = .ok (.iconst 0, 1) := by decide +kernel
theorem dX4_worth_42 : decode cX4_worth 42 = .ok (.istore 6, 2) := by decide +kernel
theorem dX4_worth_44 : decode cX4_worth 44 = .ok (.iload 6, 2) := by decide +kernel
theorem dX4_worth_46 : decode cX4_worth 46 = .ok (.aload_n 0, 1) := by decide +kernel
theorem dX4_worth_47 : decode cX4_worth 47 = .ok (.getfield 30, 3) := by decide +kernel
theorem dX4_worth_50 : decode cX4_worth 50 = .ok (.iload_n 1, 1) := by decide +kernel
theorem dX4_worth_51 : decode cX4_worth 51 = .ok (.iconst 1, 1) := by decide +kernel
theorem dX4_worth_52 : decode cX4_worth 52 = .ok (.iload 4, 2) := by decide +kernel
theorem dX4_worth_54 : decode cX4_worth 54 = .ok (.ishl, 1) := by decide +kernel
theorem dX4_worth_55 : decode cX4_worth 55 = .ok (.ior, 1) := by decide +kernel
theorem dX4_worth_56 : decode cX4_worth 56 = .ok (.iload 4, 2) := by decide +kernel
theorem dX4_worth_58 : decode cX4_worth 58 = .ok (.iload 5, 2) := by decide +kernel
theorem dX4_worth_60 : decode cX4_worth 60 = .ok (.invokestatic 87, 3) := by decide +kernel
theorem dX4_worth_63 : decode cX4_worth 63 = .ok (.iaload, 1) := by decide +kernel
theorem dX4_worth_64 : decode cX4_worth 64 = .ok (.iadd, 1) := by decide +kernel
theorem dX4_worth_65 : decode cX4_worth 65 = .ok (.ireturn, 1) := by decide +kernel
theorem dX4_needsWash_0 : decode cX4_needsWash 0 = .ok (.aload_n 0, 1) := by decide +kernel
theorem dX4_needsWash_1 : decode cX4_needsWash 1 = .ok (.getfield 15, 3) := by decide +kernel
theorem dX4_needsWash_4 : decode cX4_needsWash 4 = .ok (.iload_n 2, 1) := by decide +kernel
theorem dX4_needsWash_5 : decode cX4_needsWash 5 = .ok (.iaload, 1) := by decide +kernel
theorem dX4_needsWash_6 : decode cX4_needsWash 6 = .ok (.iconst (-1), 1) := by decide +kernel
theorem dX4_needsWash_7 : decode cX4_needsWash 7 = .ok (.if_icmp .ne 5, 3) := by decide +kernel
theorem dX4_needsWash_10 : decode cX4_needsWash 10 = .ok (.iconst 0, 1) := by decide +kernel
theorem dX4_needsWash_11 : decode cX4_needsWash 11 = .ok (.ireturn, 1) := by decide +kernel
theorem dX4_needsWash_12 : decode cX4_needsWash 12 = .ok (.iload_n 1, 1) := by decide +kernel
theorem dX4_needsWash_13 : decode cX4_needsWash 13 = .ok (.iconst (-1), 1) := by decide +kernel
theorem dX4_needsWash_14 : decode cX4_needsWash 14 = .ok (.if_icmp .ne 29, 3) := by decide +kernel
theorem dX4_needsWash_17 : decode cX4_needsWash 17 = .ok (.aload_n 0, 1) := by decide +kernel
theorem dX4_needsWash_18 : decode cX4_needsWash 18 = .ok (.getfield 37, 3) := by decide +kernel
theorem dX4_needsWash_21 : decode cX4_needsWash 21 = .ok (.ifCond .ne 20, 3) := by decide +kernel
theorem dX4_needsWash_24 : decode cX4_needsWash 24 = .ok (.aload_n 0, 1) := by decide +kernel
theorem dX4_needsWash_25 : decode cX4_needsWash 25 = .ok (.getfield 41, 3) := by decide +kernel
theorem dX4_needsWash_28 : decode cX4_needsWash 28 = .ok (.aload_n 0, 1) := by decide +kernel
theorem dX4_needsWash_29 : decode cX4_needsWash 29 = .ok (.getfield 15, 3) := by decide +kernel
theorem dX4_needsWash_32 : decode cX4_needsWash 32 = .ok (.iload_n 2, 1) := by decide +kernel
theorem dX4_needsWash_33 : decode cX4_needsWash 33 = .ok (.iaload, 1) := by decide +kernel
theorem dX4_needsWash_34 : decode cX4_needsWash 34 = .ok (.if_icmp .eq 7, 3) := by decide +kernel
theorem dX4_needsWash_37 : decode cX4_needsWash 37 = .ok (.iconst 1, 1) := by decide +kernel
theorem dX4_needsWash_38 : decode cX4_needsWash 38 = .ok (.goto 4, 3) := by decide +kernel
theorem dX4_needsWash_41 : decode cX4_needsWash 41 = .ok (.iconst 0, 1) := by decide +kernel
theorem dX4_needsWash_42 : decode cX4_needsWash 42 = .ok (.ireturn, 1) := by decide +kernel
theorem dX4_needsWash_43 : decode cX4_needsWash 43 = .ok (.aload_n 0, 1) := by decide +kernel
theorem dX4_needsWash_44 : decode cX4_needsWash 44 = .ok (.getfield 15, 3) := by decide +kernel
theorem dX4_needsWash_47 : decode cX4_needsWash 47 = .ok (.iload_n 1, 1) := by decide +kernel
theorem dX4_needsWash_48 : decode cX4_needsWash 48 = .ok (.iaload, 1) := by decide +kernel
theorem dX4_needsWash_49 : decode cX4_needsWash 49 = .ok (.aload_n 0, 1) := by decide +kernel
theorem dX4_needsWash_50 : decode cX4_needsWash 50 = .ok (.getfield 15, 3) := by decide +kernel
theorem dX4_needsWash_53 : decode cX4_needsWash 53 = .ok (.iload_n 2, 1) := by decide +kernel
theorem dX4_needsWash_54 : decode cX4_needsWash 54 = .ok (.iaload, 1) := by decide +kernel
theorem dX4_needsWash_55 : decode cX4_needsWash 55 = .ok (.if_icmp .eq 7, 3) := by decide +kernel
theorem dX4_needsWash_58 : decode cX4_needsWash 58 = .ok (.iconst 1, 1) := by decide +kernel
theorem dX4_needsWash_59 : decode cX4_needsWash 59 = .ok (.goto 4, 3) := by decide +kernel
theorem dX4_needsWash_62 : decode cX4_needsWash 62 = .ok (.iconst 0, 1) := by decide +kernel
theorem dX4_needsWash_63 : decode cX4_needsWash 63 = .ok (.ireturn, 1) := by decide +kernel
theorem dX4_hourAfter_0 : decode cX4_hourAfter 0 = .ok (.aload_n 0, 1) := by decide +kernel
theorem dX4_hourAfter_1 : decode cX4_hourAfter 1 = .ok (.getfield 33, 3) := by decide +kernel
theorem dX4_hourAfter_4 : decode cX4_hourAfter 4 = .ok (.aload_n 0, 1) := by decide +kernel
theorem dX4_hourAfter_5 : decode cX4_hourAfter 5 = .ok (.getfield 24, 3) := by decide +kernel
theorem dX4_hourAfter_8 : decode cX4_hourAfter 8 = .ok (.iload_n 1, 1) := by decide +kernel
theorem dX4_hourAfter_9 : decode cX4_hourAfter 9 = .ok (.iaload, 1) := by decide +kernel
theorem dX4_hourAfter_10 : decode cX4_hourAfter 10 = .ok (.iadd, 1) := by decide +kernel
theorem dX4_hourAfter_11 : decode cX4_hourAfter 11 = .ok (.iconst 2, 1) := by decide +kernel
theorem dX4_hourAfter_12 : decode cX4_hourAfter 12 = .ok (.iload_n 2, 1) := by decide +kernel
theorem dX4_hourAfter_13 : decode cX4_hourAfter 13 = .ok (.imul, 1) := by decide +kernel
theorem dX4_hourAfter_14 : decode cX4_hourAfter 14 = .ok (.iadd, 1) := by decide +kernel
theorem dX4_hourAfter_15 : decode cX4_hourAfter 15 = .ok (.ireturn, 1) := by decide +kernel
set_option maxRecDepth 20000 in
theorem ggX4_follow_X4_bestNext : GoodIn wsX4_follow wsX4_bestNext := goodIn_r _ [11, 12, 2, 13, 14, 10, 15, 16, 17, 18, 19, 3, 20, 21, 22, 23, 24, 25, 26, 27, 28, 29, 30, 31, 32, 33, 34, 35, 36, 37, 38, 39, 40, 41, 42, 43, 44, 45, 46, 47, 48, 49, 50, 51, 52] (by decide +kernel) (by decide +kernel)
set_option maxRecDepth 20000 in
theorem gX4_follow_X4_bestNext : GoodIn wsX4_follow (wsV RX4 83 RX4 yX4_bestNext wsX4_bestNext) := goodIn_app (goodIn_of _ (by decide +kernel)) ggX4_follow_X4_bestNext
set_option maxRecDepth 20000 in
theorem ggX4_follow_X4_needsWash : GoodIn wsX4_follow wsX4_needsWash := goodIn_r _ [25, 26, 27, 28, 38, 39, 40, 41, 42, 43, 44, 45, 46, 47, 48, 49, 50, 51, 52] (by decide +kernel) (by decide +kernel)
set_option maxRecDepth 20000 in
theorem gX4_follow_X4_needsWash : GoodIn wsX4_follow (wsV RX4 99 RX4 yX4_needsWash wsX4_needsWash) := goodIn_app (goodIn_of _ (by decide +kernel)) ggX4_follow_X4_needsWash
set_option maxRecDepth 20000 in
theorem ggX4_follow_X4_hourAfter : GoodIn wsX4_follow wsX4_hourAfter := goodIn_r _ [32, 33, 34, 38, 39, 40, 41, 42, 43, 44, 45, 46, 47, 48, 49, 50, 51, 52] (by decide +kernel) (by decide +kernel)
set_option maxRecDepth 20000 in
theorem gX4_follow_X4_hourAfter : GoodIn wsX4_follow (wsV RX4 90 RX4 yX4_hourAfter wsX4_hourAfter) := goodIn_app (goodIn_of _ (by decide +kernel)) ggX4_follow_X4_hourAfter
theorem dX4_follow_0 : decode cX4_follow 0 = .ok (.iconst 0, 1) := by decide +kernel
theorem dX4_follow_1 : decode cX4_follow 1 = .ok (.istore_n 1, 1) := by decide +kernel
theorem dX4_follow_2 : decode cX4_follow 2 = .ok (.iconst (-1), 1) := by decide +kernel
theorem dX4_follow_3 : decode cX4_follow 3 = .ok (.istore_n 2, 1) := by decide +kernel
theorem dX4_follow_4 : decode cX4_follow 4 = .ok (.iconst 0, 1) := by decide +kernel
theorem dX4_follow_5 : decode cX4_follow 5 = .ok (.istore_n 3, 1) := by decide +kernel
theorem dX4_follow_6 : decode cX4_follow 6 = .ok (.aload_n 0, 1) := by decide +kernel
theorem dX4_follow_7 : decode cX4_follow 7 = .ok (.iconst 0, 1) := by decide +kernel
theorem dX4_follow_8 : decode cX4_follow 8 = .ok (.putfield 50, 3) := by decide +kernel
theorem dX4_follow_11 : decode cX4_follow 11 = .ok (.iconst 0, 1) := by decide +kernel
theorem dX4_follow_12 : decode cX4_follow 12 = .ok (.istore 4, 2) := by decide +kernel
theorem dX4_follow_14 : decode cX4_follow 14 = .ok (.iload 4, 2) := by decide +kernel
theorem dX4_follow_16 : decode cX4_follow 16 = .ok (.aload_n 0, 1) := by decide +kernel
theorem dX4_follow_17 : decode cX4_follow 17 = .ok (.getfield 47, 3) := by decide +kernel
theorem dX4_follow_20 : decode cX4_follow 20 = .ok (.if_icmp .ge 99, 3) := by decide +kernel
theorem dX4_follow_23 : decode cX4_follow 23 = .ok (.aload_n 0, 1) := by decide +kernel
theorem dX4_follow_24 : decode cX4_follow 24 = .ok (.iload_n 1, 1) := by decide +kernel
theorem dX4_follow_25 : decode cX4_follow 25 = .ok (.iload_n 2, 1) := by decide +kernel
theorem dX4_follow_26 : decode cX4_follow 26 = .ok (.iload_n 3, 1) := by decide +kernel
theorem dX4_follow_27 : decode cX4_follow 27 = .ok (.invokevirtual 83, 3) := by decide +kernel
theorem dX4_follow_30 : decode cX4_follow 30 = .ok (.istore 5, 2) := by decide +kernel
theorem dX4_follow_32 : decode cX4_follow 32 = .ok (.iload 5, 2) := by decide +kernel
theorem dX4_follow_34 : decode cX4_follow 34 = .ok (.iconst (-1), 1) := by decide +kernel
theorem dX4_follow_35 : decode cX4_follow 35 = .ok (.if_icmp .ne 6, 3) := by decide +kernel
theorem dX4_follow_38 : decode cX4_follow 38 = .ok (.goto 81, 3) := by decide +kernel
theorem dX4_follow_41 : decode cX4_follow 41 = .ok (.iload_n 3, 1) := by decide +kernel
theorem dX4_follow_42 : decode cX4_follow 42 = .ok (.aload_n 0, 1) := by decide +kernel
