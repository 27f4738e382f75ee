theorem dX8_agree_89 : decode cX8_agree 89 = .ok (.iconst 1, 1) := by decide +kernel
theorem dX8_agree_90 : decode cX8_agree 90 = .ok (.goto 4, 3) := by decide +kernel
theorem dX8_agree_93 : decode cX8_agree 93 = .ok (.iconst 0, 1) := by decide +kernel
theorem dX8_agree_94 : decode cX8_agree 94 = .ok (.ireturn, 1) := by decide +kernel
theorem dX8_agree_95 : decode cX8_agree 95 = .ok (.aload_n 0, 1) := by decide +kernel
theorem dX8_agree_96 : decode cX8_agree 96 = .ok (.getfield 32, 3) := by decide +kernel
theorem dX8_agree_99 : decode cX8_agree 99 = .ok (.iload_n 1, 1) := by decide +kernel
theorem dX8_agree_100 : decode cX8_agree 100 = .ok (.iaload, 1) := by decide +kernel
theorem dX8_agree_101 : decode cX8_agree 101 = .ok (.aload_n 0, 1) := by decide +kernel
theorem dX8_agree_102 : decode cX8_agree 102 = .ok (.getfield 32, 3) := by decide +kernel
theorem dX8_agree_105 : decode cX8_agree 105 = .ok (.iload_n 2, 1) := by decide +kernel
theorem dX8_agree_106 : decode cX8_agree 106 = .ok (.iaload, 1) := by decide +kernel
theorem dX8_agree_107 : decode cX8_agree 107 = .ok (.isub, 1) := by decide +kernel
theorem dX8_agree_108 : decode cX8_agree 108 = .ok (.istore_n 3, 1) := by decide +kernel
theorem dX8_agree_109 : decode cX8_agree 109 = .ok (.aload_n 0, 1) := by decide +kernel
theorem dX8_agree_110 : decode cX8_agree 110 = .ok (.iload_n 1, 1) := by decide +kernel
theorem dX8_agree_111 : decode cX8_agree 111 = .ok (.invokevirtual 158, 3) := by decide +kernel
theorem dX8_agree_114 : decode cX8_agree 114 = .ok (.ifCond .eq 25, 3) := by decide +kernel
theorem dX8_agree_117 : decode cX8_agree 117 = .ok (.aload_n 0, 1) := by decide +kernel
theorem dX8_agree_118 : decode cX8_agree 118 = .ok (.iload_n 2, 1) := by decide +kernel
theorem dX8_agree_119 : decode cX8_agree 119 = .ok (.invokevirtual 158, 3) := by decide +kernel
theorem dX8_agree_122 : decode cX8_agree 122 = .ok (.ifCond .eq 17, 3) := by decide +kernel
theorem dX8_agree_125 : decode cX8_agree 125 = .ok (.iload_n 3, 1) := by decide +kernel
theorem dX8_agree_126 : decode cX8_agree 126 = .ok (.bipush (-3), 2) := by decide +kernel
theorem dX8_agree_128 : decode cX8_agree 128 = .ok (.iconst 3, 1) := by decide +kernel
theorem dX8_agree_129 : decode cX8_agree 129 = .ok (.invokestatic 133, 3) := by decide +kernel
theorem dX8_agree_132 : decode cX8_agree 132 = .ok (.ifCond .eq 7, 3) := by decide +kernel
theorem dX8_agree_135 : decode cX8_agree 135 = .ok (.iconst 1, 1) := by decide +kernel
theorem dX8_agree_136 : decode cX8_agree 136 = .ok (.goto 4, 3) := by decide +kernel
theorem dX8_agree_139 : decode cX8_agree 139 = .ok (.iconst 0, 1) := by decide +kernel
theorem dX8_agree_140 : decode cX8_agree 140 = .ok (.ireturn, 1) := by decide +kernel
theorem dX8_lotIn_0 : decode cX8_lotIn 0 = .ok (.aload_n 0, 1) := by decide +kernel
theorem dX8_lotIn_1 : decode cX8_lotIn 1 = .ok (.getfield 72, 3) := by decide +kernel
theorem dX8_lotIn_4 : decode cX8_lotIn 4 = .ok (.bipush 12, 2) := by decide +kernel
theorem dX8_lotIn_6 : decode cX8_lotIn 6 = .ok (.iload_n 1, 1) := by decide +kernel
theorem dX8_lotIn_7 : decode cX8_lotIn 7 = .ok (.imul, 1) := by decide +kernel
theorem dX8_lotIn_8 : decode cX8_lotIn 8 = .ok (.iload_n 2, 1) := by decide +kernel
theorem dX8_lotIn_9 : decode cX8_lotIn 9 = .ok (.iadd, 1) := by decide +kernel
theorem dX8_lotIn_10 : decode cX8_lotIn 10 = .ok (.iaload, 1) := by decide +kernel
theorem dX8_lotIn_11 : decode cX8_lotIn 11 = .ok (.ireturn, 1) := by decide +kernel
set_option maxRecDepth 20000 in
theorem ggX8_put_X8_isLot : GoodIn wsX8_put wsX8_isLot := goodIn_r _ [15, 16, 17, 18, 14, 19, 38, 39, 40, 41, 42, 43, 44, 45, 46, 47, 48, 49, 50, 51, 52, 53, 54, 55, 56, 57, 58, 59, 60, 61, 62, 63, 64, 65, 66, 67, 68, 69, 70, 71, 72, 73, 74, 75, 76, 77, 78, 79, 80, 81, 82, 83, 84, 85, 86, 87, 88, 89, 90, 91] (by decide +kernel) (by decide +kernel)
set_option maxRecDepth 20000 in
theorem gX8_put_X8_isLot : GoodIn wsX8_put (wsV RX8 147 RX8 yX8_isLot wsX8_isLot) := goodIn_app (goodIn_of _ (by decide +kernel)) ggX8_put_X8_isLot
set_option maxRecDepth 20000 in
theorem ggX8_put_X8_isMill : GoodIn wsX8_put wsX8_isMill := goodIn_r _ [23, 17, 18, 14, 19] (by decide +kernel) (by decide +kernel)
set_option maxRecDepth 20000 in
theorem gX8_put_X8_isMill : GoodIn wsX8_put (wsV RX8 155 RX8 yX8_isMill wsX8_isMill) := goodIn_app (goodIn_of _ (by decide +kernel)) ggX8_put_X8_isMill
set_option maxRecDepth 20000 in
theorem ggX8_put_X8_lotIn : GoodIn wsX8_put wsX8_lotIn := goodIn_r _ [27, 9, 38, 39, 40, 41, 42, 43, 44, 45, 46, 47, 48, 49, 50, 51, 52, 53, 54, 55, 56, 57, 58, 59, 60, 61, 62, 63, 64, 65, 66, 67, 68, 69, 70, 71, 72, 73, 74, 75, 76, 77, 78, 79, 80, 81, 82, 83, 84, 85, 86, 87, 88, 89, 90, 91] (by decide +kernel) (by decide +kernel)
set_option maxRecDepth 20000 in
theorem gX8_put_X8_lotIn : GoodIn wsX8_put (wsV RX8 161 RX8 yX8_lotIn wsX8_lotIn) := goodIn_app (goodIn_of _ (by decide +kernel)) ggX8_put_X8_lotIn
set_option maxRecDepth 20000 in
theorem ggX8_put_X8_agree : GoodIn wsX8_put wsX8_agree := goodIn_r _ [31, 4, 7, 8, 32, 33, 34, 35, 36, 14, 37, 17, 18, 19, 38, 39, 40, 41, 42, 43, 44, 45, 46, 47, 48, 49, 50, 51, 52, 53, 54, 55, 56, 57, 58, 59, 60, 61, 62, 63, 64, 65, 66, 67, 68, 69, 70, 71, 72, 73, 74, 75, 76, 77, 78, 79, 80, 81, 82, 83, 84, 85, 86, 87, 88, 89, 90, 91] (by decide +kernel) (by decide +kernel)
set_option maxRecDepth 20000 in
theorem gX8_put_X8_agree : GoodIn wsX8_put (wsV RX8 165 RX8 yX8_agree wsX8_agree) := goodIn_app (goodIn_of _ (by decide +kernel)) ggX8_put_X8_agree
theorem dX8_put_0 : decode cX8_put 0 = .ok (.aload_n 0, 1) := by decide +kernel
theorem dX8_put_1 : decode cX8_put 1 = .ok (.iload_n 1, 1) := by decide +kernel
theorem dX8_put_2 : decode cX8_put 2 = .ok (.invokevirtual 147, 3) := by decide +kernel
theorem dX8_put_5 : decode cX8_put 5 = .ok (.ifCond .eq 41, 3) := by decide +kernel
theorem dX8_put_8 : decode cX8_put 8 = .ok (.aload_n 0, 1) := by decide +kernel
theorem dX8_put_9 : decode cX8_put 9 = .ok (.getfield 35, 3) := by decide +kernel
theorem dX8_put_12 : decode cX8_put 12 = .ok (.iload_n 1, 1) := by decide +kernel
theorem dX8_put_13 : decode cX8_put 13 = .ok (.iaload, 1) := by decide +kernel
theorem dX8_put_14 : decode cX8_put 14 = .ok (.iconst 2, 1) := by decide +kernel
theorem dX8_put_15 : decode cX8_put 15 = .ok (.if_icmp .ne 31, 3) := by decide +kernel
theorem dX8_put_18 : decode cX8_put 18 = .ok (.aload_n 0, 1) := by decide +kernel
theorem dX8_put_19 : decode cX8_put 19 = .ok (.iload_n 2, 1) := by decide +kernel
theorem dX8_put_20 : decode cX8_put 20 = .ok (.invokevirtual 155, 3) := by decide +kernel
theorem dX8_put_23 : decode cX8_put 23 = .ok (.ifCond .eq 23, 3) := by decide +kernel
theorem dX8_put_26 : decode cX8_put 26 = .ok (.aload_n 0, 1) := by decide +kernel
theorem dX8_put_27 : decode cX8_put 27 = .ok (.getfield 75, 3) := by decide +kernel
theorem dX8_put_30 : decode cX8_put 30 = .ok (.iload_n 2, 1) := by decide +kernel
theorem dX8_put_31 : decode cX8_put 31 = .ok (.baload, 1) := by decide +kernel
theorem dX8_put_32 : decode cX8_put 32 = .ok (.ifCond .ne 14, 3) := by decide +kernel
theorem dX8_put_35 : decode cX8_put 35 = .ok (.aload_n 0, 1) := by decide +kernel
theorem dX8_put_36 : decode cX8_put 36 = .ok (.getfield 69, 3) := by decide +kernel
theorem dX8_put_39 : decode cX8_put 39 = .ok (.iload_n 2, 1) := by decide +kernel
theorem dX8_put_40 : decode cX8_put 40 = .ok (.iaload, 1) := by decide +kernel
theorem dX8_put_41 : decode cX8_put 41 = .ok (.bipush 12, 2) := by decide +kernel
theorem dX8_put_43 : decode cX8_put 43 = .ok (.if_icmp .ne 5, 3) := by decide +kernel
theorem dX8_put_46 : decode cX8_put 46 = .ok (.iconst (-1), 1) := by decide +kernel
theorem dX8_put_47 : decode cX8_put 47 = .ok (.ireturn, 1) := by decide +kernel
theorem dX8_put_48 : decode cX8_put 48 = .ok (.iconst 0, 1) := by decide +kernel
theorem dX8_put_49 : decode cX8_put 49 = .ok (.istore_n 3, 1) := by decide +kernel
theorem dX8_put_50 : decode cX8_put 50 = .ok (.iload_n 3, 1) := by decide +kernel
theorem dX8_put_51 : decode cX8_put 51 = .ok (.aload_n 0, 1) := by decide +kernel
theorem dX8_put_52 : decode cX8_put 52 = .ok (.getfield 69, 3) := by decide +kernel
theorem dX8_put_55 : decode cX8_put 55 = .ok (.iload_n 2, 1) := by decide +kernel
theorem dX8_put_56 : decode cX8_put 56 = .ok (.iaload, 1) := by decide +kernel
theorem dX8_put_57 : decode cX8_put 57 = .ok (.if_icmp .ge 25, 3) := by decide +kernel
theorem dX8_put_60 : decode cX8_put 60 = .ok (.aload_n 0, 1) := by decide +kernel
theorem dX8_put_61 : decode cX8_put 61 = .ok (.iload_n 1, 1) := by decide +kernel
theorem dX8_put_62 : decode cX8_put 62 = .ok (.aload_n 0, 1) := by decide +kernel
theorem dX8_put_63 : decode cX8_put 63 = .ok (.iload_n 2, 1) := by decide +kernel
theorem dX8_put_64 : decode cX8_put 64 = .ok (.iload_n 3, 1) := by decide +kernel
theorem dX8_put_65 : decode cX8_put 65 = .ok (.invokevirtual 161, 3) := by decide +kernel
theorem dX8_put_68 : decode cX8_put 68 = .ok (.invokevirtual 165, 3) := by decide +kernel
theorem dX8_put_71 : decode cX8_put 71 = .ok (.ifCond .ne 5, 3) := by decide +kernel
theorem dX8_put_74 : decode cX8_put 74 = .ok (.iconst (-1), 1) := by decide +kernel
theorem dX8_put_75 : decode cX8_put 75 = .ok (.ireturn, 1) := by decide +kernel
theorem dX8_put_76 : decode cX8_put 76 = .ok (.iinc 3 1, 3) := by decide +kernel
theorem dX8_put_79 : decode cX8_put 79 = .ok (.goto (-29), 3) := by decide +kernel
theorem dX8_put_82 : decode cX8_put 82 = .ok (.aload_n 0, 1) := by decide +kernel
theorem dX8_put_83 : decode cX8_put 83 = .ok (.getfield 69, 3) := by decide +kernel
theorem dX8_put_86 : decode cX8_put 86 = .ok (.iload_n 2, 1) := by decide +kernel
theorem dX8_put_87 : decode cX8_put 87 = .ok (.iaload, 1) := by decide +kernel
theorem dX8_put_88 : decode cX8_put 88 = .ok (.ifCond .ne 44, 3) := by decide +kernel
theorem dX8_put_91 : decode cX8_put 91 = .ok (.aload_n 0, 1) := by decide +kernel
theorem dX8_put_92 : decode cX8_put 92 = .ok (.getfield 26, 3) := by decide +kernel
theorem dX8_put_95 : decode cX8_put 95 = .ok (.iload_n 1, 1) := by decide +kernel
theorem dX8_put_96 : decode cX8_put 96 = .ok (.iaload, 1) := by decide +kernel
theorem dX8_put_97 : decode cX8_put 97 = .ok (.iconst 2, 1) := by decide +kernel
theorem dX8_put_98 : decode cX8_put 98 = .ok (.if_icmp .ne 34, 3) := by decide +kernel
theorem dX8_put_101 : decode cX8_put 101 = .ok (.aload_n 0, 1) := by decide +kernel
theorem dX8_put_102 : decode cX8_put 102 = .ok (.getfield 78, 3) := by decide +kernel
theorem dX8_put_105 : decode cX8_put 105 = .ok (.iload_n 2, 1) := by decide +kernel
theorem dX8_put_106 : decode cX8_put 106 = .ok (.baload, 1) := by decide +kernel
theorem dX8_put_107 : decode cX8_put 107 = .ok (.ifCond .ne 25, 3) := by decide +kernel
theorem dX8_put_110 : decode cX8_put 110 = .ok (.aload_n 0, 1) := by decide +kernel
theorem dX8_put_111 : decode cX8_put 111 = .ok (.getfield 81, 3) := by decide +kernel
theorem dX8_put_114 : decode cX8_put 114 = .ok (.iload_n 2, 1) := by decide +kernel
theorem dX8_put_115 : decode cX8_put 115 = .ok (.iaload, 1) := by decide +kernel
theorem dX8_put_116 : decode cX8_put 116 = .ok (.aload_n 0, 1) := by decide +kernel
theorem dX8_put_117 : decode cX8_put 117 = .ok (.getfield 23, 3) := by decide +kernel
theorem dX8_put_120 : decode cX8_put 120 = .ok (.aload_n 0, 1) := by decide +kernel
theorem dX8_put_121 : decode cX8_put 121 = .ok (.getfield 29, 3) := by decide +kernel
theorem dX8_put_124 : decode cX8_put 124 = .ok (.iload_n 1, 1) := by decide +kernel
theorem dX8_put_125 : decode cX8_put 125 = .ok (.iaload, 1) := by decide +kernel
theorem dX8_put_126 : decode cX8_put 126 = .ok (.iaload, 1) := by decide +kernel
theorem dX8_put_127 : decode cX8_put 127 = .ok (.if_icmp .eq 5, 3) := by decide +kernel
theorem dX8_put_130 : decode cX8_put 130 = .ok (.iconst (-1), 1) := by decide +kernel
theorem dX8_put_131 : decode cX8_put 131 = .ok (.ireturn, 1) := by decide +kernel
theorem dX8_put_132 : decode cX8_put 132 = .ok (.aload_n 0, 1) := by decide +kernel
theorem dX8_put_133 : decode cX8_put 133 = .ok (.getfield 72, 3) := by decide +kernel
theorem dX8_put_136 : decode cX8_put 136 = .ok (.bipush 12, 2) := by decide +kernel
theorem dX8_put_138 : decode cX8_put 138 = .ok (.iload_n 2, 1) := by decide +kernel
theorem dX8_put_139 : decode cX8_put 139 = .ok (.imul, 1) := by decide +kernel
theorem dX8_put_140 : decode cX8_put 140 = .ok (.aload_n 0, 1) := by decide +kernel
theorem dX8_put_141 : decode cX8_put 141 = .ok (.getfield 69, 3) := by decide +kernel
theorem dX8_put_144 : decode cX8_put 144 = .ok (.iload_n 2, 1) := by decide +kernel
theorem dX8_put_145 : decode cX8_put 145 = .ok (.iaload, 1) := by decide +kernel
theorem dX8_put_146 : decode cX8_put 146 = .ok (.iadd, 1) := by decide +kernel
theorem dX8_put_147 : decode cX8_put 147 = .ok (.iload_n 1, 1) := by decide +kernel
theorem dX8_put_148 : decode cX8_put 148 = .ok (.iastore, 1) := by decide +kernel
theorem dX8_put_149 : decode cX8_put 149 = .ok (.aload_n 0, 1) := by decide +kernel
theorem dX8_put_150 : decode cX8_put 150 = .ok (.getfield 69, 3) := by decide +kernel
theorem dX8_put_153 : decode cX8_put 153 = .ok (.iload_n 2, 1) := by decide +kernel
theorem dX8_put_154 : decode cX8_put 154 = .ok (.dup2, 1) := by decide +kernel
theorem dX8_put_155 : decode cX8_put 155 = .ok (.iaload, 1) := by decide +kernel
theorem dX8_put_156 : decode cX8_put 156 = .ok (.iconst 1, 1) := by decide +kernel
theorem dX8_put_157 : decode cX8_put 157 = .ok (.iadd, 1) := by decide +kernel
theorem dX8_put_158 : decode cX8_put 158 = .ok (.iastore, 1) := by decide +kernel
theorem dX8_put_159 : decode cX8_put 159 = .ok (.aload_n 0, 1) := by decide +kernel
theorem dX8_put_160 : decode cX8_put 160 = .ok (.getfield 35, 3) := by decide +kernel
theorem dX8_put_163 : decode cX8_put 163 = .ok (.iload_n 1, 1) := by decide +kernel
theorem dX8_put_164 : decode cX8_put 164 = .ok (.iconst 3, 1) := by decide +kernel
theorem dX8_put_165 : decode cX8_put 165 = .ok (.iastore, 1) := by decide +kernel
theorem dX8_put_166 : decode cX8_put 166 = .ok (.aload_n 0, 1) := by decide +kernel
theorem dX8_put_167 : decode cX8_put 167 = .ok (.getfield 53, 3) := by decide +kernel
theorem dX8_put_170 : decode cX8_put 170 = .ok (.iload_n 1, 1) := by decide +kernel
theorem dX8_put_171 : decode cX8_put 171 = .ok (.iload_n 2, 1) := by decide +kernel
theorem dX8_put_172 : decode cX8_put 172 = .ok (.iastore, 1) := by decide +kernel
theorem dX8_put_173 : decode cX8_put 173 = .ok (.aload_n 0, 1) := by decide +kernel
theorem dX8_put_174 : decode cX8_put 174 = .ok (.getfield 69, 3) := by decide +kernel
theorem dX8_put_177 : decode cX8_put 177 = .ok (.iload_n 2, 1) := by decide +kernel
theorem dX8_put_178 : decode cX8_put 178 = .ok (.iaload, 1) := by decide +kernel
theorem dX8_put_179 : decode cX8_put 179 = .ok (.ireturn, 1) := by decide +kernel
set_option maxRecDepth 20000 in
theorem ggX8_take_X8_isLot : GoodIn wsX8_take wsX8_isLot := goodIn_r _ [10, 11, 12, 13, 9, 14, 19, 20, 21, 22, 23, 24, 25, 26, 27, 28, 29, 30, 31, 32, 33, 34, 35, 36, 37, 38, 39, 40, 41, 42, 43, 44, 45, 46, 47, 48, 49, 50, 51, 52, 53, 54, 55, 56, 57, 58, 59, 60, 61, 62, 63, 64, 65, 66, 67, 68, 69, 70, 71, 72] (by decide +kernel) (by decide +kernel)
set_option maxRecDepth 20000 in
theorem gX8_take_X8_isLot : GoodIn wsX8_take (wsV RX8 147 RX8 yX8_isLot wsX8_isLot) := goodIn_app (goodIn_of _ (by decide +kernel)) ggX8_take_X8_isLot
set_option maxRecDepth 20000 in
theorem ggX8_take_X8_lotIn : GoodIn wsX8_take wsX8_lotIn := goodIn_r _ [18, 5, 19, 20, 21, 22, 23, 24, 25, 26, 27, 28, 29, 30, 31, 32, 33, 34, 35, 36, 37, 38, 39, 40, 41, 42, 43, 44, 45, 46, 47, 48, 49, 50, 51, 52, 53, 54, 55, 56, 57, 58, 59, 60, 61, 62, 63, 64, 65, 66, 67, 68, 69, 70, 71, 72] (by decide +kernel) (by decide +kernel)
set_option maxRecDepth 20000 in
theorem gX8_take_X8_lotIn : GoodIn wsX8_take (wsV RX8 161 RX8 yX8_lotIn wsX8_lotIn) := goodIn_app (goodIn_of _ (by decide +kernel)) ggX8_take_X8_lotIn
theorem dX8_take_0 : decode cX8_take 0 = .ok (.aload_n 0, 1) := by decide +kernel
theorem dX8_take_1 : decode cX8_take 1 = .ok (.iload_n 1, 1) := by decide +kernel
theorem dX8_take_2 : decode cX8_take 2 = .ok (.invokevirtual 147, 3) := by decide +kernel
theorem dX8_take_5 : decode cX8_take 5 = .ok (.ifCond .eq 27, 3) := by decide +kernel
theorem dX8_take_8 : decode cX8_take 8 = .ok (.aload_n 0, 1) := by decide +kernel
theorem dX8_take_9 : decode cX8_take 9 = .ok (.getfield 35, 3) := by decide +kernel
theorem dX8_take_12 : decode cX8_take 12 = .ok (.iload_n 1, 1) := by decide +kernel
theorem dX8_take_13 : decode cX8_take 13 = .ok (.iaload, 1) := by decide +kernel
theorem dX8_take_14 : decode cX8_take 14 = .ok (.iconst 3, 1) := by decide +kernel
theorem dX8_take_15 : decode cX8_take 15 = .ok (.if_icmp .ne 17, 3) := by decide +kernel
theorem dX8_take_18 : decode cX8_take 18 = .ok (.aload_n 0, 1) := by decide +kernel
theorem dX8_take_19 : decode cX8_take 19 = .ok (.getfield 75, 3) := by decide +kernel
theorem dX8_take_22 : decode cX8_take 22 = .ok (.aload_n 0, 1) := by decide +kernel
theorem dX8_take_23 : decode cX8_take 23 = .ok (.getfield 53, 3) := by decide +kernel
theorem dX8_take_26 : decode cX8_take 26 = .ok (.iload_n 1, 1) := by decide +kernel
theorem dX8_take_27 : decode cX8_take 27 = .ok (.iaload, 1) := by decide +kernel
theorem dX8_take_28 : decode cX8_take 28 = .ok (.baload, 1) := by decide +kernel
theorem dX8_take_29 : decode cX8_take 29 = .ok (.ifCond .eq 5, 3) := by decide +kernel
theorem dX8_take_32 : decode cX8_take 32 = .ok (.iconst 0, 1) := by decide +kernel
theorem dX8_take_33 : decode cX8_take 33 = .ok (.ireturn, 1) := by decide +kernel
theorem dX8_take_34 : decode cX8_take 34 = .ok (.aload_n 0, 1) := by decide +kernel
theorem dX8_take_35 : decode cX8_take 35 = .ok (.getfield 53, 3) := by decide +kernel
theorem dX8_take_38 : decode cX8_take 38 = .ok (.iload_n 1, 1) := by decide +kernel
theorem dX8_take_39 : decode cX8_take 39 = .ok (.iaload, 1) := by decide +kernel
theorem dX8_take_40 : decode cX8_take 40 = .ok (.istore_n 2, 1) := by decide +kernel
theorem dX8_take_41 : decode cX8_take 41 = .ok (.iconst 0, 1) := by decide +kernel
theorem dX8_take_42 : decode cX8_take 42 = .ok (.istore_n 3, 1) := by decide +kernel
theorem dX8_take_43 : decode cX8_take 43 = .ok (.iconst 0, 1) := by decide +kernel
theorem dX8_take_44 : decode cX8_take 44 = .ok (.istore 4, 2) := by decide +kernel
theorem dX8_take_46 : decode cX8_take 46 = .ok (.iload 4, 2) := by decide +kernel
theorem dX8_take_48 : decode cX8_take 48 = .ok (.aload_n 0, 1) := by decide +kernel
theorem dX8_take_49 : decode cX8_take 49 = .ok (.getfield 69, 3) := by decide +kernel
theorem dX8_take_52 : decode cX8_take 52 = .ok (.iload_n 2, 1) := by decide +kernel
theorem dX8_take_53 : decode cX8_take 53 = .ok (.iaload, 1) := by decide +kernel
theorem dX8_take_54 : decode cX8_take 54 = .ok (.if_icmp .ge 44, 3) := by decide +kernel
theorem dX8_take_57 : decode cX8_take 57 = .ok (.aload_n 0, 1) := by decide +kernel
theorem dX8_take_58 : decode cX8_take 58 = .ok (.iload_n 2, 1) := by decide +kernel
theorem dX8_take_59 : decode cX8_take 59 = .ok (.iload 4, 2) := by decide +kernel
theorem dX8_take_61 : decode cX8_take 61 = .ok (.invokevirtual 161, 3) := by decide +kernel
theorem dX8_take_64 : decode cX8_take 64 = .ok (.iload_n 1, 1) := by decide +kernel
theorem dX8_take_65 : decode cX8_take 65 = .ok (.if_icmp .ne 6, 3) := by decide +kernel
theorem dX8_take_68 : decode cX8_take 68 = .ok (.goto 24, 3) := by decide +kernel
theorem dX8_take_71 : decode cX8_take 71 = .ok (.aload_n 0, 1) := by decide +kernel
theorem dX8_take_72 : decode cX8_take 72 = .ok (.getfield 72, 3) := by decide +kernel
theorem dX8_take_75 : decode cX8_take 75 = .ok (.bipush 12, 2) := by decide +kernel
theorem dX8_take_77 : decode cX8_take 77 = .ok (.iload_n 2, 1) := by decide +kernel
theorem dX8_take_78 : decode cX8_take 78 = .ok (.imul, 1) := by decide +kernel
theorem dX8_take_79 : decode cX8_take 79 = .ok (.iload_n 3, 1) := by decide +kernel
theorem dX8_take_80 : decode cX8_take 80 = .ok (.iadd, 1) := by decide +kernel
theorem dX8_take_81 : decode cX8_take 81 = .ok (.aload_n 0, 1) := by decide +kernel
theorem dX8_take_82 : decode cX8_take 82 = .ok (.iload_n 2, 1) := by decide +kernel
theorem dX8_take_83 : decode cX8_take 83 = .ok (.iload 4, 2) := by decide +kernel
theorem dX8_take_85 : decode cX8_take 85 = .ok (.invokevirtual 161, 3) := by decide +kernel
theorem dX8_take_88 : decode cX8_take 88 = .ok (.iastore, 1) := by decide +kernel
theorem dX8_take_89 : decode cX8_take 89 = .ok (.iinc 3 1, 3) := by decide +kernel
theorem dX8_take_92 : decode cX8_take 92 = .ok (.iinc 4 1, 3) := by decide +kernel
theorem dX8_take_95 : decode cX8_take 95 = .ok (.goto (-49), 3) := by decide +kernel
theorem dX8_take_98 : decode cX8_take 98 = .ok (.aload_n 0, 1) := by decide +kernel
theorem dX8_take_99 : decode cX8_take 99 = .ok (.getfield 69, 3) := by decide +kernel
theorem dX8_take_102 : decode cX8_take 102 = .ok (.iload_n 2, 1) := by decide +kernel
theorem dX8_take_103 : decode cX8_take 103 = .ok (.iload_n 3, 1) := by decide +kernel
theorem dX8_take_104 : decode cX8_take 104 = .ok (.iastore, 1) := by decide +kernel
theorem dX8_take_105 : decode cX8_take 105 = .ok (.aload_n 0, 1) := by decide +kernel
theorem dX8_take_106 : decode cX8_take 106 = .ok (.getfield 35, 3) := by decide +kernel
theorem dX8_take_109 : decode cX8_take 109 = .ok (.iload_n 1, 1) := by decide +kernel
theorem dX8_take_110 : decode cX8_take 110 = .ok (.iconst 2, 1) := by decide +kernel
theorem dX8_take_111 : decode cX8_take 111 = .ok (.iastore, 1) := by decide +kernel
theorem dX8_take_112 : decode cX8_take 112 = .ok (.aload_n 0, 1) := by decide +kernel
theorem dX8_take_113 : decode cX8_take 113 = .ok (.getfield 53, 3) := by decide +kernel
theorem dX8_take_116 : decode cX8_take 116 = .ok (.iload_n 1, 1) := by decide +kernel
theorem dX8_take_117 : decode cX8_take 117 = .ok (.iconst (-1), 1) := by decide +kernel
theorem dX8_take_118 : decode cX8_take 118 = .ok (.iastore, 1) := by decide +kernel
theorem dX8_take_119 : decode cX8_take 119 = .ok (.iconst 1, 1) := by decide +kernel
theorem dX8_take_120 : decode cX8_take 120 = .ok (.ireturn, 1) := by decide +kernel
set_option maxRecDepth 20000 in
theorem ggX8_wash_X8_isMill : GoodIn wsX8_wash wsX8_isMill := goodIn_r _ [9, 10, 11, 8, 12] (by decide +kernel) (by decide +kernel)
set_option maxRecDepth 20000 in
theorem gX8_wash_X8_isMill : GoodIn wsX8_wash (wsV RX8 155 RX8 yX8_isMill wsX8_isMill) := goodIn_app (goodIn_of _ (by decide +kernel)) ggX8_wash_X8_isMill
theorem dX8_wash_0 : decode cX8_wash 0 = .ok (.aload_n 0, 1) := by decide +kernel
theorem dX8_wash_1 : decode cX8_wash 1 = .ok (.iload_n 1, 1) := by decide +kernel
theorem dX8_wash_2 : decode cX8_wash 2 = .ok (.invokevirtual 155, 3) := by decide +kernel
theorem dX8_wash_5 : decode cX8_wash 5 = .ok (.ifCond .eq 25, 3) := by decide +kernel
theorem dX8_wash_8 : decode cX8_wash 8 = .ok (.aload_n 0, 1) := by decide +kernel
theorem dX8_wash_9 : decode cX8_wash 9 = .ok (.getfield 69, 3) := by decide +kernel
theorem dX8_wash_12 : decode cX8_wash 12 = .ok (.iload_n 1, 1) := by decide +kernel
theorem dX8_wash_13 : decode cX8_wash 13 = .ok (.iaload, 1) := by decide +kernel
theorem dX8_wash_14 : decode cX8_wash 14 = .ok (.ifCond .gt 16, 3) := by decide +kernel
theorem dX8_wash_17 : decode cX8_wash 17 = .ok (.aload_n 0, 1) := by decide +kernel
theorem dX8_wash_18 : decode cX8_wash 18 = .ok (.getfield 127, 3) := by decide +kernel
theorem dX8_wash_21 : decode cX8_wash 21 = .ok (.aload_n 0, 1) := by decide +kernel
theorem dX8_wash_22 : decode cX8_wash 22 = .ok (.getfield 66, 3) := by decide +kernel
theorem dX8_wash_25 : decode cX8_wash 25 = .ok (.iload_n 1, 1) := by decide +kernel
theorem dX8_wash_26 : decode cX8_wash 26 = .ok (.iaload, 1) := by decide +kernel
theorem dX8_wash_27 : decode cX8_wash 27 = .ok (.if_icmp .ge 5, 3) := by decide +kernel
theorem dX8_wash_30 : decode cX8_wash 30 = .ok (.iconst 0, 1) := by decide +kernel
theorem dX8_wash_31 : decode cX8_wash 31 = .ok (.ireturn, 1) := by decide +kernel
theorem dX8_wash_32 : decode cX8_wash 32 = .ok (.aload_n 0, 1) := by decide +kernel
theorem dX8_wash_33 : decode cX8_wash 33 = .ok (.getfield 66, 3) := by decide +kernel
theorem dX8_wash_36 : decode cX8_wash 36 = .ok (.iload_n 1, 1) := by decide +kernel
theorem dX8_wash_37 : decode cX8_wash 37 = .ok (.aload_n 0, 1) := by decide +kernel
theorem dX8_wash_38 : decode cX8_wash 38 = .ok (.getfield 127, 3) := by decide +kernel
theorem dX8_wash_41 : decode cX8_wash 41 = .ok (.iconst 2, 1) := by decide +kernel
theorem dX8_wash_42 : decode cX8_wash 42 = .ok (.iadd, 1) := by decide +kernel
theorem dX8_wash_43 : decode cX8_wash 43 = .ok (.iastore, 1) := by decide +kernel
theorem dX8_wash_44 : decode cX8_wash 44 = .ok (.aload_n 0, 1) := by decide +kernel
theorem dX8_wash_45 : decode cX8_wash 45 = .ok (.getfield 78, 3) := by decide +kernel
theorem dX8_wash_48 : decode cX8_wash 48 = .ok (.iload_n 1, 1) := by decide +kernel
theorem dX8_wash_49 : decode cX8_wash 49 = .ok (.iconst 1, 1) := by decide +kernel
theorem dX8_wash_50 : decode cX8_wash 50 = .ok (.bastore, 1) := by decide +kernel
theorem dX8_wash_51 : decode cX8_wash 51 = .ok (.iconst 1, 1) := by decide +kernel
theorem dX8_wash_52 : decode cX8_wash 52 = .ok (.ireturn, 1) := by decide +kernel
set_option maxRecDepth 20000 in
theorem ggX8_sumOf_X8_lotIn : GoodIn wsX8_sumOf wsX8_lotIn := goodIn_r _ [7, 8, 9, 10, 11, 12, 13, 14, 15, 16, 17, 18, 19, 20, 21, 22, 23, 24, 25, 26, 27, 28, 29, 30, 31, 32, 33, 34, 35, 36, 37, 38, 39, 40, 41, 42, 43, 44, 45, 46, 47, 48, 49, 50, 51, 52, 53, 54, 55, 56, 57, 58, 59, 60, 61, 62] (by decide +kernel) (by decide +kernel)
set_option maxRecDepth 20000 in
theorem gX8_sumOf_X8_lotIn : GoodIn wsX8_sumOf (wsV RX8 161 RX8 yX8_lotIn wsX8_lotIn) := goodIn_app (goodIn_of _ (by decide +kernel)) ggX8_sumOf_X8_lotIn
theorem dX8_sumOf_0 : decode cX8_sumOf 0 = .ok (.iconst 0, 1) := by decide +kernel
theorem dX8_sumOf_1 : decode cX8_sumOf 1 = .ok (.istore_n 2, 1) := by decide +kernel
theorem dX8_sumOf_2 : decode cX8_sumOf 2 = .ok (.iconst 0, 1) := by decide +kernel
theorem dX8_sumOf_3 : decode cX8_sumOf 3 = .ok (.istore_n 3, 1) := by decide +kernel
theorem dX8_sumOf_4 : decode cX8_sumOf 4 = .ok (.iload_n 3, 1) := by decide +kernel
theorem dX8_sumOf_5 : decode cX8_sumOf 5 = .ok (.aload_n 0, 1) := by decide +kernel
theorem dX8_sumOf_6 : decode cX8_sumOf 6 = .ok (.getfield 69, 3) := by decide +kernel
theorem dX8_sumOf_9 : decode cX8_sumOf 9 = .ok (.iload_n 1, 1) := by decide +kernel
theorem dX8_sumOf_10 : decode cX8_sumOf 10 = .ok (.iaload, 1) := by decide +kernel
theorem dX8_sumOf_11 : decode cX8_sumOf 11 = .ok (.if_icmp .ge 23, 3) := by decide +kernel
theorem dX8_sumOf_14 : decode cX8_sumOf 14 = .ok (.iload_n 2, 1) := by decide +kernel
theorem dX8_sumOf_15 : decode cX8_sumOf 15 = .ok (.aload_n 0, 1) := by decide +kernel
theorem dX8_sumOf_16 : decode cX8_sumOf 16 = .ok (.getfield 38, 3) := by decide +kernel
theorem dX8_sumOf_19 : decode cX8_sumOf 19 = .ok (.aload_n 0, 1) := by decide +kernel
theorem dX8_sumOf_20 : decode cX8_sumOf 20 = .ok (.iload_n 1, 1) := by decide +kernel
theorem dX8_sumOf_21 : decode cX8_sumOf 21 = .ok (.iload_n 3, 1) := by decide +kernel
theorem dX8_sumOf_22 : decode cX8_sumOf 22 = .ok (.invokevirtual 161, 3) := by decide +kernel
theorem dX8_sumOf_25 : decode cX8_sumOf 25 = .ok (.iaload, 1) := by decide +kernel
theorem dX8_sumOf_26 : decode cX8_sumOf 26 = .ok (.iadd, 1) := by decide +kernel
theorem dX8_sumOf_27 : decode cX8_sumOf 27 = .ok (.istore_n 2, 1) := by decide +kernel
theorem dX8_sumOf_28 : decode cX8_sumOf 28 = .ok (.iinc 3 1, 3) := by decide +kernel
theorem dX8_sumOf_31 : decode cX8_sumOf 31 = .ok (.goto (-27), 3) := by decide +kernel
theorem dX8_sumOf_34 : decode cX8_sumOf 34 = .ok (.iload_n 2, 1) := by decide +kernel
theorem dX8_sumOf_35 : decode cX8_sumOf 35 = .ok (.ireturn, 1) := by decide +kernel
theorem dX8_hours_0 : decode cX8_hours 0 = .ok (.iload_n 1, 1) := by decide +kernel
theorem dX8_hours_1 : decode cX8_hours 1 = .ok (.aload_n 0, 1) := by decide +kernel
theorem dX8_hours_2 : decode cX8_hours 2 = .ok (.getfield 63, 3) := by decide +kernel
theorem dX8_hours_5 : decode cX8_hours 5 = .ok (.iload_n 2, 1) := by decide +kernel
theorem dX8_hours_6 : decode cX8_hours 6 = .ok (.iaload, 1) := by decide +kernel
theorem dX8_hours_7 : decode cX8_hours 7 = .ok (.iadd, 1) := by decide +kernel
theorem dX8_hours_8 : decode cX8_hours 8 = .ok (.iconst 1, 1) := by decide +kernel
theorem dX8_hours_9 : decode cX8_hours 9 = .ok (.isub, 1) := by decide +kernel
theorem dX8_hours_10 : decode cX8_hours 10 = .ok (.aload_n 0, 1) := by decide +kernel
theorem dX8_hours_11 : decode cX8_hours 11 = .ok (.getfield 63, 3) := by decide +kernel
theorem dX8_hours_14 : decode cX8_hours 14 = .ok (.iload_n 2, 1) := by decide +kernel
theorem dX8_hours_15 : decode cX8_hours 15 = .ok (.iaload, 1) := by decide +kernel
theorem dX8_hours_16 : decode cX8_hours 16 = .ok (.idiv, 1) := by decide +kernel
theorem dX8_hours_17 : decode cX8_hours 17 = .ok (.ireturn, 1) := by decide +kernel
set_option maxRecDepth 20000 in
theorem ggX8_mayBegin_X8_lotIn : GoodIn wsX8_mayBegin wsX8_lotIn := goodIn_r _ [11, 12, 18, 19, 20, 21, 22, 23, 24, 25, 26, 27, 28, 29, 30, 31, 32, 33, 34, 35, 36, 37, 38, 39, 40, 41, 42, 43, 44, 45, 46, 47, 48, 49, 50, 51, 52, 53, 54, 55, 56, 57, 58, 59, 60, 61, 62, 63, 64, 65, 66, 67, 68, 69, 70, 71] (by decide +kernel) (by decide +kernel)
set_option maxRecDepth 20000 in
theorem gX8_mayBegin_X8_lotIn : GoodIn wsX8_mayBegin (wsV RX8 161 RX8 yX8_lotIn wsX8_lotIn) := goodIn_app (goodIn_of _ (by decide +kernel)) ggX8_mayBegin_X8_lotIn
set_option maxRecDepth 20000 in
theorem ggX8_mayBegin_X8_sumOf : GoodIn wsX8_mayBegin wsX8_sumOf := goodIn_r _ [16, 4, 17, 7, 8, 9, 10, 11, 12, 18, 19, 20, 21, 22, 23, 24, 25, 26, 27, 28, 29, 30, 31, 32, 33, 34, 35, 36, 37, 38, 39, 40, 41, 42, 43, 44, 45, 46, 47, 48, 49, 50, 51, 52, 53, 54, 55, 56, 57, 58, 59, 60, 61, 62, 63, 64, 65, 66, 67, 68, 69, 70, 71] (by decide +kernel) (by decide +kernel)
set_option maxRecDepth 20000 in
theorem gX8_mayBegin_X8_sumOf : GoodIn wsX8_mayBegin (wsV RX8 169 RX8 yX8_sumOf wsX8_sumOf) := goodIn_app (goodIn_of _ (by decide +kernel)) ggX8_mayBegin_X8_sumOf
theorem dX8_mayBegin_0 : decode cX8_mayBegin 0 = .ok (.aload_n 0, 1) := by decide +kernel
theorem dX8_mayBegin_1 : decode cX8_mayBegin 1 = .ok (.getfield 75, 3) := by decide +kernel
theorem dX8_mayBegin_4 : decode cX8_mayBegin 4 = .ok (.iload_n 1, 1) := by decide +kernel
theorem dX8_mayBegin_5 : decode cX8_mayBegin 5 = .ok (.baload, 1) := by decide +kernel
theorem dX8_mayBegin_6 : decode cX8_mayBegin 6 = .ok (.ifCond .ne 25, 3) := by decide +kernel
theorem dX8_mayBegin_9 : decode cX8_mayBegin 9 = .ok (.aload_n 0, 1) := by decide +kernel
theorem dX8_mayBegin_10 : decode cX8_mayBegin 10 = .ok (.getfield 127, 3) := by decide +kernel
theorem dX8_mayBegin_13 : decode cX8_mayBegin 13 = .ok (.aload_n 0, 1) := by decide +kernel
theorem dX8_mayBegin_14 : decode cX8_mayBegin 14 = .ok (.getfield 66, 3) := by decide +kernel
theorem dX8_mayBegin_17 : decode cX8_mayBegin 17 = .ok (.iload_n 1, 1) := by decide +kernel
theorem dX8_mayBegin_18 : decode cX8_mayBegin 18 = .ok (.iaload, 1) := by decide +kernel
theorem dX8_mayBegin_19 : decode cX8_mayBegin 19 = .ok (.if_icmp .lt 12, 3) := by decide +kernel
theorem dX8_mayBegin_22 : decode cX8_mayBegin 22 = .ok (.aload_n 0, 1) := by decide +kernel
theorem dX8_mayBegin_23 : decode cX8_mayBegin 23 = .ok (.getfield 69, 3) := by decide +kernel
theorem dX8_mayBegin_26 : decode cX8_mayBegin 26 = .ok (.iload_n 1, 1) := by decide +kernel
theorem dX8_mayBegin_27 : decode cX8_mayBegin 27 = .ok (.iaload, 1) := by decide +kernel
theorem dX8_mayBegin_28 : decode cX8_mayBegin 28 = .ok (.ifCond .ne 5, 3) := by decide +kernel
theorem dX8_mayBegin_31 : decode cX8_mayBegin 31 = .ok (.iconst 0, 1) := by decide +kernel
theorem dX8_mayBegin_32 : decode cX8_mayBegin 32 = .ok (.ireturn, 1) := by decide +kernel
theorem dX8_mayBegin_33 : decode cX8_mayBegin 33 = .ok (.aload_n 0, 1) := by decide +kernel
theorem dX8_mayBegin_34 : decode cX8_mayBegin 34 = .ok (.getfield 26, 3) := by decide +kernel
theorem dX8_mayBegin_37 : decode cX8_mayBegin 37 = .ok (.aload_n 0, 1) := by decide +kernel
theorem dX8_mayBegin_38 : decode cX8_mayBegin 38 = .ok (.iload_n 1, 1) := by decide +kernel
theorem dX8_mayBegin_39 : decode cX8_mayBegin 39 = .ok (.iconst 0, 1) := by decide +kernel
theorem dX8_mayBegin_40 : decode cX8_mayBegin 40 = .ok (.invokevirtual 161, 3) := by decide +kernel
theorem dX8_mayBegin_43 : decode cX8_mayBegin 43 = .ok (.iaload, 1) := by decide +kernel
theorem dX8_mayBegin_44 : decode cX8_mayBegin 44 = .ok (.istore_n 2, 1) := by decide +kernel
theorem dX8_mayBegin_45 : decode cX8_mayBegin 45 = .ok (.aload_n 0, 1) := by decide +kernel
theorem dX8_mayBegin_46 : decode cX8_mayBegin 46 = .ok (.getfield 69, 3) := by decide +kernel
theorem dX8_mayBegin_49 : decode cX8_mayBegin 49 = .ok (.iload_n 1, 1) := by decide +kernel
theorem dX8_mayBegin_50 : decode cX8_mayBegin 50 = .ok (.iaload, 1) := by decide +kernel
theorem dX8_mayBegin_51 : decode cX8_mayBegin 51 = .ok (.iconst 1, 1) := by decide +kernel
theorem dX8_mayBegin_52 : decode cX8_mayBegin 52 = .ok (.if_icmp .ne 21, 3) := by decide +kernel
theorem dX8_mayBegin_55 : decode cX8_mayBegin 55 = .ok (.iload_n 2, 1) := by decide +kernel
theorem dX8_mayBegin_56 : decode cX8_mayBegin 56 = .ok (.ifCond .eq 13, 3) := by decide +kernel
theorem dX8_mayBegin_59 : decode cX8_mayBegin 59 = .ok (.iload_n 2, 1) := by decide +kernel
theorem dX8_mayBegin_60 : decode cX8_mayBegin 60 = .ok (.iconst 2, 1) := by decide +kernel
theorem dX8_mayBegin_61 : decode cX8_mayBegin 61 = .ok (.if_icmp .eq 8, 3) := by decide +kernel
theorem dX8_mayBegin_64 : decode cX8_mayBegin 64 = .ok (.iload_n 2, 1) := by decide +kernel
theorem dX8_mayBegin_65 : decode cX8_mayBegin 65 = .ok (.iconst 3, 1) := by decide +kernel
theorem dX8_mayBegin_66 : decode cX8_mayBegin 66 = .ok (.if_icmp .ne 7, 3) := by decide +kernel
theorem dX8_mayBegin_69 : decode cX8_mayBegin 69 = .ok (.iconst 1, 1) := by decide +kernel
theorem dX8_mayBegin_70 : decode cX8_mayBegin 70 = .ok (.goto 4, 3) := by decide +kernel
theorem dX8_mayBegin_73 : decode cX8_mayBegin 73 = .ok (.iconst 0, 1) := by decide +kernel
theorem dX8_mayBegin_74 : decode cX8_mayBegin 74 = .ok (.istore_n 3, 1) := by decide +kernel
theorem dX8_mayBegin_75 : decode cX8_mayBegin 75 = .ok (.iload_n 3, 1) := by decide +kernel
theorem dX8_mayBegin_76 : decode cX8_mayBegin 76 = .ok (.ifCond .ne 17, 3) := by decide +kernel
theorem dX8_mayBegin_79 : decode cX8_mayBegin 79 = .ok (.aload_n 0, 1) := by decide +kernel
theorem dX8_mayBegin_80 : decode cX8_mayBegin 80 = .ok (.iload_n 1, 1) := by decide +kernel
theorem dX8_mayBegin_81 : decode cX8_mayBegin 81 = .ok (.invokevirtual 169, 3) := by decide +kernel
theorem dX8_mayBegin_84 : decode cX8_mayBegin 84 = .ok (.aload_n 0, 1) := by decide +kernel
theorem dX8_mayBegin_85 : decode cX8_mayBegin 85 = .ok (.getfield 60, 3) := by decide +kernel
theorem dX8_mayBegin_88 : decode cX8_mayBegin 88 = .ok (.iload_n 1, 1) := by decide +kernel
theorem dX8_mayBegin_89 : decode cX8_mayBegin 89 = .ok (.iaload, 1) := by decide +kernel
theorem dX8_mayBegin_90 : decode cX8_mayBegin 90 = .ok (.if_icmp .lt 7, 3) := by decide +kernel
theorem dX8_mayBegin_93 : decode cX8_mayBegin 93 = .ok (.iconst 1, 1) := by decide +kernel
theorem dX8_mayBegin_94 : decode cX8_mayBegin 94 = .ok (.goto 4, 3) := by decide +kernel
theorem dX8_mayBegin_97 : decode cX8_mayBegin 97 = .ok (.iconst 0, 1) := by decide +kernel
theorem dX8_mayBegin_98 : decode cX8_mayBegin 98 = .ok (.ireturn, 1) := by decide +kernel
set_option maxRecDepth 20000 in
theorem ggX8_press_X8_isMill : GoodIn wsX8_press wsX8_isMill := goodIn_r _ [17, 18, 19, 16, 20] (by decide +kernel) (by decide +kernel)
set_option maxRecDepth 20000 in
theorem gX8_press_X8_isMill : GoodIn wsX8_press (wsV RX8 155 RX8 yX8_isMill wsX8_isMill) := goodIn_app (goodIn_of _ (by decide +kernel)) ggX8_press_X8_isMill
set_option maxRecDepth 20000 in
theorem ggX8_press_X8_mayBegin : GoodIn wsX8_press wsX8_mayBegin := goodIn_r _ [24, 3, 2, 1, 11, 6, 25, 26, 27, 28, 16, 29, 30, 31, 32, 33, 34, 35, 41, 42, 43, 44, 45, 46, 47, 48, 49, 50, 51, 52, 53, 54, 55, 56, 57, 58, 59, 60, 61, 62, 63, 64, 65, 66, 67, 68, 69, 70, 71, 72, 73, 74, 75, 76, 77, 78, 79, 80, 81, 82, 83, 84, 85, 86, 87, 88, 89, 90, 91, 92, 93, 94] (by decide +kernel) (by decide +kernel)
set_option maxRecDepth 20000 in
theorem gX8_press_X8_mayBegin : GoodIn wsX8_press (wsV RX8 173 RX8 yX8_mayBegin wsX8_mayBegin) := goodIn_app (goodIn_of _ (by decide +kernel)) ggX8_press_X8_mayBegin
set_option maxRecDepth 20000 in
theorem ggX8_press_X8_sumOf : GoodIn wsX8_press wsX8_sumOf := goodIn_r _ [34, 11, 35, 26, 27, 28, 16, 29, 30, 41, 42, 43, 44, 45, 46, 47, 48, 49, 50, 51, 52, 53, 54, 55, 56, 57, 58, 59, 60, 61, 62, 63, 64, 65, 66, 67, 68, 69, 70, 71, 72, 73, 74, 75, 76, 77, 78, 79, 80, 81, 82, 83, 84, 85, 86, 87, 88, 89, 90, 91, 92, 93, 94] (by decide +kernel) (by decide +kernel)
set_option maxRecDepth 20000 in
theorem gX8_press_X8_sumOf : GoodIn wsX8_press (wsV RX8 169 RX8 yX8_sumOf wsX8_sumOf) := goodIn_app (goodIn_of _ (by decide +kernel)) ggX8_press_X8_sumOf
set_option maxRecDepth 20000 in
theorem ggX8_press_X8_hours : GoodIn wsX8_press wsX8_hours := goodIn_r _ [39, 40, 41, 42, 43, 44, 45, 46, 47, 48, 49, 50, 51, 52, 53, 54, 55, 56, 57, 58, 59, 60, 61, 62, 63, 64, 65, 66, 67, 68, 69, 70, 71, 72, 73, 74, 75, 76, 77, 78, 79, 80, 81, 82, 83, 84, 85, 86, 87, 88, 89, 90, 91, 92, 93, 94] (by decide +kernel) (by decide +kernel)
set_option maxRecDepth 20000 in
theorem gX8_press_X8_hours : GoodIn wsX8_press (wsV RX8 176 RX8 yX8_hours wsX8_hours) := goodIn_app (goodIn_of _ (by decide +kernel)) ggX8_press_X8_hours
set_option maxRecDepth 20000 in
theorem ggX8_press_X8_lotIn : GoodIn wsX8_press wsX8_lotIn := goodIn_r _ [29, 30, 41, 42, 43, 44, 45, 46, 47, 48, 49, 50, 51, 52, 53, 54, 55, 56, 57, 58, 59, 60, 61, 62, 63, 64, 65, 66, 67, 68, 69, 70, 71, 72, 73, 74, 75, 76, 77, 78, 79, 80, 81, 82, 83, 84, 85, 86, 87, 88, 89, 90, 91, 92, 93, 94] (by decide +kernel) (by decide +kernel)
set_option maxRecDepth 20000 in
theorem gX8_press_X8_lotIn : GoodIn wsX8_press (wsV RX8 161 RX8 yX8_lotIn wsX8_lotIn) := goodIn_app (goodIn_of _ (by decide +kernel)) ggX8_press_X8_lotIn
theorem dX8_press_0 : decode cX8_press 0 = .ok (.aload_n 0, 1) := by decide +kernel
theorem dX8_press_1 : decode cX8_press 1 = .ok (.iload_n 1, 1) := by decide +kernel
theorem dX8_press_2 : decode cX8_press 2 = .ok (.invokevirtual 155, 3) := by decide +kernel
theorem dX8_press_5 : decode cX8_press 5 = .ok (.ifCond .eq 11, 3) := by decide +kernel
theorem dX8_press_8 : decode cX8_press 8 = .ok (.aload_n 0, 1) := by decide +kernel
theorem dX8_press_9 : decode cX8_press 9 = .ok (.iload_n 1, 1) := by decide +kernel
theorem dX8_press_10 : decode cX8_press 10 = .ok (.invokevirtual 173, 3) := by decide +kernel
theorem dX8_press_13 : decode cX8_press 13 = .ok (.ifCond .ne 5, 3) := by decide +kernel
theorem dX8_press_16 : decode cX8_press 16 = .ok (.iconst (-1), 1) := by decide +kernel
theorem dX8_press_17 : decode cX8_press 17 = .ok (.ireturn, 1) := by decide +kernel
theorem dX8_press_18 : decode cX8_press 18 = .ok (.aload_n 0, 1) := by decide +kernel
theorem dX8_press_19 : decode cX8_press 19 = .ok (.aload_n 0, 1) := by decide +kernel
theorem dX8_press_20 : decode cX8_press 20 = .ok (.iload_n 1, 1) := by decide +kernel
theorem dX8_press_21 : decode cX8_press 21 = .ok (.invokevirtual 169, 3) := by decide +kernel
theorem dX8_press_24 : decode cX8_press 24 = .ok (.iload_n 1, 1) := by decide +kernel
theorem dX8_press_25 : decode cX8_press 25 = .ok (.invokevirtual 176, 3) := by decide +kernel
theorem dX8_press_28 : decode cX8_press 28 = .ok (.istore_n 2, 1) := by decide +kernel
theorem dX8_press_29 : decode cX8_press 29 = .ok (.aload_n 0, 1) := by decide +kernel
theorem dX8_press_30 : decode cX8_press 30 = .ok (.getfield 66, 3) := by decide +kernel
theorem dX8_press_33 : decode cX8_press 33 = .ok (.iload_n 1, 1) := by decide +kernel
theorem dX8_press_34 : decode cX8_press 34 = .ok (.aload_n 0, 1) := by decide +kernel
theorem dX8_press_35 : decode cX8_press 35 = .ok (.getfield 127, 3) := by decide +kernel
theorem dX8_press_38 : decode cX8_press 38 = .ok (.iload_n 2, 1) := by decide +kernel
theorem dX8_press_39 : decode cX8_press 39 = .ok (.iadd, 1) := by decide +kernel
theorem dX8_press_40 : decode cX8_press 40 = .ok (.iastore, 1) := by decide +kernel
theorem dX8_press_41 : decode cX8_press 41 = .ok (.aload_n 0, 1) := by decide +kernel
theorem dX8_press_42 : decode cX8_press 42 = .ok (.getfield 75, 3) := by decide +kernel
theorem dX8_press_45 : decode cX8_press 45 = .ok (.iload_n 1, 1) := by decide +kernel
theorem dX8_press_46 : decode cX8_press 46 = .ok (.iconst 1, 1) := by decide +kernel
theorem dX8_press_47 : decode cX8_press 47 = .ok (.bastore, 1) := by decide +kernel
theorem dX8_press_48 : decode cX8_press 48 = .ok (.aload_n 0, 1) := by decide +kernel
theorem dX8_press_49 : decode cX8_press 49 = .ok (.getfield 78, 3) := by decide +kernel
theorem dX8_press_52 : decode cX8_press 52 = .ok (.iload_n 1, 1) := by decide +kernel
theorem dX8_press_53 : decode cX8_press 53 = .ok (.iconst 0, 1) := by decide +kernel
theorem dX8_press_54 : decode cX8_press 54 = .ok (.bastore, 1) := by decide +kernel
theorem dX8_press_55 : decode cX8_press 55 = .ok (.aload_n 0, 1) := by decide +kernel
theorem dX8_press_56 : decode cX8_press 56 = .ok (.iload_n 1, 1) := by decide +kernel
theorem dX8_press_57 : decode cX8_press 57 = .ok (.iconst 0, 1) := by decide +kernel
theorem dX8_press_58 : decode cX8_press 58 = .ok (.invokevirtual 161, 3) := by decide +kernel
theorem dX8_press_61 : decode cX8_press 61 = .ok (.istore_n 3, 1) := by decide +kernel
theorem dX8_press_62 : decode cX8_press 62 = .ok (.aload_n 0, 1) := by decide +kernel
theorem dX8_press_63 : decode cX8_press 63 = .ok (.getfield 81, 3) := by decide +kernel
theorem dX8_press_66 : decode cX8_press 66 = .ok (.iload_n 1, 1) := by decide +kernel
theorem dX8_press_67 : decode cX8_press 67 = .ok (.aload_n 0, 1) := by decide +kernel
theorem dX8_press_68 : decode cX8_press 68 = .ok (.getfield 26, 3) := by decide +kernel
theorem dX8_press_71 : decode cX8_press 71 = .ok (.iload_n 3, 1) := by decide +kernel
theorem dX8_press_72 : decode cX8_press 72 = .ok (.iaload, 1) := by decide +kernel
theorem dX8_press_73 : decode cX8_press 73 = .ok (.iconst 2, 1) := by decide +kernel
theorem dX8_press_74 : decode cX8_press 74 = .ok (.if_icmp .ne 17, 3) := by decide +kernel
theorem dX8_press_77 : decode cX8_press 77 = .ok (.aload_n 0, 1) := by decide +kernel
theorem dX8_press_78 : decode cX8_press 78 = .ok (.getfield 23, 3) := by decide +kernel
theorem dX8_press_81 : decode cX8_press 81 = .ok (.aload_n 0, 1) := by decide +kernel
theorem dX8_press_82 : decode cX8_press 82 = .ok (.getfield 29, 3) := by decide +kernel
theorem dX8_press_85 : decode cX8_press 85 = .ok (.iload_n 3, 1) := by decide +kernel
theorem dX8_press_86 : decode cX8_press 86 = .ok (.iaload, 1) := by decide +kernel
theorem dX8_press_87 : decode cX8_press 87 = .ok (.iaload, 1) := by decide +kernel
theorem dX8_press_88 : decode cX8_press 88 = .ok (.goto 4, 3) := by decide +kernel
theorem dX8_press_91 : decode cX8_press 91 = .ok (.iconst (-1), 1) := by decide +kernel
theorem dX8_press_92 : decode cX8_press 92 = .ok (.iastore, 1) := by decide +kernel
theorem dX8_press_93 : decode cX8_press 93 = .ok (.aload_n 0, 1) := by decide +kernel
theorem dX8_press_94 : decode cX8_press 94 = .ok (.getfield 84, 3) := by decide +kernel
theorem dX8_press_97 : decode cX8_press 97 = .ok (.iload_n 1, 1) := by decide +kernel
theorem dX8_press_98 : decode cX8_press 98 = .ok (.iconst (-1), 1) := by decide +kernel
theorem dX8_press_99 : decode cX8_press 99 = .ok (.iastore, 1) := by decide +kernel
theorem dX8_press_100 : decode cX8_press 100 = .ok (.aload_n 0, 1) := by decide +kernel
theorem dX8_press_101 : decode cX8_press 101 = .ok (.getfield 87, 3) := by decide +kernel
theorem dX8_press_104 : decode cX8_press 104 = .ok (.iload_n 1, 1) := by decide +kernel
theorem dX8_press_105 : decode cX8_press 105 = .ok (.iconst (-1), 1) := by decide +kernel
theorem dX8_press_106 : decode cX8_press 106 = .ok (.iastore, 1) := by decide +kernel
theorem dX8_press_107 : decode cX8_press 107 = .ok (.iconst 0, 1) := by decide +kernel
theorem dX8_press_108 : decode cX8_press 108 = .ok (.istore 4, 2) := by decide +kernel
theorem dX8_press_110 : decode cX8_press 110 = .ok (.iload 4, 2) := by decide +kernel
theorem dX8_press_112 : decode cX8_press 112 = .ok (.aload_n 0, 1) := by decide +kernel
theorem dX8_press_113 : decode cX8_press 113 = .ok (.getfield 69, 3) := by decide +kernel
theorem dX8_press_116 : decode cX8_press 116 = .ok (.iload_n 1, 1) := by decide +kernel
theorem dX8_press_117 : decode cX8_press 117 = .ok (.iaload, 1) := by decide +kernel
theorem dX8_press_118 : decode cX8_press 118 = .ok (.if_icmp .ge 22, 3) := by decide +kernel
theorem dX8_press_121 : decode cX8_press 121 = .ok (.aload_n 0, 1) := by decide +kernel
theorem dX8_press_122 : decode cX8_press 122 = .ok (.getfield 35, 3) := by decide +kernel
theorem dX8_press_125 : decode cX8_press 125 = .ok (.aload_n 0, 1) := by decide +kernel
theorem dX8_press_126 : decode cX8_press 126 = .ok (.iload_n 1, 1) := by decide +kernel
theorem dX8_press_127 : decode cX8_press 127 = .ok (.iload 4, 2) := by decide +kernel
theorem dX8_press_129 : decode cX8_press 129 = .ok (.invokevirtual 161, 3) := by decide +kernel
theorem dX8_press_132 : decode cX8_press 132 = .ok (.iconst 4, 1) := by decide +kernel
theorem dX8_press_133 : decode cX8_press 133 = .ok (.iastore, 1) := by decide +kernel
theorem dX8_press_134 : decode cX8_press 134 = .ok (.iinc 4 1, 3) := by decide +kernel
theorem dX8_press_137 : decode cX8_press 137 = .ok (.goto (-27), 3) := by decide +kernel
theorem dX8_press_140 : decode cX8_press 140 = .ok (.iload_n 2, 1) := by decide +kernel
theorem dX8_press_141 : decode cX8_press 141 = .ok (.ireturn, 1) := by decide +kernel
set_option maxRecDepth 20000 in
theorem ggX8_gave_X8_isMill : GoodIn wsX8_gave wsX8_isMill := goodIn_r _ [10, 11, 12, 9, 13] (by decide +kernel) (by decide +kernel)
set_option maxRecDepth 20000 in
theorem gX8_gave_X8_isMill : GoodIn wsX8_gave (wsV RX8 155 RX8 yX8_isMill wsX8_isMill) := goodIn_app (goodIn_of _ (by decide +kernel)) ggX8_gave_X8_isMill
set_option maxRecDepth 20000 in
theorem ggX8_gave_X8_sumOf : GoodIn wsX8_gave wsX8_sumOf := goodIn_r _ [17, 18, 19, 20, 21, 22, 9, 23, 24, 25, 26, 27, 28, 29, 30, 31, 32, 33, 34, 35, 36, 37, 38, 39, 40, 41, 42, 43, 44, 45, 46, 47, 48, 49, 50, 51, 52, 53, 54, 55, 56, 57, 58, 59, 60, 61, 62, 63, 64, 65, 66, 67, 68, 69, 70, 71, 72, 73, 74, 75, 76, 77, 78] (by decide +kernel) (by decide +kernel)
set_option maxRecDepth 20000 in
theorem gX8_gave_X8_sumOf : GoodIn wsX8_gave (wsV RX8 169 RX8 yX8_sumOf wsX8_sumOf) := goodIn_app (goodIn_of _ (by decide +kernel)) ggX8_gave_X8_sumOf
set_option maxRecDepth 20000 in
theorem ggX8_gave_X8_in : GoodIn wsX8_gave wsX8_in := goodIn_r _ [13] (by decide +kernel) (by decide +kernel)
set_option maxRecDepth 20000 in
theorem gX8_gave_X8_in : GoodIn wsX8_gave (va_wsS RX8 133 yX8_in wsX8_in) := goodIn_app (goodIn_of _ (by decide +kernel)) ggX8_gave_X8_in
theorem dX8_gave_0 : decode cX8_gave 0 = .ok (.aload_n 0, 1) := by decide +kernel
theorem dX8_gave_1 : decode cX8_gave 1 = .ok (.iload_n 1, 1) := by decide +kernel
theorem dX8_gave_2 : decode cX8_gave 2 = .ok (.invokevirtual 155, 3) := by decide +kernel
theorem dX8_gave_5 : decode cX8_gave 5 = .ok (.ifCond .eq 48, 3) := by decide +kernel
theorem dX8_gave_8 : decode cX8_gave 8 = .ok (.aload_n 0, 1) := by decide +kernel
theorem dX8_gave_9 : decode cX8_gave 9 = .ok (.getfield 75, 3) := by decide +kernel
theorem dX8_gave_12 : decode cX8_gave 12 = .ok (.iload_n 1, 1) := by decide +kernel
theorem dX8_gave_13 : decode cX8_gave 13 = .ok (.baload, 1) := by decide +kernel
theorem dX8_gave_14 : decode cX8_gave 14 = .ok (.ifCond .eq 39, 3) := by decide +kernel
theorem dX8_gave_17 : decode cX8_gave 17 = .ok (.aload_n 0, 1) := by decide +kernel
theorem dX8_gave_18 : decode cX8_gave 18 = .ok (.getfield 127, 3) := by decide +kernel
theorem dX8_gave_21 : decode cX8_gave 21 = .ok (.aload_n 0, 1) := by decide +kernel
theorem dX8_gave_22 : decode cX8_gave 22 = .ok (.getfield 66, 3) := by decide +kernel
theorem dX8_gave_25 : decode cX8_gave 25 = .ok (.iload_n 1, 1) := by decide +kernel
theorem dX8_gave_26 : decode cX8_gave 26 = .ok (.iaload, 1) := by decide +kernel
theorem dX8_gave_27 : decode cX8_gave 27 = .ok (.if_icmp .lt 26, 3) := by decide +kernel
theorem dX8_gave_30 : decode cX8_gave 30 = .ok (.aload_n 0, 1) := by decide +kernel
theorem dX8_gave_31 : decode cX8_gave 31 = .ok (.getfield 84, 3) := by decide +kernel
theorem dX8_gave_34 : decode cX8_gave 34 = .ok (.iload_n 1, 1) := by decide +kernel
theorem dX8_gave_35 : decode cX8_gave 35 = .ok (.iaload, 1) := by decide +kernel
theorem dX8_gave_36 : decode cX8_gave 36 = .ok (.iconst (-1), 1) := by decide +kernel
theorem dX8_gave_37 : decode cX8_gave 37 = .ok (.if_icmp .ne 16, 3) := by decide +kernel
theorem dX8_gave_40 : decode cX8_gave 40 = .ok (.iload_n 2, 1) := by decide +kernel
theorem dX8_gave_41 : decode cX8_gave 41 = .ok (.iconst 0, 1) := by decide +kernel
theorem dX8_gave_42 : decode cX8_gave 42 = .ok (.aload_n 0, 1) := by decide +kernel
theorem dX8_gave_43 : decode cX8_gave 43 = .ok (.iload_n 1, 1) := by decide +kernel
theorem dX8_gave_44 : decode cX8_gave 44 = .ok (.invokevirtual 169, 3) := by decide +kernel
theorem dX8_gave_47 : decode cX8_gave 47 = .ok (.invokestatic 133, 3) := by decide +kernel
theorem dX8_gave_50 : decode cX8_gave 50 = .ok (.ifCond .ne 5, 3) := by decide +kernel
theorem dX8_gave_53 : decode cX8_gave 53 = .ok (.iconst 0, 1) := by decide +kernel
theorem dX8_gave_54 : decode cX8_gave 54 = .ok (.ireturn, 1) := by decide +kernel
theorem dX8_gave_55 : decode cX8_gave 55 = .ok (.aload_n 0, 1) := by decide +kernel
theorem dX8_gave_56 : decode cX8_gave 56 = .ok (.getfield 84, 3) := by decide +kernel
theorem dX8_gave_59 : decode cX8_gave 59 = .ok (.iload_n 1, 1) := by decide +kernel
theorem dX8_gave_60 : decode cX8_gave 60 = .ok (.iload_n 2, 1) := by decide +kernel
theorem dX8_gave_61 : decode cX8_gave 61 = .ok (.iastore, 1) := by decide +kernel
theorem dX8_gave_62 : decode cX8_gave 62 = .ok (.aload_n 0, 1) := by decide +kernel
theorem dX8_gave_63 : decode cX8_gave 63 = .ok (.dup, 1) := by decide +kernel
theorem dX8_gave_64 : decode cX8_gave 64 = .ok (.getfield 179, 3) := by decide +kernel
theorem dX8_gave_67 : decode cX8_gave 67 = .ok (.iload_n 2, 1) := by decide +kernel
theorem dX8_gave_68 : decode cX8_gave 68 = .ok (.iadd, 1) := by decide +kernel
theorem dX8_gave_69 : decode cX8_gave 69 = .ok (.putfield 179, 3) := by decide +kernel
theorem dX8_gave_72 : decode cX8_gave 72 = .ok (.iconst 1, 1) := by decide +kernel
theorem dX8_gave_73 : decode cX8_gave 73 = .ok (.ireturn, 1) := by decide +kernel
theorem dX8_weight_0 : decode cX8_weight 0 = .ok (.aload_n 0, 1) := by decide +kernel
theorem dX8_weight_1 : decode cX8_weight 1 = .ok (.getfield 38, 3) := by decide +kernel
theorem dX8_weight_4 : decode cX8_weight 4 = .ok (.iload_n 1, 1) := by decide +kernel
theorem dX8_weight_5 : decode cX8_weight 5 = .ok (.iaload, 1) := by decide +kernel
theorem dX8_weight_6 : decode cX8_weight 6 = .ok (.i2l, 1) := by decide +kernel
theorem dX8_weight_7 : decode cX8_weight 7 = .ok (.aload_n 0, 1) := by decide +kernel
theorem dX8_weight_8 : decode cX8_weight 8 = .ok (.getfield 41, 3) := by decide +kernel
theorem dX8_weight_11 : decode cX8_weight 11 = .ok (.iload_n 1, 1) := by decide +kernel
theorem dX8_weight_12 : decode cX8_weight 12 = .ok (.iaload, 1) := by decide +kernel
theorem dX8_weight_13 : decode cX8_weight 13 = .ok (.i2l, 1) := by decide +kernel
theorem dX8_weight_14 : decode cX8_weight 14 = .ok (.lmul, 1) := by decide +kernel
theorem dX8_weight_15 : decode cX8_weight 15 = .ok (.lreturn, 1) := by decide +kernel
set_option maxRecDepth 20000 in
theorem ggX8_share_X8_isMill : GoodIn wsX8_share wsX8_isMill := goodIn_r _ [12, 13, 14, 11, 15] (by decide +kernel) (by decide +kernel)
set_option maxRecDepth 20000 in
theorem gX8_share_X8_isMill : GoodIn wsX8_share (wsV RX8 155 RX8 yX8_isMill wsX8_isMill) := goodIn_app (goodIn_of _ (by decide +kernel)) ggX8_share_X8_isMill
set_option maxRecDepth 20000 in
theorem ggX8_share_X8_lotIn : GoodIn wsX8_share wsX8_lotIn := goodIn_r _ [19, 20, 27, 28, 29, 30, 31, 32, 33, 34, 35, 36, 37, 38, 39, 40, 41, 42, 43, 44, 45, 46, 47, 48, 49, 50, 51, 52, 53, 54, 55, 56, 57, 58, 59, 60, 61, 62, 63, 64, 65, 66, 67, 68, 69, 70, 71, 72, 73, 74, 75, 76, 77, 78, 79, 80] (by decide +kernel) (by decide +kernel)
set_option maxRecDepth 20000 in
theorem gX8_share_X8_lotIn : GoodIn wsX8_share (wsV RX8 161 RX8 yX8_lotIn wsX8_lotIn) := goodIn_app (goodIn_of _ (by decide +kernel)) ggX8_share_X8_lotIn
set_option maxRecDepth 20000 in
theorem ggX8_share_X8_weight : GoodIn wsX8_share wsX8_weight := goodIn_r _ [24, 25, 26, 27, 28, 29, 30, 31, 32, 33, 34, 35, 36, 37, 38, 39, 40, 41, 42, 43, 44, 45, 46, 47, 48, 49, 50, 51, 52, 53, 54, 55, 56, 57, 58, 59, 60, 61, 62, 63, 64, 65, 66, 67, 68, 69, 70, 71, 72, 73, 74, 75, 76, 77, 78, 79, 80] (by decide +kernel) (by decide +kernel)
set_option maxRecDepth 20000 in
theorem gX8_share_X8_weight : GoodIn wsX8_share (wsV RX8 182 RX8 yX8_weight wsX8_weight) := goodIn_app (goodIn_of _ (by decide +kernel)) ggX8_share_X8_weight
theorem dX8_share_0 : decode cX8_share 0 = .ok (.aload_n 0, 1) := by decide +kernel
theorem dX8_share_1 : decode cX8_share 1 = .ok (.iload_n 1, 1) := by decide +kernel
theorem dX8_share_2 : decode cX8_share 2 = .ok (.invokevirtual 155, 3) := by decide +kernel
theorem dX8_share_5 : decode cX8_share 5 = .ok (.ifCond .eq 32, 3) := by decide +kernel
theorem dX8_share_8 : decode cX8_share 8 = .ok (.aload_n 0, 1) := by decide +kernel
theorem dX8_share_9 : decode cX8_share 9 = .ok (.getfield 75, 3) := by decide +kernel
theorem dX8_share_12 : decode cX8_share 12 = .ok (.iload_n 1, 1) := by decide +kernel
theorem dX8_share_13 : decode cX8_share 13 = .ok (.baload, 1) := by decide +kernel
theorem dX8_share_14 : decode cX8_share 14 = .ok (.ifCond .eq 23, 3) := by decide +kernel
theorem dX8_share_17 : decode cX8_share 17 = .ok (.aload_n 0, 1) := by decide +kernel
theorem dX8_share_18 : decode cX8_share 18 = .ok (.getfield 84, 3) := by decide +kernel
theorem dX8_share_21 : decode cX8_share 21 = .ok (.iload_n 1, 1) := by decide +kernel
theorem dX8_share_22 : decode cX8_share 22 = .ok (.iaload, 1) := by decide +kernel
theorem dX8_share_23 : decode cX8_share 23 = .ok (.iconst (-1), 1) := by decide +kernel
theorem dX8_share_24 : decode cX8_share 24 = .ok (.if_icmp .eq 13, 3) := by decide +kernel
theorem dX8_share_27 : decode cX8_share 27 = .ok (.aload_n 0, 1) := by decide +kernel
theorem dX8_share_28 : decode cX8_share 28 = .ok (.getfield 87, 3) := by decide +kernel
theorem dX8_share_31 : decode cX8_share 31 = .ok (.iload_n 1, 1) := by decide +kernel
theorem dX8_share_32 : decode cX8_share 32 = .ok (.iaload, 1) := by decide +kernel
theorem dX8_share_33 : decode cX8_share 33 = .ok (.iconst (-1), 1) := by decide +kernel
theorem dX8_share_34 : decode cX8_share 34 = .ok (.if_icmp .eq 5, 3) := by decide +kernel
theorem dX8_share_37 : decode cX8_share 37 = .ok (.iconst (-1), 1) := by decide +kernel
theorem dX8_share_38 : decode cX8_share 38 = .ok (.ireturn, 1) := by decide +kernel
theorem dX8_share_39 : decode cX8_share 39 = .ok (.aload_n 0, 1) := by decide +kernel
theorem dX8_share_40 : decode cX8_share 40 = .ok (.getfield 69, 3) := by decide +kernel
theorem dX8_share_43 : decode cX8_share 43 = .ok (.iload_n 1, 1) := by decide +kernel
theorem dX8_share_44 : decode cX8_share 44 = .ok (.iaload, 1) := by decide +kernel
theorem dX8_share_45 : decode cX8_share 45 = .ok (.istore_n 2, 1) := by decide +kernel
theorem dX8_share_46 : decode cX8_share 46 = .ok (.aload_n 0, 1) := by decide +kernel
theorem dX8_share_47 : decode cX8_share 47 = .ok (.getfield 87, 3) := by decide +kernel
theorem dX8_share_50 : decode cX8_share 50 = .ok (.iload_n 1, 1) := by decide +kernel
theorem dX8_share_51 : decode cX8_share 51 = .ok (.aload_n 0, 1) := by decide +kernel
theorem dX8_share_52 : decode cX8_share 52 = .ok (.getfield 84, 3) := by decide +kernel
theorem dX8_share_55 : decode cX8_share 55 = .ok (.iload_n 1, 1) := by decide +kernel
theorem dX8_share_56 : decode cX8_share 56 = .ok (.iaload, 1) := by decide +kernel
theorem dX8_share_57 : decode cX8_share 57 = .ok (.aload_n 0, 1) := by decide +kernel
theorem dX8_share_58 : decode cX8_share 58 = .ok (.getfield 13, 3) := by decide +kernel
theorem dX8_share_61 : decode cX8_share 61 = .ok (.imul, 1) := by decide +kernel
theorem dX8_share_62 : decode cX8_share 62 = .ok (.bipush 100, 2) := by decide +kernel
theorem dX8_share_64 : decode cX8_share 64 = .ok (.idiv, 1) := by decide +kernel
theorem dX8_share_65 : decode cX8_share 65 = .ok (.iastore, 1) := by decide +kernel
theorem dX8_share_66 : decode cX8_share 66 = .ok (.aload_n 0, 1) := by decide +kernel
theorem dX8_share_67 : decode cX8_share 67 = .ok (.getfield 84, 3) := by decide +kernel
theorem dX8_share_70 : decode cX8_share 70 = .ok (.iload_n 1, 1) := by decide +kernel
theorem dX8_share_71 : decode cX8_share 71 = .ok (.iaload, 1) := by decide +kernel
theorem dX8_share_72 : decode cX8_share 72 = .ok (.aload_n 0, 1) := by decide +kernel
theorem dX8_share_73 : decode cX8_share 73 = .ok (.getfield 87, 3) := by decide +kernel
theorem dX8_share_76 : decode cX8_share 76 = .ok (.iload_n 1, 1) := by decide +kernel
theorem dX8_share_77 : decode cX8_share 77 = .ok (.iaload, 1) := by decide +kernel
theorem dX8_share_78 : decode cX8_share 78 = .ok (.isub, 1) := by decide +kernel
theorem dX8_share_79 : decode cX8_share 79 = .ok (.istore_n 3, 1) := by decide +kernel
theorem dX8_share_80 : decode cX8_share 80 = .ok (.lconst 0, 1) := by decide +kernel
theorem dX8_share_81 : decode cX8_share 81 = .ok (.lstore 4, 2) := by decide +kernel
theorem dX8_share_83 : decode cX8_share 83 = .ok (.iconst 0, 1) := by decide +kernel
theorem dX8_share_84 : decode cX8_share 84 = .ok (.istore 6, 2) := by decide +kernel
theorem dX8_share_86 : decode cX8_share 86 = .ok (.iload 6, 2) := by decide +kernel
theorem dX8_share_88 : decode cX8_share 88 = .ok (.iload_n 2, 1) := by decide +kernel
theorem dX8_share_89 : decode cX8_share 89 = .ok (.if_icmp .ge 25, 3) := by decide +kernel
theorem dX8_share_92 : decode cX8_share 92 = .ok (.lload 4, 2) := by decide +kernel
theorem dX8_share_94 : decode cX8_share 94 = .ok (.aload_n 0, 1) := by decide +kernel
theorem dX8_share_95 : decode cX8_share 95 = .ok (.aload_n 0, 1) := by decide +kernel
theorem dX8_share_96 : decode cX8_share 96 = .ok (.iload_n 1, 1) := by decide +kernel
theorem dX8_share_97 : decode cX8_share 97 = .ok (.iload 6, 2) := by decide +kernel
theorem dX8_share_99 : decode cX8_share 99 = .ok (.invokevirtual 161, 3) := by decide +kernel
theorem dX8_share_102 : decode cX8_share 102 = .ok (.invokevirtual 182, 3) := by decide +kernel
theorem dX8_share_105 : decode cX8_share 105 = .ok (.ladd, 1) := by decide +kernel
theorem dX8_share_106 : decode cX8_share 106 = .ok (.lstore 4, 2) := by decide +kernel
theorem dX8_share_108 : decode cX8_share 108 = .ok (.iinc 6 1, 3) := by decide +kernel
theorem dX8_share_111 : decode cX8_share 111 = .ok (.goto (-25), 3) := by decide +kernel
theorem dX8_share_114 : decode cX8_share 114 = .ok (.iload_n 3, 1) := by decide +kernel
theorem dX8_share_115 : decode cX8_share 115 = .ok (.istore 6, 2) := by decide +kernel
theorem dX8_share_117 : decode cX8_share 117 = .ok (.iconst 0, 1) := by decide +kernel
theorem dX8_share_118 : decode cX8_share 118 = .ok (.istore 7, 2) := by decide +kernel
theorem dX8_share_120 : decode cX8_share 120 = .ok (.iload 7, 2) := by decide +kernel
theorem dX8_share_122 : decode cX8_share 122 = .ok (.iload_n 2, 1) := by decide +kernel
theorem dX8_share_123 : decode cX8_share 123 = .ok (.if_icmp .ge 58, 3) := by decide +kernel
theorem dX8_share_126 : decode cX8_share 126 = .ok (.aload_n 0, 1) := by decide +kernel
theorem dX8_share_127 : decode cX8_share 127 = .ok (.iload_n 1, 1) := by decide +kernel
theorem dX8_share_128 : decode cX8_share 128 = .ok (.iload 7, 2) := by decide +kernel
theorem dX8_share_130 : decode cX8_share 130 = .ok (.invokevirtual 161, 3) := by decide +kernel
theorem dX8_share_133 : decode cX8_share 133 = .ok (.istore 8, 2) := by decide +kernel
theorem dX8_share_135 : decode cX8_share 135 = .ok (.aload_n 0, 1) := by decide +kernel
theorem dX8_share_136 : decode cX8_share 136 = .ok (.getfield 47, 3) := by decide +kernel
theorem dX8_share_139 : decode cX8_share 139 = .ok (.iload 8, 2) := by decide +kernel
theorem dX8_share_141 : decode cX8_share 141 = .ok (.iload_n 3, 1) := by decide +kernel
theorem dX8_share_142 : decode cX8_share 142 = .ok (.i2l, 1) := by decide +kernel
theorem dX8_share_143 : decode cX8_share 143 = .ok (.aload_n 0, 1) := by decide +kernel
theorem dX8_share_144 : decode cX8_share 144 = .ok (.iload 8, 2) := by decide +kernel
theorem dX8_share_146 : decode cX8_share 146 = .ok (.invokevirtual 182, 3) := by decide +kernel
theorem dX8_share_149 : decode cX8_share 149 = .ok (.lmul, 1) := by decide +kernel
theorem dX8_share_150 : decode cX8_share 150 = .ok (.lload 4, 2) := by decide +kernel
theorem dX8_share_152 : decode cX8_share 152 = .ok (.ldiv, 1) := by decide +kernel
theorem dX8_share_153 : decode cX8_share 153 = .ok (.l2i, 1) := by decide +kernel
theorem dX8_share_154 : decode cX8_share 154 = .ok (.iastore, 1) := by decide +kernel
theorem dX8_share_155 : decode cX8_share 155 = .ok (.iload 6, 2) := by decide +kernel
theorem dX8_share_157 : decode cX8_share 157 = .ok (.aload_n 0, 1) := by decide +kernel
theorem dX8_share_158 : decode cX8_share 158 = .ok (.getfield 47, 3) := by decide +kernel
theorem dX8_share_161 : decode cX8_share 161 = .ok (.iload 8, 2) := by decide +kernel
theorem dX8_share_163 : decode cX8_share 163 = .ok (.iaload, 1) := by decide +kernel
theorem dX8_share_164 : decode cX8_share 164 = .ok (.isub, 1) := by decide +kernel
theorem dX8_share_165 : decode cX8_share 165 = .ok (.istore 6, 2) := by decide +kernel
theorem dX8_share_167 : decode cX8_share 167 = .ok (.aload_n 0, 1) := by decide +kernel
theorem dX8_share_168 : decode cX8_share 168 = .ok (.getfield 35, 3) := by decide +kernel
theorem dX8_share_171 : decode cX8_share 171 = .ok (.iload 8, 2) := by decide +kernel
theorem dX8_share_173 : decode cX8_share 173 = .ok (.iconst 5, 1) := by decide +kernel
theorem dX8_share_174 : decode cX8_share 174 = .ok (.iastore, 1) := by decide +kernel
theorem dX8_share_175 : decode cX8_share 175 = .ok (.iinc 7 1, 3) := by decide +kernel
theorem dX8_share_178 : decode cX8_share 178 = .ok (.goto (-58), 3) := by decide +kernel
theorem dX8_share_181 : decode cX8_share 181 = .ok (.iconst 0, 1) := by decide +kernel
theorem dX8_share_182 : decode cX8_share 182 = .ok (.istore 7, 2) := by decide +kernel
theorem dX8_share_184 : decode cX8_share 184 = .ok (.iload 7, 2) := by decide +kernel
theorem dX8_share_186 : decode cX8_share 186 = .ok (.iload_n 2, 1) := by decide +kernel
theorem dX8_share_187 : decode cX8_share 187 = .ok (.if_icmp .ge 124, 3) := by decide +kernel
theorem dX8_share_190 : decode cX8_share 190 = .ok (.aload_n 0, 1) := by decide +kernel
theorem dX8_share_191 : decode cX8_share 191 = .ok (.iload_n 1, 1) := by decide +kernel
