theorem dX8_tries_181 : decode cX8_tries 181 = .ok (.iload 6, 2) := by decide +kernel
theorem dX8_tries_183 : decode cX8_tries 183 = .ok (.aload_n 0, 1) := by decide +kernel
theorem dX8_tries_184 : decode cX8_tries 184 = .ok (.invokevirtual 143, 3) := by decide +kernel
theorem dX8_tries_187 : decode cX8_tries 187 = .ok (.iconst 1, 1) := by decide +kernel
theorem dX8_tries_188 : decode cX8_tries 188 = .ok (.iadd, 1) := by decide +kernel
theorem dX8_tries_189 : decode cX8_tries 189 = .ok (.if_icmp .ge 11, 3) := by decide +kernel
theorem dX8_tries_192 : decode cX8_tries 192 = .ok (.aload_n 0, 1) := by decide +kernel
theorem dX8_tries_193 : decode cX8_tries 193 = .ok (.invokevirtual 143, 3) := by decide +kernel
theorem dX8_tries_196 : decode cX8_tries 196 = .ok (.iconst 1, 1) := by decide +kernel
theorem dX8_tries_197 : decode cX8_tries 197 = .ok (.iadd, 1) := by decide +kernel
theorem dX8_tries_198 : decode cX8_tries 198 = .ok (.istore 6, 2) := by decide +kernel
theorem dX8_tries_200 : decode cX8_tries 200 = .ok (.aload_n 0, 1) := by decide +kernel
theorem dX8_tries_201 : decode cX8_tries 201 = .ok (.getfield 26, 3) := by decide +kernel
theorem dX8_tries_204 : decode cX8_tries 204 = .ok (.iload 5, 2) := by decide +kernel
theorem dX8_tries_206 : decode cX8_tries 206 = .ok (.iaload, 1) := by decide +kernel
theorem dX8_tries_207 : decode cX8_tries 207 = .ok (.iconst 3, 1) := by decide +kernel
theorem dX8_tries_208 : decode cX8_tries 208 = .ok (.if_icmp .eq 15, 3) := by decide +kernel
theorem dX8_tries_211 : decode cX8_tries 211 = .ok (.iload_n 2, 1) := by decide +kernel
theorem dX8_tries_212 : decode cX8_tries 212 = .ok (.bipush 10, 2) := by decide +kernel
theorem dX8_tries_214 : decode cX8_tries 214 = .ok (.iload 6, 2) := by decide +kernel
theorem dX8_tries_216 : decode cX8_tries 216 = .ok (.imul, 1) := by decide +kernel
theorem dX8_tries_217 : decode cX8_tries 217 = .ok (.if_icmp .lt 6, 3) := by decide +kernel
theorem dX8_tries_220 : decode cX8_tries 220 = .ok (.iinc 3 1, 3) := by decide +kernel
theorem dX8_tries_223 : decode cX8_tries 223 = .ok (.iload_n 2, 1) := by decide +kernel
theorem dX8_tries_224 : decode cX8_tries 224 = .ok (.aload_n 0, 1) := by decide +kernel
theorem dX8_tries_225 : decode cX8_tries 225 = .ok (.aload_n 0, 1) := by decide +kernel
theorem dX8_tries_226 : decode cX8_tries 226 = .ok (.getfield 38, 3) := by decide +kernel
theorem dX8_tries_229 : decode cX8_tries 229 = .ok (.iload 5, 2) := by decide +kernel
theorem dX8_tries_231 : decode cX8_tries 231 = .ok (.iaload, 1) := by decide +kernel
theorem dX8_tries_232 : decode cX8_tries 232 = .ok (.iload_n 1, 1) := by decide +kernel
theorem dX8_tries_233 : decode cX8_tries 233 = .ok (.invokevirtual 176, 3) := by decide +kernel
theorem dX8_tries_236 : decode cX8_tries 236 = .ok (.iadd, 1) := by decide +kernel
theorem dX8_tries_237 : decode cX8_tries 237 = .ok (.istore_n 2, 1) := by decide +kernel
theorem dX8_tries_238 : decode cX8_tries 238 = .ok (.iinc 4 1, 3) := by decide +kernel
theorem dX8_tries_241 : decode cX8_tries 241 = .ok (.goto (-209), 3) := by decide +kernel
theorem dX8_tries_244 : decode cX8_tries 244 = .ok (.aload_n 0, 1) := by decide +kernel
theorem dX8_tries_245 : decode cX8_tries 245 = .ok (.iload_n 3, 1) := by decide +kernel
theorem dX8_tries_246 : decode cX8_tries 246 = .ok (.putfield 239, 3) := by decide +kernel
theorem dX8_tries_249 : decode cX8_tries 249 = .ok (.aload_n 0, 1) := by decide +kernel
theorem dX8_tries_250 : decode cX8_tries 250 = .ok (.iload_n 2, 1) := by decide +kernel
theorem dX8_tries_251 : decode cX8_tries 251 = .ok (.putfield 242, 3) := by decide +kernel
theorem dX8_tries_254 : decode cX8_tries 254 = .ok (.return_, 1) := by decide +kernel
theorem dX8_nextOrder_0 : decode cX8_nextOrder 0 = .ok (.aload_n 0, 1) := by decide +kernel
theorem dX8_nextOrder_1 : decode cX8_nextOrder 1 = .ok (.getfield 236, 3) := by decide +kernel
theorem dX8_nextOrder_4 : decode cX8_nextOrder 4 = .ok (.iconst 2, 1) := by decide +kernel
theorem dX8_nextOrder_5 : decode cX8_nextOrder 5 = .ok (.isub, 1) := by decide +kernel
theorem dX8_nextOrder_6 : decode cX8_nextOrder 6 = .ok (.istore_n 1, 1) := by decide +kernel
theorem dX8_nextOrder_7 : decode cX8_nextOrder 7 = .ok (.iload_n 1, 1) := by decide +kernel
theorem dX8_nextOrder_8 : decode cX8_nextOrder 8 = .ok (.ifCond .lt 26, 3) := by decide +kernel
theorem dX8_nextOrder_11 : decode cX8_nextOrder 11 = .ok (.aload_n 0, 1) := by decide +kernel
theorem dX8_nextOrder_12 : decode cX8_nextOrder 12 = .ok (.getfield 124, 3) := by decide +kernel
theorem dX8_nextOrder_15 : decode cX8_nextOrder 15 = .ok (.iload_n 1, 1) := by decide +kernel
theorem dX8_nextOrder_16 : decode cX8_nextOrder 16 = .ok (.iaload, 1) := by decide +kernel
theorem dX8_nextOrder_17 : decode cX8_nextOrder 17 = .ok (.aload_n 0, 1) := by decide +kernel
theorem dX8_nextOrder_18 : decode cX8_nextOrder 18 = .ok (.getfield 124, 3) := by decide +kernel
theorem dX8_nextOrder_21 : decode cX8_nextOrder 21 = .ok (.iload_n 1, 1) := by decide +kernel
theorem dX8_nextOrder_22 : decode cX8_nextOrder 22 = .ok (.iconst 1, 1) := by decide +kernel
theorem dX8_nextOrder_23 : decode cX8_nextOrder 23 = .ok (.iadd, 1) := by decide +kernel
theorem dX8_nextOrder_24 : decode cX8_nextOrder 24 = .ok (.iaload, 1) := by decide +kernel
theorem dX8_nextOrder_25 : decode cX8_nextOrder 25 = .ok (.if_icmp .le 9, 3) := by decide +kernel
theorem dX8_nextOrder_28 : decode cX8_nextOrder 28 = .ok (.iinc 1 (-1), 3) := by decide +kernel
theorem dX8_nextOrder_31 : decode cX8_nextOrder 31 = .ok (.goto (-24), 3) := by decide +kernel
theorem dX8_nextOrder_34 : decode cX8_nextOrder 34 = .ok (.iload_n 1, 1) := by decide +kernel
theorem dX8_nextOrder_35 : decode cX8_nextOrder 35 = .ok (.ifCond .ge 5, 3) := by decide +kernel
theorem dX8_nextOrder_38 : decode cX8_nextOrder 38 = .ok (.iconst 0, 1) := by decide +kernel
theorem dX8_nextOrder_39 : decode cX8_nextOrder 39 = .ok (.ireturn, 1) := by decide +kernel
theorem dX8_nextOrder_40 : decode cX8_nextOrder 40 = .ok (.aload_n 0, 1) := by decide +kernel
theorem dX8_nextOrder_41 : decode cX8_nextOrder 41 = .ok (.getfield 236, 3) := by decide +kernel
theorem dX8_nextOrder_44 : decode cX8_nextOrder 44 = .ok (.iconst 1, 1) := by decide +kernel
theorem dX8_nextOrder_45 : decode cX8_nextOrder 45 = .ok (.isub, 1) := by decide +kernel
theorem dX8_nextOrder_46 : decode cX8_nextOrder 46 = .ok (.istore_n 2, 1) := by decide +kernel
theorem dX8_nextOrder_47 : decode cX8_nextOrder 47 = .ok (.aload_n 0, 1) := by decide +kernel
theorem dX8_nextOrder_48 : decode cX8_nextOrder 48 = .ok (.getfield 124, 3) := by decide +kernel
theorem dX8_nextOrder_51 : decode cX8_nextOrder 51 = .ok (.iload_n 2, 1) := by decide +kernel
theorem dX8_nextOrder_52 : decode cX8_nextOrder 52 = .ok (.iaload, 1) := by decide +kernel
theorem dX8_nextOrder_53 : decode cX8_nextOrder 53 = .ok (.aload_n 0, 1) := by decide +kernel
theorem dX8_nextOrder_54 : decode cX8_nextOrder 54 = .ok (.getfield 124, 3) := by decide +kernel
theorem dX8_nextOrder_57 : decode cX8_nextOrder 57 = .ok (.iload_n 1, 1) := by decide +kernel
theorem dX8_nextOrder_58 : decode cX8_nextOrder 58 = .ok (.iaload, 1) := by decide +kernel
theorem dX8_nextOrder_59 : decode cX8_nextOrder 59 = .ok (.if_icmp .ge 9, 3) := by decide +kernel
theorem dX8_nextOrder_62 : decode cX8_nextOrder 62 = .ok (.iinc 2 (-1), 3) := by decide +kernel
theorem dX8_nextOrder_65 : decode cX8_nextOrder 65 = .ok (.goto (-18), 3) := by decide +kernel
theorem dX8_nextOrder_68 : decode cX8_nextOrder 68 = .ok (.aload_n 0, 1) := by decide +kernel
theorem dX8_nextOrder_69 : decode cX8_nextOrder 69 = .ok (.getfield 124, 3) := by decide +kernel
theorem dX8_nextOrder_72 : decode cX8_nextOrder 72 = .ok (.iload_n 1, 1) := by decide +kernel
theorem dX8_nextOrder_73 : decode cX8_nextOrder 73 = .ok (.iaload, 1) := by decide +kernel
theorem dX8_nextOrder_74 : decode cX8_nextOrder 74 = .ok (.istore_n 3, 1) := by decide +kernel
theorem dX8_nextOrder_75 : decode cX8_nextOrder 75 = .ok (.aload_n 0, 1) := by decide +kernel
theorem dX8_nextOrder_76 : decode cX8_nextOrder 76 = .ok (.getfield 124, 3) := by decide +kernel
theorem dX8_nextOrder_79 : decode cX8_nextOrder 79 = .ok (.iload_n 1, 1) := by decide +kernel
theorem dX8_nextOrder_80 : decode cX8_nextOrder 80 = .ok (.aload_n 0, 1) := by decide +kernel
theorem dX8_nextOrder_81 : decode cX8_nextOrder 81 = .ok (.getfield 124, 3) := by decide +kernel
theorem dX8_nextOrder_84 : decode cX8_nextOrder 84 = .ok (.iload_n 2, 1) := by decide +kernel
theorem dX8_nextOrder_85 : decode cX8_nextOrder 85 = .ok (.iaload, 1) := by decide +kernel
theorem dX8_nextOrder_86 : decode cX8_nextOrder 86 = .ok (.iastore, 1) := by decide +kernel
theorem dX8_nextOrder_87 : decode cX8_nextOrder 87 = .ok (.aload_n 0, 1) := by decide +kernel
theorem dX8_nextOrder_88 : decode cX8_nextOrder 88 = .ok (.getfield 124, 3) := by decide +kernel
theorem dX8_nextOrder_91 : decode cX8_nextOrder 91 = .ok (.iload_n 2, 1) := by decide +kernel
theorem dX8_nextOrder_92 : decode cX8_nextOrder 92 = .ok (.iload_n 3, 1) := by decide +kernel
theorem dX8_nextOrder_93 : decode cX8_nextOrder 93 = .ok (.iastore, 1) := by decide +kernel
theorem dX8_nextOrder_94 : decode cX8_nextOrder 94 = .ok (.iload_n 1, 1) := by decide +kernel
theorem dX8_nextOrder_95 : decode cX8_nextOrder 95 = .ok (.iconst 1, 1) := by decide +kernel
theorem dX8_nextOrder_96 : decode cX8_nextOrder 96 = .ok (.iadd, 1) := by decide +kernel
theorem dX8_nextOrder_97 : decode cX8_nextOrder 97 = .ok (.istore 4, 2) := by decide +kernel
theorem dX8_nextOrder_99 : decode cX8_nextOrder 99 = .ok (.aload_n 0, 1) := by decide +kernel
theorem dX8_nextOrder_100 : decode cX8_nextOrder 100 = .ok (.getfield 236, 3) := by decide +kernel
theorem dX8_nextOrder_103 : decode cX8_nextOrder 103 = .ok (.iconst 1, 1) := by decide +kernel
theorem dX8_nextOrder_104 : decode cX8_nextOrder 104 = .ok (.isub, 1) := by decide +kernel
theorem dX8_nextOrder_105 : decode cX8_nextOrder 105 = .ok (.istore 5, 2) := by decide +kernel
theorem dX8_nextOrder_107 : decode cX8_nextOrder 107 = .ok (.iload 4, 2) := by decide +kernel
theorem dX8_nextOrder_109 : decode cX8_nextOrder 109 = .ok (.iload 5, 2) := by decide +kernel
theorem dX8_nextOrder_111 : decode cX8_nextOrder 111 = .ok (.if_icmp .ge 42, 3) := by decide +kernel
theorem dX8_nextOrder_114 : decode cX8_nextOrder 114 = .ok (.aload_n 0, 1) := by decide +kernel
theorem dX8_nextOrder_115 : decode cX8_nextOrder 115 = .ok (.getfield 124, 3) := by decide +kernel
theorem dX8_nextOrder_118 : decode cX8_nextOrder 118 = .ok (.iload 4, 2) := by decide +kernel
theorem dX8_nextOrder_120 : decode cX8_nextOrder 120 = .ok (.iaload, 1) := by decide +kernel
theorem dX8_nextOrder_121 : decode cX8_nextOrder 121 = .ok (.istore_n 3, 1) := by decide +kernel
theorem dX8_nextOrder_122 : decode cX8_nextOrder 122 = .ok (.aload_n 0, 1) := by decide +kernel
theorem dX8_nextOrder_123 : decode cX8_nextOrder 123 = .ok (.getfield 124, 3) := by decide +kernel
theorem dX8_nextOrder_126 : decode cX8_nextOrder 126 = .ok (.iload 4, 2) := by decide +kernel
theorem dX8_nextOrder_128 : decode cX8_nextOrder 128 = .ok (.aload_n 0, 1) := by decide +kernel
theorem dX8_nextOrder_129 : decode cX8_nextOrder 129 = .ok (.getfield 124, 3) := by decide +kernel
theorem dX8_nextOrder_132 : decode cX8_nextOrder 132 = .ok (.iload 5, 2) := by decide +kernel
theorem dX8_nextOrder_134 : decode cX8_nextOrder 134 = .ok (.iaload, 1) := by decide +kernel
theorem dX8_nextOrder_135 : decode cX8_nextOrder 135 = .ok (.iastore, 1) := by decide +kernel
theorem dX8_nextOrder_136 : decode cX8_nextOrder 136 = .ok (.aload_n 0, 1) := by decide +kernel
theorem dX8_nextOrder_137 : decode cX8_nextOrder 137 = .ok (.getfield 124, 3) := by decide +kernel
theorem dX8_nextOrder_140 : decode cX8_nextOrder 140 = .ok (.iload 5, 2) := by decide +kernel
theorem dX8_nextOrder_142 : decode cX8_nextOrder 142 = .ok (.iload_n 3, 1) := by decide +kernel
theorem dX8_nextOrder_143 : decode cX8_nextOrder 143 = .ok (.iastore, 1) := by decide +kernel
theorem dX8_nextOrder_144 : decode cX8_nextOrder 144 = .ok (.iinc 4 1, 3) := by decide +kernel
theorem dX8_nextOrder_147 : decode cX8_nextOrder 147 = .ok (.iinc 5 (-1), 3) := by decide +kernel
theorem dX8_nextOrder_150 : decode cX8_nextOrder 150 = .ok (.goto (-43), 3) := by decide +kernel
theorem dX8_nextOrder_153 : decode cX8_nextOrder 153 = .ok (.iconst 1, 1) := by decide +kernel
theorem dX8_nextOrder_154 : decode cX8_nextOrder 154 = .ok (.ireturn, 1) := by decide +kernel
set_option maxRecDepth 20000 in
theorem ggX8_plan_X8_isMill : GoodIn wsX8_plan wsX8_isMill := goodIn_r _ [18, 19, 20, 17, 21] (by decide +kernel) (by decide +kernel)
set_option maxRecDepth 20000 in
theorem gX8_plan_X8_isMill : GoodIn wsX8_plan (wsV RX8 155 RX8 yX8_isMill wsX8_isMill) := goodIn_app (goodIn_of _ (by decide +kernel)) ggX8_plan_X8_isMill
set_option maxRecDepth 20000 in
theorem ggX8_plan_X8_tries : GoodIn wsX8_plan wsX8_tries := goodIn_r _ [25, 26, 27, 5, 6, 3, 28, 29, 30, 31, 32, 33, 34, 9, 11, 35, 36, 37, 17, 38, 39, 40, 41, 42, 43, 48, 49, 50, 51, 52, 53, 54, 55, 56, 57, 58, 59, 60, 61, 62, 63, 64, 65, 66, 67, 68, 69, 70, 71, 72, 73, 74, 75, 76, 77, 78, 79, 80, 81, 82, 83, 84, 85, 86, 87, 88, 89, 90, 91, 92, 93, 94, 95, 96, 97, 98, 99, 100, 101] (by decide +kernel) (by decide +kernel)
set_option maxRecDepth 20000 in
theorem gX8_plan_X8_tries : GoodIn wsX8_plan (wsV RX8 252 RX8 yX8_tries wsX8_tries) := goodIn_app (goodIn_of _ (by decide +kernel)) ggX8_plan_X8_tries
set_option maxRecDepth 20000 in
theorem ggX8_plan_X8_nextOrder : GoodIn wsX8_plan wsX8_nextOrder := goodIn_r _ [47, 5, 6, 48, 49, 50, 51, 52, 53, 54, 55, 56, 57, 58, 59, 60, 61, 62, 63, 64, 65, 66, 67, 68, 69, 70, 71, 72, 73, 74, 75, 76, 77, 78, 79, 80, 81, 82, 83, 84, 85, 86, 87, 88, 89, 90, 91, 92, 93, 94, 95, 96, 97, 98, 99, 100, 101] (by decide +kernel) (by decide +kernel)
set_option maxRecDepth 20000 in
theorem gX8_plan_X8_nextOrder : GoodIn wsX8_plan (wsV RX8 262 RX8 yX8_nextOrder wsX8_nextOrder) := goodIn_app (goodIn_of _ (by decide +kernel)) ggX8_plan_X8_nextOrder
theorem dX8_plan_0 : decode cX8_plan 0 = .ok (.aload_n 0, 1) := by decide +kernel
theorem dX8_plan_1 : decode cX8_plan 1 = .ok (.iload_n 1, 1) := by decide +kernel
theorem dX8_plan_2 : decode cX8_plan 2 = .ok (.invokevirtual 155, 3) := by decide +kernel
theorem dX8_plan_5 : decode cX8_plan 5 = .ok (.ifCond .ne 5, 3) := by decide +kernel
theorem dX8_plan_8 : decode cX8_plan 8 = .ok (.iconst (-1), 1) := by decide +kernel
theorem dX8_plan_9 : decode cX8_plan 9 = .ok (.ireturn, 1) := by decide +kernel
theorem dX8_plan_10 : decode cX8_plan 10 = .ok (.iconst 0, 1) := by decide +kernel
theorem dX8_plan_11 : decode cX8_plan 11 = .ok (.istore_n 2, 1) := by decide +kernel
theorem dX8_plan_12 : decode cX8_plan 12 = .ok (.iconst 0, 1) := by decide +kernel
theorem dX8_plan_13 : decode cX8_plan 13 = .ok (.istore_n 3, 1) := by decide +kernel
theorem dX8_plan_14 : decode cX8_plan 14 = .ok (.iload_n 3, 1) := by decide +kernel
theorem dX8_plan_15 : decode cX8_plan 15 = .ok (.aload_n 0, 1) := by decide +kernel
theorem dX8_plan_16 : decode cX8_plan 16 = .ok (.getfield 130, 3) := by decide +kernel
theorem dX8_plan_19 : decode cX8_plan 19 = .ok (.if_icmp .ge 86, 3) := by decide +kernel
theorem dX8_plan_22 : decode cX8_plan 22 = .ok (.aload_n 0, 1) := by decide +kernel
theorem dX8_plan_23 : decode cX8_plan 23 = .ok (.getfield 35, 3) := by decide +kernel
theorem dX8_plan_26 : decode cX8_plan 26 = .ok (.iload_n 3, 1) := by decide +kernel
theorem dX8_plan_27 : decode cX8_plan 27 = .ok (.iaload, 1) := by decide +kernel
theorem dX8_plan_28 : decode cX8_plan 28 = .ok (.iconst 2, 1) := by decide +kernel
theorem dX8_plan_29 : decode cX8_plan 29 = .ok (.if_icmp .ne 36, 3) := by decide +kernel
theorem dX8_plan_32 : decode cX8_plan 32 = .ok (.aload_n 0, 1) := by decide +kernel
theorem dX8_plan_33 : decode cX8_plan 33 = .ok (.getfield 26, 3) := by decide +kernel
theorem dX8_plan_36 : decode cX8_plan 36 = .ok (.iload_n 3, 1) := by decide +kernel
theorem dX8_plan_37 : decode cX8_plan 37 = .ok (.iaload, 1) := by decide +kernel
theorem dX8_plan_38 : decode cX8_plan 38 = .ok (.ifCond .eq 23, 3) := by decide +kernel
theorem dX8_plan_41 : decode cX8_plan 41 = .ok (.aload_n 0, 1) := by decide +kernel
theorem dX8_plan_42 : decode cX8_plan 42 = .ok (.getfield 26, 3) := by decide +kernel
theorem dX8_plan_45 : decode cX8_plan 45 = .ok (.iload_n 3, 1) := by decide +kernel
theorem dX8_plan_46 : decode cX8_plan 46 = .ok (.iaload, 1) := by decide +kernel
theorem dX8_plan_47 : decode cX8_plan 47 = .ok (.iconst 2, 1) := by decide +kernel
theorem dX8_plan_48 : decode cX8_plan 48 = .ok (.if_icmp .eq 13, 3) := by decide +kernel
theorem dX8_plan_51 : decode cX8_plan 51 = .ok (.aload_n 0, 1) := by decide +kernel
theorem dX8_plan_52 : decode cX8_plan 52 = .ok (.getfield 26, 3) := by decide +kernel
theorem dX8_plan_55 : decode cX8_plan 55 = .ok (.iload_n 3, 1) := by decide +kernel
theorem dX8_plan_56 : decode cX8_plan 56 = .ok (.iaload, 1) := by decide +kernel
theorem dX8_plan_57 : decode cX8_plan 57 = .ok (.iconst 3, 1) := by decide +kernel
theorem dX8_plan_58 : decode cX8_plan 58 = .ok (.if_icmp .ne 7, 3) := by decide +kernel
theorem dX8_plan_61 : decode cX8_plan 61 = .ok (.iconst 1, 1) := by decide +kernel
theorem dX8_plan_62 : decode cX8_plan 62 = .ok (.goto 4, 3) := by decide +kernel
theorem dX8_plan_65 : decode cX8_plan 65 = .ok (.iconst 0, 1) := by decide +kernel
theorem dX8_plan_66 : decode cX8_plan 66 = .ok (.istore 4, 2) := by decide +kernel
theorem dX8_plan_68 : decode cX8_plan 68 = .ok (.iload 4, 2) := by decide +kernel
theorem dX8_plan_70 : decode cX8_plan 70 = .ok (.ifCond .eq 11, 3) := by decide +kernel
theorem dX8_plan_73 : decode cX8_plan 73 = .ok (.iload_n 2, 1) := by decide +kernel
theorem dX8_plan_74 : decode cX8_plan 74 = .ok (.bipush 8, 2) := by decide +kernel
theorem dX8_plan_76 : decode cX8_plan 76 = .ok (.if_icmp .ne 5, 3) := by decide +kernel
theorem dX8_plan_79 : decode cX8_plan 79 = .ok (.iconst (-1), 1) := by decide +kernel
theorem dX8_plan_80 : decode cX8_plan 80 = .ok (.ireturn, 1) := by decide +kernel
theorem dX8_plan_81 : decode cX8_plan 81 = .ok (.iload 4, 2) := by decide +kernel
theorem dX8_plan_83 : decode cX8_plan 83 = .ok (.ifCond .ne 6, 3) := by decide +kernel
theorem dX8_plan_86 : decode cX8_plan 86 = .ok (.goto 13, 3) := by decide +kernel
theorem dX8_plan_89 : decode cX8_plan 89 = .ok (.aload_n 0, 1) := by decide +kernel
theorem dX8_plan_90 : decode cX8_plan 90 = .ok (.getfield 121, 3) := by decide +kernel
theorem dX8_plan_93 : decode cX8_plan 93 = .ok (.iload_n 2, 1) := by decide +kernel
theorem dX8_plan_94 : decode cX8_plan 94 = .ok (.iload_n 3, 1) := by decide +kernel
theorem dX8_plan_95 : decode cX8_plan 95 = .ok (.iastore, 1) := by decide +kernel
theorem dX8_plan_96 : decode cX8_plan 96 = .ok (.iinc 2 1, 3) := by decide +kernel
theorem dX8_plan_99 : decode cX8_plan 99 = .ok (.iinc 3 1, 3) := by decide +kernel
theorem dX8_plan_102 : decode cX8_plan 102 = .ok (.goto (-88), 3) := by decide +kernel
theorem dX8_plan_105 : decode cX8_plan 105 = .ok (.aload_n 0, 1) := by decide +kernel
theorem dX8_plan_106 : decode cX8_plan 106 = .ok (.iload_n 2, 1) := by decide +kernel
theorem dX8_plan_107 : decode cX8_plan 107 = .ok (.putfield 236, 3) := by decide +kernel
theorem dX8_plan_110 : decode cX8_plan 110 = .ok (.iconst 0, 1) := by decide +kernel
theorem dX8_plan_111 : decode cX8_plan 111 = .ok (.istore_n 3, 1) := by decide +kernel
theorem dX8_plan_112 : decode cX8_plan 112 = .ok (.iload_n 3, 1) := by decide +kernel
theorem dX8_plan_113 : decode cX8_plan 113 = .ok (.iload_n 2, 1) := by decide +kernel
theorem dX8_plan_114 : decode cX8_plan 114 = .ok (.if_icmp .ge 21, 3) := by decide +kernel
theorem dX8_plan_117 : decode cX8_plan 117 = .ok (.aload_n 0, 1) := by decide +kernel
theorem dX8_plan_118 : decode cX8_plan 118 = .ok (.getfield 124, 3) := by decide +kernel
theorem dX8_plan_121 : decode cX8_plan 121 = .ok (.iload_n 3, 1) := by decide +kernel
theorem dX8_plan_122 : decode cX8_plan 122 = .ok (.aload_n 0, 1) := by decide +kernel
theorem dX8_plan_123 : decode cX8_plan 123 = .ok (.getfield 121, 3) := by decide +kernel
theorem dX8_plan_126 : decode cX8_plan 126 = .ok (.iload_n 3, 1) := by decide +kernel
theorem dX8_plan_127 : decode cX8_plan 127 = .ok (.iaload, 1) := by decide +kernel
theorem dX8_plan_128 : decode cX8_plan 128 = .ok (.iastore, 1) := by decide +kernel
theorem dX8_plan_129 : decode cX8_plan 129 = .ok (.iinc 3 1, 3) := by decide +kernel
theorem dX8_plan_132 : decode cX8_plan 132 = .ok (.goto (-20), 3) := by decide +kernel
theorem dX8_plan_135 : decode cX8_plan 135 = .ok (.aload_n 0, 1) := by decide +kernel
theorem dX8_plan_136 : decode cX8_plan 136 = .ok (.iconst 1, 1) := by decide +kernel
theorem dX8_plan_137 : decode cX8_plan 137 = .ok (.putfield 245, 3) := by decide +kernel
theorem dX8_plan_140 : decode cX8_plan 140 = .ok (.aload_n 0, 1) := by decide +kernel
theorem dX8_plan_141 : decode cX8_plan 141 = .ok (.iload_n 2, 1) := by decide +kernel
theorem dX8_plan_142 : decode cX8_plan 142 = .ok (.putfield 249, 3) := by decide +kernel
theorem dX8_plan_145 : decode cX8_plan 145 = .ok (.iconst 1, 1) := by decide +kernel
theorem dX8_plan_146 : decode cX8_plan 146 = .ok (.istore_n 3, 1) := by decide +kernel
theorem dX8_plan_147 : decode cX8_plan 147 = .ok (.iconst 1, 1) := by decide +kernel
theorem dX8_plan_148 : decode cX8_plan 148 = .ok (.istore 4, 2) := by decide +kernel
theorem dX8_plan_150 : decode cX8_plan 150 = .ok (.iload 4, 2) := by decide +kernel
theorem dX8_plan_152 : decode cX8_plan 152 = .ok (.ifCond .eq 101, 3) := by decide +kernel
theorem dX8_plan_155 : decode cX8_plan 155 = .ok (.aload_n 0, 1) := by decide +kernel
theorem dX8_plan_156 : decode cX8_plan 156 = .ok (.iload_n 1, 1) := by decide +kernel
theorem dX8_plan_157 : decode cX8_plan 157 = .ok (.invokevirtual 252, 3) := by decide +kernel
theorem dX8_plan_160 : decode cX8_plan 160 = .ok (.iload_n 3, 1) := by decide +kernel
theorem dX8_plan_161 : decode cX8_plan 161 = .ok (.ifCond .ne 36, 3) := by decide +kernel
theorem dX8_plan_164 : decode cX8_plan 164 = .ok (.aload_n 0, 1) := by decide +kernel
theorem dX8_plan_165 : decode cX8_plan 165 = .ok (.getfield 239, 3) := by decide +kernel
theorem dX8_plan_168 : decode cX8_plan 168 = .ok (.aload_n 0, 1) := by decide +kernel
theorem dX8_plan_169 : decode cX8_plan 169 = .ok (.getfield 256, 3) := by decide +kernel
theorem dX8_plan_172 : decode cX8_plan 172 = .ok (.if_icmp .lt 25, 3) := by decide +kernel
theorem dX8_plan_175 : decode cX8_plan 175 = .ok (.aload_n 0, 1) := by decide +kernel
theorem dX8_plan_176 : decode cX8_plan 176 = .ok (.getfield 239, 3) := by decide +kernel
theorem dX8_plan_179 : decode cX8_plan 179 = .ok (.aload_n 0, 1) := by decide +kernel
theorem dX8_plan_180 : decode cX8_plan 180 = .ok (.getfield 256, 3) := by decide +kernel
theorem dX8_plan_183 : decode cX8_plan 183 = .ok (.if_icmp .ne 59, 3) := by decide +kernel
theorem dX8_plan_186 : decode cX8_plan 186 = .ok (.aload_n 0, 1) := by decide +kernel
theorem dX8_plan_187 : decode cX8_plan 187 = .ok (.getfield 242, 3) := by decide +kernel
theorem dX8_plan_190 : decode cX8_plan 190 = .ok (.aload_n 0, 1) := by decide +kernel
theorem dX8_plan_191 : decode cX8_plan 191 = .ok (.getfield 259, 3) := by decide +kernel
theorem dX8_plan_194 : decode cX8_plan 194 = .ok (.if_icmp .ge 48, 3) := by decide +kernel
theorem dX8_plan_197 : decode cX8_plan 197 = .ok (.aload_n 0, 1) := by decide +kernel
theorem dX8_plan_198 : decode cX8_plan 198 = .ok (.aload_n 0, 1) := by decide +kernel
theorem dX8_plan_199 : decode cX8_plan 199 = .ok (.getfield 239, 3) := by decide +kernel
theorem dX8_plan_202 : decode cX8_plan 202 = .ok (.putfield 256, 3) := by decide +kernel
theorem dX8_plan_205 : decode cX8_plan 205 = .ok (.aload_n 0, 1) := by decide +kernel
theorem dX8_plan_206 : decode cX8_plan 206 = .ok (.aload_n 0, 1) := by decide +kernel
theorem dX8_plan_207 : decode cX8_plan 207 = .ok (.getfield 242, 3) := by decide +kernel
theorem dX8_plan_210 : decode cX8_plan 210 = .ok (.putfield 259, 3) := by decide +kernel
theorem dX8_plan_213 : decode cX8_plan 213 = .ok (.iconst 0, 1) := by decide +kernel
theorem dX8_plan_214 : decode cX8_plan 214 = .ok (.istore 5, 2) := by decide +kernel
theorem dX8_plan_216 : decode cX8_plan 216 = .ok (.iload 5, 2) := by decide +kernel
theorem dX8_plan_218 : decode cX8_plan 218 = .ok (.iload_n 2, 1) := by decide +kernel
theorem dX8_plan_219 : decode cX8_plan 219 = .ok (.if_icmp .ge 23, 3) := by decide +kernel
theorem dX8_plan_222 : decode cX8_plan 222 = .ok (.aload_n 0, 1) := by decide +kernel
theorem dX8_plan_223 : decode cX8_plan 223 = .ok (.getfield 118, 3) := by decide +kernel
theorem dX8_plan_226 : decode cX8_plan 226 = .ok (.iload 5, 2) := by decide +kernel
theorem dX8_plan_228 : decode cX8_plan 228 = .ok (.aload_n 0, 1) := by decide +kernel
theorem dX8_plan_229 : decode cX8_plan 229 = .ok (.getfield 124, 3) := by decide +kernel
theorem dX8_plan_232 : decode cX8_plan 232 = .ok (.iload 5, 2) := by decide +kernel
theorem dX8_plan_234 : decode cX8_plan 234 = .ok (.iaload, 1) := by decide +kernel
theorem dX8_plan_235 : decode cX8_plan 235 = .ok (.iastore, 1) := by decide +kernel
theorem dX8_plan_236 : decode cX8_plan 236 = .ok (.iinc 5 1, 3) := by decide +kernel
theorem dX8_plan_239 : decode cX8_plan 239 = .ok (.goto (-23), 3) := by decide +kernel
theorem dX8_plan_242 : decode cX8_plan 242 = .ok (.iconst 0, 1) := by decide +kernel
theorem dX8_plan_243 : decode cX8_plan 243 = .ok (.istore_n 3, 1) := by decide +kernel
theorem dX8_plan_244 : decode cX8_plan 244 = .ok (.aload_n 0, 1) := by decide +kernel
theorem dX8_plan_245 : decode cX8_plan 245 = .ok (.invokevirtual 262, 3) := by decide +kernel
theorem dX8_plan_248 : decode cX8_plan 248 = .ok (.istore 4, 2) := by decide +kernel
theorem dX8_plan_250 : decode cX8_plan 250 = .ok (.goto (-100), 3) := by decide +kernel
theorem dX8_plan_253 : decode cX8_plan 253 = .ok (.iload_n 2, 1) := by decide +kernel
theorem dX8_plan_254 : decode cX8_plan 254 = .ok (.ireturn, 1) := by decide +kernel
set_option maxRecDepth 20000 in
theorem ggX8_planned_X8_in : GoodIn wsX8_planned wsX8_in := goodIn_r _ [9] (by decide +kernel) (by decide +kernel)
set_option maxRecDepth 20000 in
theorem gX8_planned_X8_in : GoodIn wsX8_planned (va_wsS RX8 133 yX8_in wsX8_in) := goodIn_app (goodIn_of _ (by decide +kernel)) ggX8_planned_X8_in
theorem dX8_planned_0 : decode cX8_planned 0 = .ok (.aload_n 0, 1) := by decide +kernel
theorem dX8_planned_1 : decode cX8_planned 1 = .ok (.getfield 245, 3) := by decide +kernel
theorem dX8_planned_4 : decode cX8_planned 4 = .ok (.ifCond .ne 5, 3) := by decide +kernel
theorem dX8_planned_7 : decode cX8_planned 7 = .ok (.iconst (-1), 1) := by decide +kernel
theorem dX8_planned_8 : decode cX8_planned 8 = .ok (.ireturn, 1) := by decide +kernel
theorem dX8_planned_9 : decode cX8_planned 9 = .ok (.iload_n 1, 1) := by decide +kernel
theorem dX8_planned_10 : decode cX8_planned 10 = .ok (.iconst (-1), 1) := by decide +kernel
theorem dX8_planned_11 : decode cX8_planned 11 = .ok (.if_icmp .ne 8, 3) := by decide +kernel
theorem dX8_planned_14 : decode cX8_planned 14 = .ok (.aload_n 0, 1) := by decide +kernel
theorem dX8_planned_15 : decode cX8_planned 15 = .ok (.getfield 256, 3) := by decide +kernel
theorem dX8_planned_18 : decode cX8_planned 18 = .ok (.ireturn, 1) := by decide +kernel
theorem dX8_planned_19 : decode cX8_planned 19 = .ok (.iload_n 1, 1) := by decide +kernel
theorem dX8_planned_20 : decode cX8_planned 20 = .ok (.bipush (-2), 2) := by decide +kernel
theorem dX8_planned_22 : decode cX8_planned 22 = .ok (.if_icmp .ne 8, 3) := by decide +kernel
theorem dX8_planned_25 : decode cX8_planned 25 = .ok (.aload_n 0, 1) := by decide +kernel
theorem dX8_planned_26 : decode cX8_planned 26 = .ok (.getfield 259, 3) := by decide +kernel
theorem dX8_planned_29 : decode cX8_planned 29 = .ok (.ireturn, 1) := by decide +kernel
theorem dX8_planned_30 : decode cX8_planned 30 = .ok (.iload_n 1, 1) := by decide +kernel
theorem dX8_planned_31 : decode cX8_planned 31 = .ok (.iconst 0, 1) := by decide +kernel
theorem dX8_planned_32 : decode cX8_planned 32 = .ok (.aload_n 0, 1) := by decide +kernel
theorem dX8_planned_33 : decode cX8_planned 33 = .ok (.getfield 249, 3) := by decide +kernel
theorem dX8_planned_36 : decode cX8_planned 36 = .ok (.iconst 1, 1) := by decide +kernel
theorem dX8_planned_37 : decode cX8_planned 37 = .ok (.isub, 1) := by decide +kernel
theorem dX8_planned_38 : decode cX8_planned 38 = .ok (.invokestatic 133, 3) := by decide +kernel
theorem dX8_planned_41 : decode cX8_planned 41 = .ok (.ifCond .eq 12, 3) := by decide +kernel
theorem dX8_planned_44 : decode cX8_planned 44 = .ok (.aload_n 0, 1) := by decide +kernel
theorem dX8_planned_45 : decode cX8_planned 45 = .ok (.getfield 118, 3) := by decide +kernel
theorem dX8_planned_48 : decode cX8_planned 48 = .ok (.iload_n 1, 1) := by decide +kernel
theorem dX8_planned_49 : decode cX8_planned 49 = .ok (.iaload, 1) := by decide +kernel
theorem dX8_planned_50 : decode cX8_planned 50 = .ok (.goto 4, 3) := by decide +kernel
theorem dX8_planned_53 : decode cX8_planned 53 = .ok (.iconst (-1), 1) := by decide +kernel
theorem dX8_planned_54 : decode cX8_planned 54 = .ok (.ireturn, 1) := by decide +kernel
theorem dX8_balance_0 : decode cX8_balance 0 = .ok (.aload_n 0, 1) := by decide +kernel
theorem dX8_balance_1 : decode cX8_balance 1 = .ok (.getfield 179, 3) := by decide +kernel
theorem dX8_balance_4 : decode cX8_balance 4 = .ok (.aload_n 0, 1) := by decide +kernel
theorem dX8_balance_5 : decode cX8_balance 5 = .ok (.getfield 205, 3) := by decide +kernel
theorem dX8_balance_8 : decode cX8_balance 8 = .ok (.isub, 1) := by decide +kernel
theorem dX8_balance_9 : decode cX8_balance 9 = .ok (.aload_n 0, 1) := by decide +kernel
theorem dX8_balance_10 : decode cX8_balance 10 = .ok (.getfield 212, 3) := by decide +kernel
theorem dX8_balance_13 : decode cX8_balance 13 = .ok (.isub, 1) := by decide +kernel
theorem dX8_balance_14 : decode cX8_balance 14 = .ok (.aload_n 0, 1) := by decide +kernel
theorem dX8_balance_15 : decode cX8_balance 15 = .ok (.getfield 215, 3) := by decide +kernel
theorem dX8_balance_18 : decode cX8_balance 18 = .ok (.isub, 1) := by decide +kernel
theorem dX8_balance_19 : decode cX8_balance 19 = .ok (.istore_n 1, 1) := by decide +kernel
theorem dX8_balance_20 : decode cX8_balance 20 = .ok (.iconst 0, 1) := by decide +kernel
theorem dX8_balance_21 : decode cX8_balance 21 = .ok (.istore_n 2, 1) := by decide +kernel
theorem dX8_balance_22 : decode cX8_balance 22 = .ok (.iload_n 2, 1) := by decide +kernel
theorem dX8_balance_23 : decode cX8_balance 23 = .ok (.iconst 3, 1) := by decide +kernel
theorem dX8_balance_24 : decode cX8_balance 24 = .ok (.if_icmp .ge 32, 3) := by decide +kernel
theorem dX8_balance_27 : decode cX8_balance 27 = .ok (.iload_n 1, 1) := by decide +kernel
theorem dX8_balance_28 : decode cX8_balance 28 = .ok (.aload_n 0, 1) := by decide +kernel
theorem dX8_balance_29 : decode cX8_balance 29 = .ok (.getfield 84, 3) := by decide +kernel
theorem dX8_balance_32 : decode cX8_balance 32 = .ok (.iload_n 2, 1) := by decide +kernel
theorem dX8_balance_33 : decode cX8_balance 33 = .ok (.iaload, 1) := by decide +kernel
theorem dX8_balance_34 : decode cX8_balance 34 = .ok (.iconst (-1), 1) := by decide +kernel
theorem dX8_balance_35 : decode cX8_balance 35 = .ok (.if_icmp .ne 7, 3) := by decide +kernel
theorem dX8_balance_38 : decode cX8_balance 38 = .ok (.iconst 0, 1) := by decide +kernel
theorem dX8_balance_39 : decode cX8_balance 39 = .ok (.goto 9, 3) := by decide +kernel
theorem dX8_balance_42 : decode cX8_balance 42 = .ok (.aload_n 0, 1) := by decide +kernel
theorem dX8_balance_43 : decode cX8_balance 43 = .ok (.getfield 84, 3) := by decide +kernel
theorem dX8_balance_46 : decode cX8_balance 46 = .ok (.iload_n 2, 1) := by decide +kernel
theorem dX8_balance_47 : decode cX8_balance 47 = .ok (.iaload, 1) := by decide +kernel
theorem dX8_balance_48 : decode cX8_balance 48 = .ok (.isub, 1) := by decide +kernel
theorem dX8_balance_49 : decode cX8_balance 49 = .ok (.istore_n 1, 1) := by decide +kernel
theorem dX8_balance_50 : decode cX8_balance 50 = .ok (.iinc 2 1, 3) := by decide +kernel
theorem dX8_balance_53 : decode cX8_balance 53 = .ok (.goto (-31), 3) := by decide +kernel
theorem dX8_balance_56 : decode cX8_balance 56 = .ok (.iconst 0, 1) := by decide +kernel
theorem dX8_balance_57 : decode cX8_balance 57 = .ok (.istore_n 2, 1) := by decide +kernel
theorem dX8_balance_58 : decode cX8_balance 58 = .ok (.iload_n 2, 1) := by decide +kernel
theorem dX8_balance_59 : decode cX8_balance 59 = .ok (.aload_n 0, 1) := by decide +kernel
theorem dX8_balance_60 : decode cX8_balance 60 = .ok (.getfield 137, 3) := by decide +kernel
theorem dX8_balance_63 : decode cX8_balance 63 = .ok (.if_icmp .ge 18, 3) := by decide +kernel
theorem dX8_balance_66 : decode cX8_balance 66 = .ok (.iload_n 1, 1) := by decide +kernel
theorem dX8_balance_67 : decode cX8_balance 67 = .ok (.aload_n 0, 1) := by decide +kernel
theorem dX8_balance_68 : decode cX8_balance 68 = .ok (.getfield 99, 3) := by decide +kernel
theorem dX8_balance_71 : decode cX8_balance 71 = .ok (.iload_n 2, 1) := by decide +kernel
theorem dX8_balance_72 : decode cX8_balance 72 = .ok (.iaload, 1) := by decide +kernel
theorem dX8_balance_73 : decode cX8_balance 73 = .ok (.isub, 1) := by decide +kernel
theorem dX8_balance_74 : decode cX8_balance 74 = .ok (.istore_n 1, 1) := by decide +kernel
theorem dX8_balance_75 : decode cX8_balance 75 = .ok (.iinc 2 1, 3) := by decide +kernel
theorem dX8_balance_78 : decode cX8_balance 78 = .ok (.goto (-20), 3) := by decide +kernel
theorem dX8_balance_81 : decode cX8_balance 81 = .ok (.iload_n 1, 1) := by decide +kernel
theorem dX8_balance_82 : decode cX8_balance 82 = .ok (.ireturn, 1) := by decide +kernel
set_option maxRecDepth 20000 in
theorem ggX8_count_X8_today : GoodIn wsX8_count wsX8_today := goodIn_r _ [15, 4, 16, 17, 18, 19, 20, 21, 22, 23, 24, 25, 26, 27, 28, 29, 30, 31, 32, 33, 34, 35, 36, 37, 38, 39, 40, 41, 42, 43, 44, 45, 46, 47, 48, 49, 50, 51, 52, 53, 54, 55, 56, 57, 58, 59, 60, 61, 62, 63, 64, 65, 66, 67, 68, 69] (by decide +kernel) (by decide +kernel)
set_option maxRecDepth 20000 in
theorem gX8_count_X8_today : GoodIn wsX8_count (wsV RX8 143 RX8 yX8_today wsX8_today) := goodIn_app (goodIn_of _ (by decide +kernel)) ggX8_count_X8_today
theorem dX8_count_0 : decode cX8_count 0 = .ok (.iload_n 1, 1) := by decide +kernel
theorem dX8_count_1 : decode cX8_count 1 = .ok (.tableswitch 114 0 10 #[59, 64, 69, 74, 79, 84, 89, 94, 99, 104, 109], 59) := by decide +kernel
theorem dX8_count_60 : decode cX8_count 60 = .ok (.aload_n 0, 1) := by decide +kernel
theorem dX8_count_61 : decode cX8_count 61 = .ok (.getfield 140, 3) := by decide +kernel
theorem dX8_count_64 : decode cX8_count 64 = .ok (.ireturn, 1) := by decide +kernel
theorem dX8_count_65 : decode cX8_count 65 = .ok (.aload_n 0, 1) := by decide +kernel
theorem dX8_count_66 : decode cX8_count 66 = .ok (.getfield 130, 3) := by decide +kernel
theorem dX8_count_69 : decode cX8_count 69 = .ok (.ireturn, 1) := by decide +kernel
theorem dX8_count_70 : decode cX8_count 70 = .ok (.aload_n 0, 1) := by decide +kernel
theorem dX8_count_71 : decode cX8_count 71 = .ok (.getfield 137, 3) := by decide +kernel
theorem dX8_count_74 : decode cX8_count 74 = .ok (.ireturn, 1) := by decide +kernel
theorem dX8_count_75 : decode cX8_count 75 = .ok (.aload_n 0, 1) := by decide +kernel
theorem dX8_count_76 : decode cX8_count 76 = .ok (.invokevirtual 143, 3) := by decide +kernel
theorem dX8_count_79 : decode cX8_count 79 = .ok (.ireturn, 1) := by decide +kernel
theorem dX8_count_80 : decode cX8_count 80 = .ok (.aload_n 0, 1) := by decide +kernel
theorem dX8_count_81 : decode cX8_count 81 = .ok (.getfield 127, 3) := by decide +kernel
theorem dX8_count_84 : decode cX8_count 84 = .ok (.ireturn, 1) := by decide +kernel
theorem dX8_count_85 : decode cX8_count 85 = .ok (.aload_n 0, 1) := by decide +kernel
theorem dX8_count_86 : decode cX8_count 86 = .ok (.getfield 16, 3) := by decide +kernel
theorem dX8_count_89 : decode cX8_count 89 = .ok (.ireturn, 1) := by decide +kernel
theorem dX8_count_90 : decode cX8_count 90 = .ok (.aload_n 0, 1) := by decide +kernel
theorem dX8_count_91 : decode cX8_count 91 = .ok (.getfield 179, 3) := by decide +kernel
theorem dX8_count_94 : decode cX8_count 94 = .ok (.ireturn, 1) := by decide +kernel
theorem dX8_count_95 : decode cX8_count 95 = .ok (.aload_n 0, 1) := by decide +kernel
theorem dX8_count_96 : decode cX8_count 96 = .ok (.getfield 205, 3) := by decide +kernel
theorem dX8_count_99 : decode cX8_count 99 = .ok (.ireturn, 1) := by decide +kernel
theorem dX8_count_100 : decode cX8_count 100 = .ok (.aload_n 0, 1) := by decide +kernel
theorem dX8_count_101 : decode cX8_count 101 = .ok (.getfield 212, 3) := by decide +kernel
theorem dX8_count_104 : decode cX8_count 104 = .ok (.ireturn, 1) := by decide +kernel
theorem dX8_count_105 : decode cX8_count 105 = .ok (.aload_n 0, 1) := by decide +kernel
theorem dX8_count_106 : decode cX8_count 106 = .ok (.getfield 215, 3) := by decide +kernel
theorem dX8_count_109 : decode cX8_count 109 = .ok (.ireturn, 1) := by decide +kernel
theorem dX8_count_110 : decode cX8_count 110 = .ok (.aload_n 0, 1) := by decide +kernel
theorem dX8_count_111 : decode cX8_count 111 = .ok (.getfield 226, 3) := by decide +kernel
theorem dX8_count_114 : decode cX8_count 114 = .ok (.ireturn, 1) := by decide +kernel
theorem dX8_count_115 : decode cX8_count 115 = .ok (.iconst (-1), 1) := by decide +kernel
theorem dX8_count_116 : decode cX8_count 116 = .ok (.ireturn, 1) := by decide +kernel
theorem dJ9_abs_0f7a4_0 : decode cJ9_abs_0f7a4 0 = .ok (.iload_n 0, 1) := by decide +kernel
theorem dJ9_abs_0f7a4_1 : decode cJ9_abs_0f7a4 1 = .ok (.ifCond .ge 8, 3) := by decide +kernel
theorem dJ9_abs_0f7a4_4 : decode cJ9_abs_0f7a4 4 = .ok (.iload_n 0, 1) := by decide +kernel
theorem dJ9_abs_0f7a4_5 : decode cJ9_abs_0f7a4 5 = .ok (.ineg, 1) := by decide +kernel
theorem dJ9_abs_0f7a4_6 : decode cJ9_abs_0f7a4 6 = .ok (.goto 4, 3) := by decide +kernel
theorem dJ9_abs_0f7a4_9 : decode cJ9_abs_0f7a4 9 = .ok (.iload_n 0, 1) := by decide +kernel
theorem dJ9_abs_0f7a4_10 : decode cJ9_abs_0f7a4 10 = .ok (.ireturn, 1) := by decide +kernel
theorem dJ9_max_7cf53_0 : decode cJ9_max_7cf53 0 = .ok (.iload_n 0, 1) := by decide +kernel
theorem dJ9_max_7cf53_1 : decode cJ9_max_7cf53 1 = .ok (.iload_n 1, 1) := by decide +kernel
theorem dJ9_max_7cf53_2 : decode cJ9_max_7cf53 2 = .ok (.if_icmp .lt 7, 3) := by decide +kernel
theorem dJ9_max_7cf53_5 : decode cJ9_max_7cf53 5 = .ok (.iload_n 0, 1) := by decide +kernel
theorem dJ9_max_7cf53_6 : decode cJ9_max_7cf53 6 = .ok (.goto 4, 3) := by decide +kernel
theorem dJ9_max_7cf53_9 : decode cJ9_max_7cf53 9 = .ok (.iload_n 1, 1) := by decide +kernel
theorem dJ9_max_7cf53_10 : decode cJ9_max_7cf53 10 = .ok (.ireturn, 1) := by decide +kernel
theorem dJ9_max_f86c9_0 : decode cJ9_max_f86c9 0 = .ok (.lload_n 0, 1) := by decide +kernel
theorem dJ9_max_f86c9_1 : decode cJ9_max_f86c9 1 = .ok (.lload_n 2, 1) := by decide +kernel
theorem dJ9_max_f86c9_2 : decode cJ9_max_f86c9 2 = .ok (.lcmp, 1) := by decide +kernel
theorem dJ9_max_f86c9_3 : decode cJ9_max_f86c9 3 = .ok (.ifCond .lt 7, 3) := by decide +kernel
theorem dJ9_max_f86c9_6 : decode cJ9_max_f86c9 6 = .ok (.lload_n 0, 1) := by decide +kernel
theorem dJ9_max_f86c9_7 : decode cJ9_max_f86c9 7 = .ok (.goto 4, 3) := by decide +kernel
theorem dJ9_max_f86c9_10 : decode cJ9_max_f86c9 10 = .ok (.lload_n 2, 1) := by decide +kernel
theorem dJ9_max_f86c9_11 : decode cJ9_max_f86c9 11 = .ok (.lreturn, 1) := by decide +kernel
theorem dJ9_min_7cf53_0 : decode cJ9_min_7cf53 0 = .ok (.iload_n 0, 1) := by decide +kernel
theorem dJ9_min_7cf53_1 : decode cJ9_min_7cf53 1 = .ok (.iload_n 1, 1) := by decide +kernel
theorem dJ9_min_7cf53_2 : decode cJ9_min_7cf53 2 = .ok (.if_icmp .gt 7, 3) := by decide +kernel
theorem dJ9_min_7cf53_5 : decode cJ9_min_7cf53 5 = .ok (.iload_n 0, 1) := by decide +kernel
theorem dJ9_min_7cf53_6 : decode cJ9_min_7cf53 6 = .ok (.goto 4, 3) := by decide +kernel
theorem dJ9_min_7cf53_9 : decode cJ9_min_7cf53 9 = .ok (.iload_n 1, 1) := by decide +kernel
theorem dJ9_min_7cf53_10 : decode cJ9_min_7cf53 10 = .ok (.ireturn, 1) := by decide +kernel
theorem dJ9_min_f86c9_0 : decode cJ9_min_f86c9 0 = .ok (.lload_n 0, 1) := by decide +kernel
theorem dJ9_min_f86c9_1 : decode cJ9_min_f86c9 1 = .ok (.lload_n 2, 1) := by decide +kernel
theorem dJ9_min_f86c9_2 : decode cJ9_min_f86c9 2 = .ok (.lcmp, 1) := by decide +kernel
theorem dJ9_min_f86c9_3 : decode cJ9_min_f86c9 3 = .ok (.ifCond .gt 7, 3) := by decide +kernel
theorem dJ9_min_f86c9_6 : decode cJ9_min_f86c9 6 = .ok (.lload_n 0, 1) := by decide +kernel
theorem dJ9_min_f86c9_7 : decode cJ9_min_f86c9 7 = .ok (.goto 4, 3) := by decide +kernel
theorem dJ9_min_f86c9_10 : decode cJ9_min_f86c9 10 = .ok (.lload_n 2, 1) := by decide +kernel
theorem dJ9_min_f86c9_11 : decode cJ9_min_f86c9 11 = .ok (.lreturn, 1) := by decide +kernel
