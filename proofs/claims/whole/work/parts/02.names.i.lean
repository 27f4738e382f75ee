theorem dX8_share_192 : decode cX8_share 192 = .ok (.iload 7, 2) := by decide +kernel
theorem dX8_share_194 : decode cX8_share 194 = .ok (.invokevirtual 161, 3) := by decide +kernel
theorem dX8_share_197 : decode cX8_share 197 = .ok (.istore 8, 2) := by decide +kernel
theorem dX8_share_199 : decode cX8_share 199 = .ok (.iload_n 3, 1) := by decide +kernel
theorem dX8_share_200 : decode cX8_share 200 = .ok (.i2l, 1) := by decide +kernel
theorem dX8_share_201 : decode cX8_share 201 = .ok (.aload_n 0, 1) := by decide +kernel
theorem dX8_share_202 : decode cX8_share 202 = .ok (.iload 8, 2) := by decide +kernel
theorem dX8_share_204 : decode cX8_share 204 = .ok (.invokevirtual 182, 3) := by decide +kernel
theorem dX8_share_207 : decode cX8_share 207 = .ok (.lmul, 1) := by decide +kernel
theorem dX8_share_208 : decode cX8_share 208 = .ok (.lload 4, 2) := by decide +kernel
theorem dX8_share_210 : decode cX8_share 210 = .ok (.lrem, 1) := by decide +kernel
theorem dX8_share_211 : decode cX8_share 211 = .ok (.lstore 9, 2) := by decide +kernel
theorem dX8_share_213 : decode cX8_share 213 = .ok (.iconst 0, 1) := by decide +kernel
theorem dX8_share_214 : decode cX8_share 214 = .ok (.istore 11, 2) := by decide +kernel
theorem dX8_share_216 : decode cX8_share 216 = .ok (.iconst 0, 1) := by decide +kernel
theorem dX8_share_217 : decode cX8_share 217 = .ok (.istore 12, 2) := by decide +kernel
theorem dX8_share_219 : decode cX8_share 219 = .ok (.iload 12, 2) := by decide +kernel
theorem dX8_share_221 : decode cX8_share 221 = .ok (.iload_n 2, 1) := by decide +kernel
theorem dX8_share_222 : decode cX8_share 222 = .ok (.if_icmp .ge 65, 3) := by decide +kernel
theorem dX8_share_225 : decode cX8_share 225 = .ok (.aload_n 0, 1) := by decide +kernel
theorem dX8_share_226 : decode cX8_share 226 = .ok (.iload_n 1, 1) := by decide +kernel
theorem dX8_share_227 : decode cX8_share 227 = .ok (.iload 12, 2) := by decide +kernel
theorem dX8_share_229 : decode cX8_share 229 = .ok (.invokevirtual 161, 3) := by decide +kernel
theorem dX8_share_232 : decode cX8_share 232 = .ok (.istore 13, 2) := by decide +kernel
theorem dX8_share_234 : decode cX8_share 234 = .ok (.iload_n 3, 1) := by decide +kernel
theorem dX8_share_235 : decode cX8_share 235 = .ok (.i2l, 1) := by decide +kernel
theorem dX8_share_236 : decode cX8_share 236 = .ok (.aload_n 0, 1) := by decide +kernel
theorem dX8_share_237 : decode cX8_share 237 = .ok (.iload 13, 2) := by decide +kernel
theorem dX8_share_239 : decode cX8_share 239 = .ok (.invokevirtual 182, 3) := by decide +kernel
theorem dX8_share_242 : decode cX8_share 242 = .ok (.lmul, 1) := by decide +kernel
theorem dX8_share_243 : decode cX8_share 243 = .ok (.lload 4, 2) := by decide +kernel
theorem dX8_share_245 : decode cX8_share 245 = .ok (.lrem, 1) := by decide +kernel
theorem dX8_share_246 : decode cX8_share 246 = .ok (.lstore 14, 2) := by decide +kernel
theorem dX8_share_248 : decode cX8_share 248 = .ok (.iload 11, 2) := by decide +kernel
theorem dX8_share_250 : decode cX8_share 250 = .ok (.lload 14, 2) := by decide +kernel
theorem dX8_share_252 : decode cX8_share 252 = .ok (.lload 9, 2) := by decide +kernel
theorem dX8_share_254 : decode cX8_share 254 = .ok (.lcmp, 1) := by decide +kernel
theorem dX8_share_255 : decode cX8_share 255 = .ok (.ifCond .gt 18, 3) := by decide +kernel
theorem dX8_share_258 : decode cX8_share 258 = .ok (.lload 14, 2) := by decide +kernel
theorem dX8_share_260 : decode cX8_share 260 = .ok (.lload 9, 2) := by decide +kernel
theorem dX8_share_262 : decode cX8_share 262 = .ok (.lcmp, 1) := by decide +kernel
theorem dX8_share_263 : decode cX8_share 263 = .ok (.ifCond .ne 14, 3) := by decide +kernel
theorem dX8_share_266 : decode cX8_share 266 = .ok (.iload 13, 2) := by decide +kernel
theorem dX8_share_268 : decode cX8_share 268 = .ok (.iload 8, 2) := by decide +kernel
theorem dX8_share_270 : decode cX8_share 270 = .ok (.if_icmp .ge 7, 3) := by decide +kernel
theorem dX8_share_273 : decode cX8_share 273 = .ok (.iconst 1, 1) := by decide +kernel
theorem dX8_share_274 : decode cX8_share 274 = .ok (.goto 4, 3) := by decide +kernel
theorem dX8_share_277 : decode cX8_share 277 = .ok (.iconst 0, 1) := by decide +kernel
theorem dX8_share_278 : decode cX8_share 278 = .ok (.iadd, 1) := by decide +kernel
theorem dX8_share_279 : decode cX8_share 279 = .ok (.istore 11, 2) := by decide +kernel
theorem dX8_share_281 : decode cX8_share 281 = .ok (.iinc 12 1, 3) := by decide +kernel
theorem dX8_share_284 : decode cX8_share 284 = .ok (.goto (-65), 3) := by decide +kernel
theorem dX8_share_287 : decode cX8_share 287 = .ok (.iload 11, 2) := by decide +kernel
theorem dX8_share_289 : decode cX8_share 289 = .ok (.iload 6, 2) := by decide +kernel
theorem dX8_share_291 : decode cX8_share 291 = .ok (.if_icmp .ge 14, 3) := by decide +kernel
theorem dX8_share_294 : decode cX8_share 294 = .ok (.aload_n 0, 1) := by decide +kernel
theorem dX8_share_295 : decode cX8_share 295 = .ok (.getfield 47, 3) := by decide +kernel
theorem dX8_share_298 : decode cX8_share 298 = .ok (.iload 8, 2) := by decide +kernel
theorem dX8_share_300 : decode cX8_share 300 = .ok (.dup2, 1) := by decide +kernel
theorem dX8_share_301 : decode cX8_share 301 = .ok (.iaload, 1) := by decide +kernel
theorem dX8_share_302 : decode cX8_share 302 = .ok (.iconst 1, 1) := by decide +kernel
theorem dX8_share_303 : decode cX8_share 303 = .ok (.iadd, 1) := by decide +kernel
theorem dX8_share_304 : decode cX8_share 304 = .ok (.iastore, 1) := by decide +kernel
theorem dX8_share_305 : decode cX8_share 305 = .ok (.iinc 7 1, 3) := by decide +kernel
theorem dX8_share_308 : decode cX8_share 308 = .ok (.goto (-124), 3) := by decide +kernel
theorem dX8_share_311 : decode cX8_share 311 = .ok (.aload_n 0, 1) := by decide +kernel
theorem dX8_share_312 : decode cX8_share 312 = .ok (.getfield 87, 3) := by decide +kernel
theorem dX8_share_315 : decode cX8_share 315 = .ok (.iload_n 1, 1) := by decide +kernel
theorem dX8_share_316 : decode cX8_share 316 = .ok (.iaload, 1) := by decide +kernel
theorem dX8_share_317 : decode cX8_share 317 = .ok (.ireturn, 1) := by decide +kernel
set_option maxRecDepth 20000 in
theorem ggX8_keep_X8_in : GoodIn wsX8_keep wsX8_in := goodIn_r _ [5] (by decide +kernel) (by decide +kernel)
set_option maxRecDepth 20000 in
theorem gX8_keep_X8_in : GoodIn wsX8_keep (va_wsS RX8 133 yX8_in wsX8_in) := goodIn_app (goodIn_of _ (by decide +kernel)) ggX8_keep_X8_in
theorem dX8_keep_0 : decode cX8_keep 0 = .ok (.iload_n 1, 1) := by decide +kernel
theorem dX8_keep_1 : decode cX8_keep 1 = .ok (.iconst 0, 1) := by decide +kernel
theorem dX8_keep_2 : decode cX8_keep 2 = .ok (.bipush 50, 2) := by decide +kernel
theorem dX8_keep_4 : decode cX8_keep 4 = .ok (.invokestatic 133, 3) := by decide +kernel
theorem dX8_keep_7 : decode cX8_keep 7 = .ok (.ifCond .ne 5, 3) := by decide +kernel
theorem dX8_keep_10 : decode cX8_keep 10 = .ok (.iconst 0, 1) := by decide +kernel
theorem dX8_keep_11 : decode cX8_keep 11 = .ok (.ireturn, 1) := by decide +kernel
theorem dX8_keep_12 : decode cX8_keep 12 = .ok (.aload_n 0, 1) := by decide +kernel
theorem dX8_keep_13 : decode cX8_keep 13 = .ok (.iload_n 1, 1) := by decide +kernel
theorem dX8_keep_14 : decode cX8_keep 14 = .ok (.putfield 13, 3) := by decide +kernel
theorem dX8_keep_17 : decode cX8_keep 17 = .ok (.iconst 1, 1) := by decide +kernel
theorem dX8_keep_18 : decode cX8_keep 18 = .ok (.ireturn, 1) := by decide +kernel
set_option maxRecDepth 20000 in
theorem ggX8_promised_X8_lotIn : GoodIn wsX8_promised wsX8_lotIn := goodIn_r _ [7, 8, 15, 16, 17, 18, 19, 20, 21, 22, 23, 24, 25, 26, 27, 28, 29, 30, 31, 32, 33, 34, 35, 36, 37, 38, 39, 40, 41, 42, 43, 44, 45, 46, 47, 48, 49, 50, 51, 52, 53, 54, 55, 56, 57, 58, 59, 60, 61, 62, 63, 64, 65, 66, 67, 68] (by decide +kernel) (by decide +kernel)
set_option maxRecDepth 20000 in
theorem gX8_promised_X8_lotIn : GoodIn wsX8_promised (wsV RX8 161 RX8 yX8_lotIn wsX8_lotIn) := goodIn_app (goodIn_of _ (by decide +kernel)) ggX8_promised_X8_lotIn
set_option maxRecDepth 20000 in
theorem ggX8_promised_X8_weight : GoodIn wsX8_promised wsX8_weight := goodIn_r _ [12, 13, 14, 15, 16, 17, 18, 19, 20, 21, 22, 23, 24, 25, 26, 27, 28, 29, 30, 31, 32, 33, 34, 35, 36, 37, 38, 39, 40, 41, 42, 43, 44, 45, 46, 47, 48, 49, 50, 51, 52, 53, 54, 55, 56, 57, 58, 59, 60, 61, 62, 63, 64, 65, 66, 67, 68] (by decide +kernel) (by decide +kernel)
set_option maxRecDepth 20000 in
theorem gX8_promised_X8_weight : GoodIn wsX8_promised (wsV RX8 182 RX8 yX8_weight wsX8_weight) := goodIn_app (goodIn_of _ (by decide +kernel)) ggX8_promised_X8_weight
theorem dX8_promised_0 : decode cX8_promised 0 = .ok (.lconst 0, 1) := by decide +kernel
theorem dX8_promised_1 : decode cX8_promised 1 = .ok (.lstore_n 2, 1) := by decide +kernel
theorem dX8_promised_2 : decode cX8_promised 2 = .ok (.iconst 0, 1) := by decide +kernel
theorem dX8_promised_3 : decode cX8_promised 3 = .ok (.istore 4, 2) := by decide +kernel
theorem dX8_promised_5 : decode cX8_promised 5 = .ok (.iload 4, 2) := by decide +kernel
theorem dX8_promised_7 : decode cX8_promised 7 = .ok (.aload_n 0, 1) := by decide +kernel
theorem dX8_promised_8 : decode cX8_promised 8 = .ok (.getfield 69, 3) := by decide +kernel
theorem dX8_promised_11 : decode cX8_promised 11 = .ok (.iload_n 1, 1) := by decide +kernel
theorem dX8_promised_12 : decode cX8_promised 12 = .ok (.iaload, 1) := by decide +kernel
theorem dX8_promised_13 : decode cX8_promised 13 = .ok (.if_icmp .ge 23, 3) := by decide +kernel
theorem dX8_promised_16 : decode cX8_promised 16 = .ok (.lload_n 2, 1) := by decide +kernel
theorem dX8_promised_17 : decode cX8_promised 17 = .ok (.aload_n 0, 1) := by decide +kernel
theorem dX8_promised_18 : decode cX8_promised 18 = .ok (.aload_n 0, 1) := by decide +kernel
theorem dX8_promised_19 : decode cX8_promised 19 = .ok (.iload_n 1, 1) := by decide +kernel
theorem dX8_promised_20 : decode cX8_promised 20 = .ok (.iload 4, 2) := by decide +kernel
theorem dX8_promised_22 : decode cX8_promised 22 = .ok (.invokevirtual 161, 3) := by decide +kernel
theorem dX8_promised_25 : decode cX8_promised 25 = .ok (.invokevirtual 182, 3) := by decide +kernel
theorem dX8_promised_28 : decode cX8_promised 28 = .ok (.ladd, 1) := by decide +kernel
theorem dX8_promised_29 : decode cX8_promised 29 = .ok (.lstore_n 2, 1) := by decide +kernel
theorem dX8_promised_30 : decode cX8_promised 30 = .ok (.iinc 4 1, 3) := by decide +kernel
theorem dX8_promised_33 : decode cX8_promised 33 = .ok (.goto (-28), 3) := by decide +kernel
theorem dX8_promised_36 : decode cX8_promised 36 = .ok (.lload_n 2, 1) := by decide +kernel
theorem dX8_promised_37 : decode cX8_promised 37 = .ok (.ldc2_w 186, 3) := by decide +kernel
theorem dX8_promised_40 : decode cX8_promised 40 = .ok (.ldiv, 1) := by decide +kernel
theorem dX8_promised_41 : decode cX8_promised 41 = .ok (.lreturn, 1) := by decide +kernel
set_option maxRecDepth 20000 in
theorem ggX8_sourOf_X8_lotIn : GoodIn wsX8_sourOf wsX8_lotIn := goodIn_r _ [8, 9, 14, 15, 16, 17, 18, 19, 20, 21, 22, 23, 24, 25, 26, 27, 28, 29, 30, 31, 32, 33, 34, 35, 36, 37, 38, 39, 40, 41, 42, 43, 44, 45, 46, 47, 48, 49, 50, 51, 52, 53, 54, 55, 56, 57, 58, 59, 60, 61, 62, 63, 64, 65, 66, 67] (by decide +kernel) (by decide +kernel)
set_option maxRecDepth 20000 in
theorem gX8_sourOf_X8_lotIn : GoodIn wsX8_sourOf (wsV RX8 161 RX8 yX8_lotIn wsX8_lotIn) := goodIn_app (goodIn_of _ (by decide +kernel)) ggX8_sourOf_X8_lotIn
set_option maxRecDepth 20000 in
theorem ggX8_sourOf_X8_sumOf : GoodIn wsX8_sourOf wsX8_sumOf := goodIn_r _ [13, 1, 2, 4, 5, 6, 7, 8, 9, 14, 15, 16, 17, 18, 19, 20, 21, 22, 23, 24, 25, 26, 27, 28, 29, 30, 31, 32, 33, 34, 35, 36, 37, 38, 39, 40, 41, 42, 43, 44, 45, 46, 47, 48, 49, 50, 51, 52, 53, 54, 55, 56, 57, 58, 59, 60, 61, 62, 63, 64, 65, 66, 67] (by decide +kernel) (by decide +kernel)
set_option maxRecDepth 20000 in
theorem gX8_sourOf_X8_sumOf : GoodIn wsX8_sourOf (wsV RX8 169 RX8 yX8_sumOf wsX8_sumOf) := goodIn_app (goodIn_of _ (by decide +kernel)) ggX8_sourOf_X8_sumOf
theorem dX8_sourOf_0 : decode cX8_sourOf 0 = .ok (.lconst 0, 1) := by decide +kernel
theorem dX8_sourOf_1 : decode cX8_sourOf 1 = .ok (.lstore_n 2, 1) := by decide +kernel
theorem dX8_sourOf_2 : decode cX8_sourOf 2 = .ok (.iconst 0, 1) := by decide +kernel
theorem dX8_sourOf_3 : decode cX8_sourOf 3 = .ok (.istore 4, 2) := by decide +kernel
theorem dX8_sourOf_5 : decode cX8_sourOf 5 = .ok (.iload 4, 2) := by decide +kernel
theorem dX8_sourOf_7 : decode cX8_sourOf 7 = .ok (.aload_n 0, 1) := by decide +kernel
theorem dX8_sourOf_8 : decode cX8_sourOf 8 = .ok (.getfield 69, 3) := by decide +kernel
theorem dX8_sourOf_11 : decode cX8_sourOf 11 = .ok (.iload_n 1, 1) := by decide +kernel
theorem dX8_sourOf_12 : decode cX8_sourOf 12 = .ok (.iaload, 1) := by decide +kernel
theorem dX8_sourOf_13 : decode cX8_sourOf 13 = .ok (.if_icmp .ge 39, 3) := by decide +kernel
theorem dX8_sourOf_16 : decode cX8_sourOf 16 = .ok (.lload_n 2, 1) := by decide +kernel
theorem dX8_sourOf_17 : decode cX8_sourOf 17 = .ok (.aload_n 0, 1) := by decide +kernel
theorem dX8_sourOf_18 : decode cX8_sourOf 18 = .ok (.getfield 38, 3) := by decide +kernel
theorem dX8_sourOf_21 : decode cX8_sourOf 21 = .ok (.aload_n 0, 1) := by decide +kernel
theorem dX8_sourOf_22 : decode cX8_sourOf 22 = .ok (.iload_n 1, 1) := by decide +kernel
theorem dX8_sourOf_23 : decode cX8_sourOf 23 = .ok (.iload 4, 2) := by decide +kernel
theorem dX8_sourOf_25 : decode cX8_sourOf 25 = .ok (.invokevirtual 161, 3) := by decide +kernel
theorem dX8_sourOf_28 : decode cX8_sourOf 28 = .ok (.iaload, 1) := by decide +kernel
theorem dX8_sourOf_29 : decode cX8_sourOf 29 = .ok (.i2l, 1) := by decide +kernel
theorem dX8_sourOf_30 : decode cX8_sourOf 30 = .ok (.aload_n 0, 1) := by decide +kernel
theorem dX8_sourOf_31 : decode cX8_sourOf 31 = .ok (.getfield 44, 3) := by decide +kernel
theorem dX8_sourOf_34 : decode cX8_sourOf 34 = .ok (.aload_n 0, 1) := by decide +kernel
theorem dX8_sourOf_35 : decode cX8_sourOf 35 = .ok (.iload_n 1, 1) := by decide +kernel
theorem dX8_sourOf_36 : decode cX8_sourOf 36 = .ok (.iload 4, 2) := by decide +kernel
theorem dX8_sourOf_38 : decode cX8_sourOf 38 = .ok (.invokevirtual 161, 3) := by decide +kernel
theorem dX8_sourOf_41 : decode cX8_sourOf 41 = .ok (.iaload, 1) := by decide +kernel
theorem dX8_sourOf_42 : decode cX8_sourOf 42 = .ok (.i2l, 1) := by decide +kernel
theorem dX8_sourOf_43 : decode cX8_sourOf 43 = .ok (.lmul, 1) := by decide +kernel
theorem dX8_sourOf_44 : decode cX8_sourOf 44 = .ok (.ladd, 1) := by decide +kernel
theorem dX8_sourOf_45 : decode cX8_sourOf 45 = .ok (.lstore_n 2, 1) := by decide +kernel
theorem dX8_sourOf_46 : decode cX8_sourOf 46 = .ok (.iinc 4 1, 3) := by decide +kernel
theorem dX8_sourOf_49 : decode cX8_sourOf 49 = .ok (.goto (-44), 3) := by decide +kernel
theorem dX8_sourOf_52 : decode cX8_sourOf 52 = .ok (.lload_n 2, 1) := by decide +kernel
theorem dX8_sourOf_53 : decode cX8_sourOf 53 = .ok (.aload_n 0, 1) := by decide +kernel
theorem dX8_sourOf_54 : decode cX8_sourOf 54 = .ok (.iload_n 1, 1) := by decide +kernel
theorem dX8_sourOf_55 : decode cX8_sourOf 55 = .ok (.invokevirtual 169, 3) := by decide +kernel
theorem dX8_sourOf_58 : decode cX8_sourOf 58 = .ok (.i2l, 1) := by decide +kernel
theorem dX8_sourOf_59 : decode cX8_sourOf 59 = .ok (.ldiv, 1) := by decide +kernel
theorem dX8_sourOf_60 : decode cX8_sourOf 60 = .ok (.lreturn, 1) := by decide +kernel
set_option maxRecDepth 20000 in
theorem ggX8_at_X8_isMill : GoodIn wsX8_at wsX8_isMill := goodIn_r _ [14, 15, 16, 13, 17] (by decide +kernel) (by decide +kernel)
set_option maxRecDepth 20000 in
theorem gX8_at_X8_isMill : GoodIn wsX8_at (wsV RX8 155 RX8 yX8_isMill wsX8_isMill) := goodIn_app (goodIn_of _ (by decide +kernel)) ggX8_at_X8_isMill
set_option maxRecDepth 20000 in
theorem ggX8_at_X8_promised : GoodIn wsX8_at wsX8_promised := goodIn_r _ [21, 4, 22, 23, 24, 25, 13, 26, 27, 28, 29, 30, 31, 32, 33, 43, 44, 45, 46, 47, 48, 49, 50, 51, 52, 53, 54, 55, 56, 57, 58, 59, 60, 61, 62, 63, 64, 65, 66, 67, 68, 69, 70, 71, 72, 73, 74, 75, 76, 77, 78, 79, 80, 81, 82, 83, 84, 85, 86, 87, 88, 89, 90, 91, 92, 93, 94, 95, 96] (by decide +kernel) (by decide +kernel)
set_option maxRecDepth 20000 in
theorem gX8_at_X8_promised : GoodIn wsX8_at (wsV RX8 188 RX8 yX8_promised wsX8_promised) := goodIn_app (goodIn_of _ (by decide +kernel)) ggX8_at_X8_promised
set_option maxRecDepth 20000 in
theorem ggX8_at_X8_sourOf : GoodIn wsX8_at wsX8_sourOf := goodIn_r _ [37, 4, 32, 38, 23, 24, 25, 13, 26, 27, 39, 40, 41, 42, 43, 44, 45, 46, 47, 48, 49, 50, 51, 52, 53, 54, 55, 56, 57, 58, 59, 60, 61, 62, 63, 64, 65, 66, 67, 68, 69, 70, 71, 72, 73, 74, 75, 76, 77, 78, 79, 80, 81, 82, 83, 84, 85, 86, 87, 88, 89, 90, 91, 92, 93, 94, 95, 96] (by decide +kernel) (by decide +kernel)
set_option maxRecDepth 20000 in
theorem gX8_at_X8_sourOf : GoodIn wsX8_at (wsV RX8 191 RX8 yX8_sourOf wsX8_sourOf) := goodIn_app (goodIn_of _ (by decide +kernel)) ggX8_at_X8_sourOf
theorem dX8_at_0 : decode cX8_at 0 = .ok (.aload_n 0, 1) := by decide +kernel
theorem dX8_at_1 : decode cX8_at 1 = .ok (.iload_n 1, 1) := by decide +kernel
theorem dX8_at_2 : decode cX8_at 2 = .ok (.invokevirtual 155, 3) := by decide +kernel
theorem dX8_at_5 : decode cX8_at 5 = .ok (.ifCond .ne 5, 3) := by decide +kernel
theorem dX8_at_8 : decode cX8_at 8 = .ok (.iconst (-1), 1) := by decide +kernel
theorem dX8_at_9 : decode cX8_at 9 = .ok (.ireturn, 1) := by decide +kernel
theorem dX8_at_10 : decode cX8_at 10 = .ok (.iload_n 2, 1) := by decide +kernel
theorem dX8_at_11 : decode cX8_at 11 = .ok (.tableswitch 202 0 10 #[57, 64, 71, 78, 85, 100, 115, 122, 142, 162, 182], 57) := by decide +kernel
theorem dX8_at_68 : decode cX8_at 68 = .ok (.aload_n 0, 1) := by decide +kernel
theorem dX8_at_69 : decode cX8_at 69 = .ok (.getfield 60, 3) := by decide +kernel
theorem dX8_at_72 : decode cX8_at 72 = .ok (.iload_n 1, 1) := by decide +kernel
theorem dX8_at_73 : decode cX8_at 73 = .ok (.iaload, 1) := by decide +kernel
theorem dX8_at_74 : decode cX8_at 74 = .ok (.ireturn, 1) := by decide +kernel
theorem dX8_at_75 : decode cX8_at 75 = .ok (.aload_n 0, 1) := by decide +kernel
theorem dX8_at_76 : decode cX8_at 76 = .ok (.getfield 63, 3) := by decide +kernel
theorem dX8_at_79 : decode cX8_at 79 = .ok (.iload_n 1, 1) := by decide +kernel
theorem dX8_at_80 : decode cX8_at 80 = .ok (.iaload, 1) := by decide +kernel
theorem dX8_at_81 : decode cX8_at 81 = .ok (.ireturn, 1) := by decide +kernel
theorem dX8_at_82 : decode cX8_at 82 = .ok (.aload_n 0, 1) := by decide +kernel
theorem dX8_at_83 : decode cX8_at 83 = .ok (.getfield 66, 3) := by decide +kernel
theorem dX8_at_86 : decode cX8_at 86 = .ok (.iload_n 1, 1) := by decide +kernel
theorem dX8_at_87 : decode cX8_at 87 = .ok (.iaload, 1) := by decide +kernel
theorem dX8_at_88 : decode cX8_at 88 = .ok (.ireturn, 1) := by decide +kernel
theorem dX8_at_89 : decode cX8_at 89 = .ok (.aload_n 0, 1) := by decide +kernel
theorem dX8_at_90 : decode cX8_at 90 = .ok (.getfield 69, 3) := by decide +kernel
theorem dX8_at_93 : decode cX8_at 93 = .ok (.iload_n 1, 1) := by decide +kernel
theorem dX8_at_94 : decode cX8_at 94 = .ok (.iaload, 1) := by decide +kernel
theorem dX8_at_95 : decode cX8_at 95 = .ok (.ireturn, 1) := by decide +kernel
theorem dX8_at_96 : decode cX8_at 96 = .ok (.aload_n 0, 1) := by decide +kernel
theorem dX8_at_97 : decode cX8_at 97 = .ok (.getfield 75, 3) := by decide +kernel
theorem dX8_at_100 : decode cX8_at 100 = .ok (.iload_n 1, 1) := by decide +kernel
theorem dX8_at_101 : decode cX8_at 101 = .ok (.baload, 1) := by decide +kernel
theorem dX8_at_102 : decode cX8_at 102 = .ok (.ifCond .eq 7, 3) := by decide +kernel
theorem dX8_at_105 : decode cX8_at 105 = .ok (.iconst 1, 1) := by decide +kernel
theorem dX8_at_106 : decode cX8_at 106 = .ok (.goto 4, 3) := by decide +kernel
theorem dX8_at_109 : decode cX8_at 109 = .ok (.iconst 0, 1) := by decide +kernel
theorem dX8_at_110 : decode cX8_at 110 = .ok (.ireturn, 1) := by decide +kernel
theorem dX8_at_111 : decode cX8_at 111 = .ok (.aload_n 0, 1) := by decide +kernel
theorem dX8_at_112 : decode cX8_at 112 = .ok (.getfield 78, 3) := by decide +kernel
theorem dX8_at_115 : decode cX8_at 115 = .ok (.iload_n 1, 1) := by decide +kernel
theorem dX8_at_116 : decode cX8_at 116 = .ok (.baload, 1) := by decide +kernel
theorem dX8_at_117 : decode cX8_at 117 = .ok (.ifCond .eq 7, 3) := by decide +kernel
theorem dX8_at_120 : decode cX8_at 120 = .ok (.iconst 1, 1) := by decide +kernel
theorem dX8_at_121 : decode cX8_at 121 = .ok (.goto 4, 3) := by decide +kernel
theorem dX8_at_124 : decode cX8_at 124 = .ok (.iconst 0, 1) := by decide +kernel
theorem dX8_at_125 : decode cX8_at 125 = .ok (.ireturn, 1) := by decide +kernel
theorem dX8_at_126 : decode cX8_at 126 = .ok (.aload_n 0, 1) := by decide +kernel
theorem dX8_at_127 : decode cX8_at 127 = .ok (.getfield 81, 3) := by decide +kernel
theorem dX8_at_130 : decode cX8_at 130 = .ok (.iload_n 1, 1) := by decide +kernel
theorem dX8_at_131 : decode cX8_at 131 = .ok (.iaload, 1) := by decide +kernel
theorem dX8_at_132 : decode cX8_at 132 = .ok (.ireturn, 1) := by decide +kernel
theorem dX8_at_133 : decode cX8_at 133 = .ok (.aload_n 0, 1) := by decide +kernel
theorem dX8_at_134 : decode cX8_at 134 = .ok (.getfield 75, 3) := by decide +kernel
theorem dX8_at_137 : decode cX8_at 137 = .ok (.iload_n 1, 1) := by decide +kernel
theorem dX8_at_138 : decode cX8_at 138 = .ok (.baload, 1) := by decide +kernel
theorem dX8_at_139 : decode cX8_at 139 = .ok (.ifCond .eq 12, 3) := by decide +kernel
theorem dX8_at_142 : decode cX8_at 142 = .ok (.aload_n 0, 1) := by decide +kernel
theorem dX8_at_143 : decode cX8_at 143 = .ok (.iload_n 1, 1) := by decide +kernel
theorem dX8_at_144 : decode cX8_at 144 = .ok (.invokevirtual 188, 3) := by decide +kernel
theorem dX8_at_147 : decode cX8_at 147 = .ok (.l2i, 1) := by decide +kernel
theorem dX8_at_148 : decode cX8_at 148 = .ok (.goto 4, 3) := by decide +kernel
theorem dX8_at_151 : decode cX8_at 151 = .ok (.iconst 0, 1) := by decide +kernel
theorem dX8_at_152 : decode cX8_at 152 = .ok (.ireturn, 1) := by decide +kernel
theorem dX8_at_153 : decode cX8_at 153 = .ok (.aload_n 0, 1) := by decide +kernel
theorem dX8_at_154 : decode cX8_at 154 = .ok (.getfield 75, 3) := by decide +kernel
theorem dX8_at_157 : decode cX8_at 157 = .ok (.iload_n 1, 1) := by decide +kernel
theorem dX8_at_158 : decode cX8_at 158 = .ok (.baload, 1) := by decide +kernel
theorem dX8_at_159 : decode cX8_at 159 = .ok (.ifCond .eq 12, 3) := by decide +kernel
theorem dX8_at_162 : decode cX8_at 162 = .ok (.aload_n 0, 1) := by decide +kernel
theorem dX8_at_163 : decode cX8_at 163 = .ok (.getfield 84, 3) := by decide +kernel
theorem dX8_at_166 : decode cX8_at 166 = .ok (.iload_n 1, 1) := by decide +kernel
theorem dX8_at_167 : decode cX8_at 167 = .ok (.iaload, 1) := by decide +kernel
theorem dX8_at_168 : decode cX8_at 168 = .ok (.goto 4, 3) := by decide +kernel
theorem dX8_at_171 : decode cX8_at 171 = .ok (.iconst (-1), 1) := by decide +kernel
theorem dX8_at_172 : decode cX8_at 172 = .ok (.ireturn, 1) := by decide +kernel
theorem dX8_at_173 : decode cX8_at 173 = .ok (.aload_n 0, 1) := by decide +kernel
theorem dX8_at_174 : decode cX8_at 174 = .ok (.getfield 75, 3) := by decide +kernel
theorem dX8_at_177 : decode cX8_at 177 = .ok (.iload_n 1, 1) := by decide +kernel
theorem dX8_at_178 : decode cX8_at 178 = .ok (.baload, 1) := by decide +kernel
theorem dX8_at_179 : decode cX8_at 179 = .ok (.ifCond .eq 12, 3) := by decide +kernel
theorem dX8_at_182 : decode cX8_at 182 = .ok (.aload_n 0, 1) := by decide +kernel
theorem dX8_at_183 : decode cX8_at 183 = .ok (.iload_n 1, 1) := by decide +kernel
theorem dX8_at_184 : decode cX8_at 184 = .ok (.invokevirtual 191, 3) := by decide +kernel
theorem dX8_at_187 : decode cX8_at 187 = .ok (.l2i, 1) := by decide +kernel
theorem dX8_at_188 : decode cX8_at 188 = .ok (.goto 4, 3) := by decide +kernel
theorem dX8_at_191 : decode cX8_at 191 = .ok (.iconst 0, 1) := by decide +kernel
theorem dX8_at_192 : decode cX8_at 192 = .ok (.ireturn, 1) := by decide +kernel
theorem dX8_at_193 : decode cX8_at 193 = .ok (.aload_n 0, 1) := by decide +kernel
theorem dX8_at_194 : decode cX8_at 194 = .ok (.getfield 75, 3) := by decide +kernel
theorem dX8_at_197 : decode cX8_at 197 = .ok (.iload_n 1, 1) := by decide +kernel
theorem dX8_at_198 : decode cX8_at 198 = .ok (.baload, 1) := by decide +kernel
theorem dX8_at_199 : decode cX8_at 199 = .ok (.ifCond .eq 12, 3) := by decide +kernel
theorem dX8_at_202 : decode cX8_at 202 = .ok (.aload_n 0, 1) := by decide +kernel
theorem dX8_at_203 : decode cX8_at 203 = .ok (.getfield 87, 3) := by decide +kernel
theorem dX8_at_206 : decode cX8_at 206 = .ok (.iload_n 1, 1) := by decide +kernel
theorem dX8_at_207 : decode cX8_at 207 = .ok (.iaload, 1) := by decide +kernel
theorem dX8_at_208 : decode cX8_at 208 = .ok (.goto 4, 3) := by decide +kernel
theorem dX8_at_211 : decode cX8_at 211 = .ok (.iconst (-1), 1) := by decide +kernel
theorem dX8_at_212 : decode cX8_at 212 = .ok (.ireturn, 1) := by decide +kernel
theorem dX8_at_213 : decode cX8_at 213 = .ok (.iconst (-1), 1) := by decide +kernel
theorem dX8_at_214 : decode cX8_at 214 = .ok (.ireturn, 1) := by decide +kernel
set_option maxRecDepth 20000 in
theorem ggX8_vat_X8_in : GoodIn wsX8_vat wsX8_in := goodIn_r _ [9] (by decide +kernel) (by decide +kernel)
set_option maxRecDepth 20000 in
theorem gX8_vat_X8_in : GoodIn wsX8_vat (va_wsS RX8 133 yX8_in wsX8_in) := goodIn_app (goodIn_of _ (by decide +kernel)) ggX8_vat_X8_in
theorem dX8_vat_0 : decode cX8_vat 0 = .ok (.iload_n 1, 1) := by decide +kernel
theorem dX8_vat_1 : decode cX8_vat 1 = .ok (.iconst 0, 1) := by decide +kernel
theorem dX8_vat_2 : decode cX8_vat 2 = .ok (.iconst 2, 1) := by decide +kernel
theorem dX8_vat_3 : decode cX8_vat 3 = .ok (.invokestatic 133, 3) := by decide +kernel
theorem dX8_vat_6 : decode cX8_vat 6 = .ok (.ifCond .eq 22, 3) := by decide +kernel
theorem dX8_vat_9 : decode cX8_vat 9 = .ok (.iload_n 3, 1) := by decide +kernel
theorem dX8_vat_10 : decode cX8_vat 10 = .ok (.iconst 1, 1) := by decide +kernel
theorem dX8_vat_11 : decode cX8_vat 11 = .ok (.ldc 194, 2) := by decide +kernel
theorem dX8_vat_13 : decode cX8_vat 13 = .ok (.invokestatic 133, 3) := by decide +kernel
theorem dX8_vat_16 : decode cX8_vat 16 = .ok (.ifCond .eq 12, 3) := by decide +kernel
theorem dX8_vat_19 : decode cX8_vat 19 = .ok (.aload_n 0, 1) := by decide +kernel
theorem dX8_vat_20 : decode cX8_vat 20 = .ok (.getfield 137, 3) := by decide +kernel
theorem dX8_vat_23 : decode cX8_vat 23 = .ok (.bipush 12, 2) := by decide +kernel
theorem dX8_vat_25 : decode cX8_vat 25 = .ok (.if_icmp .ne 5, 3) := by decide +kernel
theorem dX8_vat_28 : decode cX8_vat 28 = .ok (.iconst (-1), 1) := by decide +kernel
theorem dX8_vat_29 : decode cX8_vat 29 = .ok (.ireturn, 1) := by decide +kernel
theorem dX8_vat_30 : decode cX8_vat 30 = .ok (.aload_n 0, 1) := by decide +kernel
theorem dX8_vat_31 : decode cX8_vat 31 = .ok (.getfield 90, 3) := by decide +kernel
theorem dX8_vat_34 : decode cX8_vat 34 = .ok (.aload_n 0, 1) := by decide +kernel
theorem dX8_vat_35 : decode cX8_vat 35 = .ok (.getfield 137, 3) := by decide +kernel
theorem dX8_vat_38 : decode cX8_vat 38 = .ok (.iload_n 1, 1) := by decide +kernel
theorem dX8_vat_39 : decode cX8_vat 39 = .ok (.iastore, 1) := by decide +kernel
theorem dX8_vat_40 : decode cX8_vat 40 = .ok (.aload_n 0, 1) := by decide +kernel
theorem dX8_vat_41 : decode cX8_vat 41 = .ok (.getfield 93, 3) := by decide +kernel
theorem dX8_vat_44 : decode cX8_vat 44 = .ok (.aload_n 0, 1) := by decide +kernel
theorem dX8_vat_45 : decode cX8_vat 45 = .ok (.getfield 137, 3) := by decide +kernel
theorem dX8_vat_48 : decode cX8_vat 48 = .ok (.iload_n 2, 1) := by decide +kernel
theorem dX8_vat_49 : decode cX8_vat 49 = .ok (.bastore, 1) := by decide +kernel
theorem dX8_vat_50 : decode cX8_vat 50 = .ok (.aload_n 0, 1) := by decide +kernel
theorem dX8_vat_51 : decode cX8_vat 51 = .ok (.getfield 96, 3) := by decide +kernel
theorem dX8_vat_54 : decode cX8_vat 54 = .ok (.aload_n 0, 1) := by decide +kernel
theorem dX8_vat_55 : decode cX8_vat 55 = .ok (.getfield 137, 3) := by decide +kernel
theorem dX8_vat_58 : decode cX8_vat 58 = .ok (.iload_n 3, 1) := by decide +kernel
theorem dX8_vat_59 : decode cX8_vat 59 = .ok (.iastore, 1) := by decide +kernel
theorem dX8_vat_60 : decode cX8_vat 60 = .ok (.aload_n 0, 1) := by decide +kernel
theorem dX8_vat_61 : decode cX8_vat 61 = .ok (.dup, 1) := by decide +kernel
theorem dX8_vat_62 : decode cX8_vat 62 = .ok (.getfield 137, 3) := by decide +kernel
theorem dX8_vat_65 : decode cX8_vat 65 = .ok (.iconst 1, 1) := by decide +kernel
theorem dX8_vat_66 : decode cX8_vat 66 = .ok (.iadd, 1) := by decide +kernel
theorem dX8_vat_67 : decode cX8_vat 67 = .ok (.putfield 137, 3) := by decide +kernel
theorem dX8_vat_70 : decode cX8_vat 70 = .ok (.aload_n 0, 1) := by decide +kernel
theorem dX8_vat_71 : decode cX8_vat 71 = .ok (.getfield 137, 3) := by decide +kernel
theorem dX8_vat_74 : decode cX8_vat 74 = .ok (.iconst 1, 1) := by decide +kernel
theorem dX8_vat_75 : decode cX8_vat 75 = .ok (.isub, 1) := by decide +kernel
theorem dX8_vat_76 : decode cX8_vat 76 = .ok (.ireturn, 1) := by decide +kernel
set_option maxRecDepth 20000 in
theorem ggX8_mayPour_X8_lotIn : GoodIn wsX8_mayPour wsX8_lotIn := goodIn_r _ [17, 18, 29, 30, 31, 32, 33, 34, 35, 36, 37, 38, 39, 40, 41, 42, 43, 44, 45, 46, 47, 48, 49, 50, 51, 52, 53, 54, 55, 56, 57, 58, 59, 60, 61, 62, 63, 64, 65, 66, 67, 68, 69, 70, 71, 72, 73, 74, 75, 76, 77, 78, 79, 80, 81, 82] (by decide +kernel) (by decide +kernel)
set_option maxRecDepth 20000 in
theorem gX8_mayPour_X8_lotIn : GoodIn wsX8_mayPour (wsV RX8 161 RX8 yX8_lotIn wsX8_lotIn) := goodIn_app (goodIn_of _ (by decide +kernel)) ggX8_mayPour_X8_lotIn
set_option maxRecDepth 20000 in
theorem ggX8_mayPour_X8_sourOf : GoodIn wsX8_mayPour wsX8_sourOf := goodIn_r _ [22, 7, 23, 24, 13, 14, 15, 16, 17, 18, 25, 26, 27, 28, 29, 30, 31, 32, 33, 34, 35, 36, 37, 38, 39, 40, 41, 42, 43, 44, 45, 46, 47, 48, 49, 50, 51, 52, 53, 54, 55, 56, 57, 58, 59, 60, 61, 62, 63, 64, 65, 66, 67, 68, 69, 70, 71, 72, 73, 74, 75, 76, 77, 78, 79, 80, 81, 82] (by decide +kernel) (by decide +kernel)
set_option maxRecDepth 20000 in
theorem gX8_mayPour_X8_sourOf : GoodIn wsX8_mayPour (wsV RX8 191 RX8 yX8_sourOf wsX8_sourOf) := goodIn_app (goodIn_of _ (by decide +kernel)) ggX8_mayPour_X8_sourOf
theorem dX8_mayPour_0 : decode cX8_mayPour 0 = .ok (.aload_n 0, 1) := by decide +kernel
theorem dX8_mayPour_1 : decode cX8_mayPour 1 = .ok (.getfield 26, 3) := by decide +kernel
theorem dX8_mayPour_4 : decode cX8_mayPour 4 = .ok (.aload_n 0, 1) := by decide +kernel
theorem dX8_mayPour_5 : decode cX8_mayPour 5 = .ok (.iload_n 1, 1) := by decide +kernel
theorem dX8_mayPour_6 : decode cX8_mayPour 6 = .ok (.iconst 0, 1) := by decide +kernel
theorem dX8_mayPour_7 : decode cX8_mayPour 7 = .ok (.invokevirtual 161, 3) := by decide +kernel
theorem dX8_mayPour_10 : decode cX8_mayPour 10 = .ok (.iaload, 1) := by decide +kernel
theorem dX8_mayPour_11 : decode cX8_mayPour 11 = .ok (.iconst 2, 1) := by decide +kernel
theorem dX8_mayPour_12 : decode cX8_mayPour 12 = .ok (.if_icmp .ne 7, 3) := by decide +kernel
theorem dX8_mayPour_15 : decode cX8_mayPour 15 = .ok (.iconst 1, 1) := by decide +kernel
theorem dX8_mayPour_16 : decode cX8_mayPour 16 = .ok (.goto 4, 3) := by decide +kernel
theorem dX8_mayPour_19 : decode cX8_mayPour 19 = .ok (.iconst 0, 1) := by decide +kernel
theorem dX8_mayPour_20 : decode cX8_mayPour 20 = .ok (.istore_n 3, 1) := by decide +kernel
theorem dX8_mayPour_21 : decode cX8_mayPour 21 = .ok (.iload_n 3, 1) := by decide +kernel
theorem dX8_mayPour_22 : decode cX8_mayPour 22 = .ok (.aload_n 0, 1) := by decide +kernel
theorem dX8_mayPour_23 : decode cX8_mayPour 23 = .ok (.getfield 93, 3) := by decide +kernel
theorem dX8_mayPour_26 : decode cX8_mayPour 26 = .ok (.iload_n 2, 1) := by decide +kernel
theorem dX8_mayPour_27 : decode cX8_mayPour 27 = .ok (.baload, 1) := by decide +kernel
theorem dX8_mayPour_28 : decode cX8_mayPour 28 = .ok (.if_icmp .ne 34, 3) := by decide +kernel
theorem dX8_mayPour_31 : decode cX8_mayPour 31 = .ok (.aload_n 0, 1) := by decide +kernel
theorem dX8_mayPour_32 : decode cX8_mayPour 32 = .ok (.getfield 99, 3) := by decide +kernel
theorem dX8_mayPour_35 : decode cX8_mayPour 35 = .ok (.iload_n 2, 1) := by decide +kernel
theorem dX8_mayPour_36 : decode cX8_mayPour 36 = .ok (.iaload, 1) := by decide +kernel
theorem dX8_mayPour_37 : decode cX8_mayPour 37 = .ok (.aload_n 0, 1) := by decide +kernel
theorem dX8_mayPour_38 : decode cX8_mayPour 38 = .ok (.getfield 84, 3) := by decide +kernel
theorem dX8_mayPour_41 : decode cX8_mayPour 41 = .ok (.iload_n 1, 1) := by decide +kernel
theorem dX8_mayPour_42 : decode cX8_mayPour 42 = .ok (.iaload, 1) := by decide +kernel
theorem dX8_mayPour_43 : decode cX8_mayPour 43 = .ok (.iadd, 1) := by decide +kernel
theorem dX8_mayPour_44 : decode cX8_mayPour 44 = .ok (.aload_n 0, 1) := by decide +kernel
theorem dX8_mayPour_45 : decode cX8_mayPour 45 = .ok (.getfield 96, 3) := by decide +kernel
theorem dX8_mayPour_48 : decode cX8_mayPour 48 = .ok (.iload_n 2, 1) := by decide +kernel
theorem dX8_mayPour_49 : decode cX8_mayPour 49 = .ok (.iaload, 1) := by decide +kernel
theorem dX8_mayPour_50 : decode cX8_mayPour 50 = .ok (.if_icmp .gt 12, 3) := by decide +kernel
theorem dX8_mayPour_53 : decode cX8_mayPour 53 = .ok (.aload_n 0, 1) := by decide +kernel
theorem dX8_mayPour_54 : decode cX8_mayPour 54 = .ok (.getfield 105, 3) := by decide +kernel
theorem dX8_mayPour_57 : decode cX8_mayPour 57 = .ok (.iload_n 2, 1) := by decide +kernel
theorem dX8_mayPour_58 : decode cX8_mayPour 58 = .ok (.baload, 1) := by decide +kernel
theorem dX8_mayPour_59 : decode cX8_mayPour 59 = .ok (.ifCond .eq 5, 3) := by decide +kernel
theorem dX8_mayPour_62 : decode cX8_mayPour 62 = .ok (.iconst 0, 1) := by decide +kernel
theorem dX8_mayPour_63 : decode cX8_mayPour 63 = .ok (.ireturn, 1) := by decide +kernel
theorem dX8_mayPour_64 : decode cX8_mayPour 64 = .ok (.iconst 0, 1) := by decide +kernel
theorem dX8_mayPour_65 : decode cX8_mayPour 65 = .ok (.istore 4, 2) := by decide +kernel
theorem dX8_mayPour_67 : decode cX8_mayPour 67 = .ok (.iload 4, 2) := by decide +kernel
theorem dX8_mayPour_69 : decode cX8_mayPour 69 = .ok (.aload_n 0, 1) := by decide +kernel
theorem dX8_mayPour_70 : decode cX8_mayPour 70 = .ok (.getfield 69, 3) := by decide +kernel
theorem dX8_mayPour_73 : decode cX8_mayPour 73 = .ok (.iload_n 1, 1) := by decide +kernel
theorem dX8_mayPour_74 : decode cX8_mayPour 74 = .ok (.iaload, 1) := by decide +kernel
theorem dX8_mayPour_75 : decode cX8_mayPour 75 = .ok (.if_icmp .ge 36, 3) := by decide +kernel
theorem dX8_mayPour_78 : decode cX8_mayPour 78 = .ok (.aload_n 0, 1) := by decide +kernel
theorem dX8_mayPour_79 : decode cX8_mayPour 79 = .ok (.getfield 90, 3) := by decide +kernel
theorem dX8_mayPour_82 : decode cX8_mayPour 82 = .ok (.iload_n 2, 1) := by decide +kernel
theorem dX8_mayPour_83 : decode cX8_mayPour 83 = .ok (.iaload, 1) := by decide +kernel
theorem dX8_mayPour_84 : decode cX8_mayPour 84 = .ok (.ifCond .ne 21, 3) := by decide +kernel
theorem dX8_mayPour_87 : decode cX8_mayPour 87 = .ok (.aload_n 0, 1) := by decide +kernel
theorem dX8_mayPour_88 : decode cX8_mayPour 88 = .ok (.getfield 26, 3) := by decide +kernel
theorem dX8_mayPour_91 : decode cX8_mayPour 91 = .ok (.aload_n 0, 1) := by decide +kernel
theorem dX8_mayPour_92 : decode cX8_mayPour 92 = .ok (.iload_n 1, 1) := by decide +kernel
theorem dX8_mayPour_93 : decode cX8_mayPour 93 = .ok (.iload 4, 2) := by decide +kernel
theorem dX8_mayPour_95 : decode cX8_mayPour 95 = .ok (.invokevirtual 161, 3) := by decide +kernel
theorem dX8_mayPour_98 : decode cX8_mayPour 98 = .ok (.iaload, 1) := by decide +kernel
theorem dX8_mayPour_99 : decode cX8_mayPour 99 = .ok (.iconst 3, 1) := by decide +kernel
theorem dX8_mayPour_100 : decode cX8_mayPour 100 = .ok (.if_icmp .ne 5, 3) := by decide +kernel
theorem dX8_mayPour_103 : decode cX8_mayPour 103 = .ok (.iconst 0, 1) := by decide +kernel
theorem dX8_mayPour_104 : decode cX8_mayPour 104 = .ok (.ireturn, 1) := by decide +kernel
theorem dX8_mayPour_105 : decode cX8_mayPour 105 = .ok (.iinc 4 1, 3) := by decide +kernel
theorem dX8_mayPour_108 : decode cX8_mayPour 108 = .ok (.goto (-41), 3) := by decide +kernel
theorem dX8_mayPour_111 : decode cX8_mayPour 111 = .ok (.aload_n 0, 1) := by decide +kernel
theorem dX8_mayPour_112 : decode cX8_mayPour 112 = .ok (.getfield 108, 3) := by decide +kernel
theorem dX8_mayPour_115 : decode cX8_mayPour 115 = .ok (.iload_n 2, 1) := by decide +kernel
theorem dX8_mayPour_116 : decode cX8_mayPour 116 = .ok (.laload, 1) := by decide +kernel
theorem dX8_mayPour_117 : decode cX8_mayPour 117 = .ok (.aload_n 0, 1) := by decide +kernel
theorem dX8_mayPour_118 : decode cX8_mayPour 118 = .ok (.getfield 84, 3) := by decide +kernel
theorem dX8_mayPour_121 : decode cX8_mayPour 121 = .ok (.iload_n 1, 1) := by decide +kernel
theorem dX8_mayPour_122 : decode cX8_mayPour 122 = .ok (.iaload, 1) := by decide +kernel
theorem dX8_mayPour_123 : decode cX8_mayPour 123 = .ok (.i2l, 1) := by decide +kernel
theorem dX8_mayPour_124 : decode cX8_mayPour 124 = .ok (.aload_n 0, 1) := by decide +kernel
theorem dX8_mayPour_125 : decode cX8_mayPour 125 = .ok (.iload_n 1, 1) := by decide +kernel
theorem dX8_mayPour_126 : decode cX8_mayPour 126 = .ok (.invokevirtual 191, 3) := by decide +kernel
theorem dX8_mayPour_129 : decode cX8_mayPour 129 = .ok (.lmul, 1) := by decide +kernel
theorem dX8_mayPour_130 : decode cX8_mayPour 130 = .ok (.ladd, 1) := by decide +kernel
theorem dX8_mayPour_131 : decode cX8_mayPour 131 = .ok (.lstore 4, 2) := by decide +kernel
theorem dX8_mayPour_133 : decode cX8_mayPour 133 = .ok (.aload_n 0, 1) := by decide +kernel
theorem dX8_mayPour_134 : decode cX8_mayPour 134 = .ok (.getfield 112, 3) := by decide +kernel
theorem dX8_mayPour_137 : decode cX8_mayPour 137 = .ok (.iload_n 2, 1) := by decide +kernel
theorem dX8_mayPour_138 : decode cX8_mayPour 138 = .ok (.laload, 1) := by decide +kernel
theorem dX8_mayPour_139 : decode cX8_mayPour 139 = .ok (.aload_n 0, 1) := by decide +kernel
theorem dX8_mayPour_140 : decode cX8_mayPour 140 = .ok (.getfield 84, 3) := by decide +kernel
theorem dX8_mayPour_143 : decode cX8_mayPour 143 = .ok (.iload_n 1, 1) := by decide +kernel
theorem dX8_mayPour_144 : decode cX8_mayPour 144 = .ok (.iaload, 1) := by decide +kernel
theorem dX8_mayPour_145 : decode cX8_mayPour 145 = .ok (.i2l, 1) := by decide +kernel
theorem dX8_mayPour_146 : decode cX8_mayPour 146 = .ok (.ladd, 1) := by decide +kernel
theorem dX8_mayPour_147 : decode cX8_mayPour 147 = .ok (.lstore 6, 2) := by decide +kernel
theorem dX8_mayPour_149 : decode cX8_mayPour 149 = .ok (.aload_n 0, 1) := by decide +kernel
theorem dX8_mayPour_150 : decode cX8_mayPour 150 = .ok (.getfield 90, 3) := by decide +kernel
theorem dX8_mayPour_153 : decode cX8_mayPour 153 = .ok (.iload_n 2, 1) := by decide +kernel
theorem dX8_mayPour_154 : decode cX8_mayPour 154 = .ok (.iaload, 1) := by decide +kernel
theorem dX8_mayPour_155 : decode cX8_mayPour 155 = .ok (.iconst 2, 1) := by decide +kernel
theorem dX8_mayPour_156 : decode cX8_mayPour 156 = .ok (.if_icmp .eq 30, 3) := by decide +kernel
theorem dX8_mayPour_159 : decode cX8_mayPour 159 = .ok (.lload 4, 2) := by decide +kernel
theorem dX8_mayPour_161 : decode cX8_mayPour 161 = .ok (.aload_n 0, 1) := by decide +kernel
theorem dX8_mayPour_162 : decode cX8_mayPour 162 = .ok (.getfield 90, 3) := by decide +kernel
theorem dX8_mayPour_165 : decode cX8_mayPour 165 = .ok (.iload_n 2, 1) := by decide +kernel
theorem dX8_mayPour_166 : decode cX8_mayPour 166 = .ok (.iaload, 1) := by decide +kernel
theorem dX8_mayPour_167 : decode cX8_mayPour 167 = .ok (.ifCond .ne 9, 3) := by decide +kernel
theorem dX8_mayPour_170 : decode cX8_mayPour 170 = .ok (.ldc2_w 195, 3) := by decide +kernel
theorem dX8_mayPour_173 : decode cX8_mayPour 173 = .ok (.goto 6, 3) := by decide +kernel
theorem dX8_mayPour_176 : decode cX8_mayPour 176 = .ok (.ldc2_w 197, 3) := by decide +kernel
theorem dX8_mayPour_179 : decode cX8_mayPour 179 = .ok (.lload 6, 2) := by decide +kernel
theorem dX8_mayPour_181 : decode cX8_mayPour 181 = .ok (.lmul, 1) := by decide +kernel
theorem dX8_mayPour_182 : decode cX8_mayPour 182 = .ok (.lcmp, 1) := by decide +kernel
theorem dX8_mayPour_183 : decode cX8_mayPour 183 = .ok (.ifCond .gt 7, 3) := by decide +kernel
theorem dX8_mayPour_186 : decode cX8_mayPour 186 = .ok (.iconst 1, 1) := by decide +kernel
theorem dX8_mayPour_187 : decode cX8_mayPour 187 = .ok (.goto 4, 3) := by decide +kernel
theorem dX8_mayPour_190 : decode cX8_mayPour 190 = .ok (.iconst 0, 1) := by decide +kernel
theorem dX8_mayPour_191 : decode cX8_mayPour 191 = .ok (.ireturn, 1) := by decide +kernel
set_option maxRecDepth 20000 in
theorem ggX8_pour_X8_isMill : GoodIn wsX8_pour wsX8_isMill := goodIn_r _ [17, 18, 19, 16, 20] (by decide +kernel) (by decide +kernel)
set_option maxRecDepth 20000 in
theorem gX8_pour_X8_isMill : GoodIn wsX8_pour (wsV RX8 155 RX8 yX8_isMill wsX8_isMill) := goodIn_app (goodIn_of _ (by decide +kernel)) ggX8_pour_X8_isMill
set_option maxRecDepth 20000 in
theorem ggX8_pour_X8_isVat : GoodIn wsX8_pour wsX8_isVat := goodIn_r _ [24, 25, 18, 19, 16, 20, 52, 53, 54, 55, 56, 57, 58, 59, 60, 61, 62, 63, 64, 65, 66, 67, 68, 69, 70, 71, 72, 73, 74, 75, 76, 77, 78, 79, 80, 81, 82, 83, 84, 85, 86, 87, 88, 89, 90, 91, 92, 93, 94, 95, 96, 97, 98, 99, 100, 101, 102, 103, 104, 105] (by decide +kernel) (by decide +kernel)
set_option maxRecDepth 20000 in
theorem gX8_pour_X8_isVat : GoodIn wsX8_pour (wsV RX8 199 RX8 yX8_isVat wsX8_isVat) := goodIn_app (goodIn_of _ (by decide +kernel)) ggX8_pour_X8_isVat
set_option maxRecDepth 20000 in
theorem ggX8_pour_X8_mayPour : GoodIn wsX8_pour wsX8_mayPour := goodIn_r _ [29, 30, 31, 6, 4, 32, 33, 8, 34, 3, 5, 35, 36, 37, 38, 39, 16, 40, 41, 42, 43, 44, 45, 46, 47, 48, 49, 50, 51, 52, 53, 54, 55, 56, 57, 58, 59, 60, 61, 62, 63, 64, 65, 66, 67, 68, 69, 70, 71, 72, 73, 74, 75, 76, 77, 78, 79, 80, 81, 82, 83, 84, 85, 86, 87, 88, 89, 90, 91, 92, 93, 94, 95, 96, 97, 98, 99, 100, 101, 102, 103, 104, 105] (by decide +kernel) (by decide +kernel)
set_option maxRecDepth 20000 in
theorem gX8_pour_X8_mayPour : GoodIn wsX8_pour (wsV RX8 202 RX8 yX8_mayPour wsX8_mayPour) := goodIn_app (goodIn_of _ (by decide +kernel)) ggX8_pour_X8_mayPour
set_option maxRecDepth 20000 in
theorem ggX8_pour_X8_sourOf : GoodIn wsX8_pour wsX8_sourOf := goodIn_r _ [45, 8, 46, 47, 37, 38, 39, 16, 40, 41, 48, 49, 50, 51, 52, 53, 54, 55, 56, 57, 58, 59, 60, 61, 62, 63, 64, 65, 66, 67, 68, 69, 70, 71, 72, 73, 74, 75, 76, 77, 78, 79, 80, 81, 82, 83, 84, 85, 86, 87, 88, 89, 90, 91, 92, 93, 94, 95, 96, 97, 98, 99, 100, 101, 102, 103, 104, 105] (by decide +kernel) (by decide +kernel)
set_option maxRecDepth 20000 in
theorem gX8_pour_X8_sourOf : GoodIn wsX8_pour (wsV RX8 191 RX8 yX8_sourOf wsX8_sourOf) := goodIn_app (goodIn_of _ (by decide +kernel)) ggX8_pour_X8_sourOf
set_option maxRecDepth 20000 in
theorem ggX8_pour_X8_lotIn : GoodIn wsX8_pour wsX8_lotIn := goodIn_r _ [40, 41, 52, 53, 54, 55, 56, 57, 58, 59, 60, 61, 62, 63, 64, 65, 66, 67, 68, 69, 70, 71, 72, 73, 74, 75, 76, 77, 78, 79, 80, 81, 82, 83, 84, 85, 86, 87, 88, 89, 90, 91, 92, 93, 94, 95, 96, 97, 98, 99, 100, 101, 102, 103, 104, 105] (by decide +kernel) (by decide +kernel)
set_option maxRecDepth 20000 in
theorem gX8_pour_X8_lotIn : GoodIn wsX8_pour (wsV RX8 161 RX8 yX8_lotIn wsX8_lotIn) := goodIn_app (goodIn_of _ (by decide +kernel)) ggX8_pour_X8_lotIn
theorem dX8_pour_0 : decode cX8_pour 0 = .ok (.aload_n 0, 1) := by decide +kernel
theorem dX8_pour_1 : decode cX8_pour 1 = .ok (.iload_n 1, 1) := by decide +kernel
theorem dX8_pour_2 : decode cX8_pour 2 = .ok (.invokevirtual 155, 3) := by decide +kernel
theorem dX8_pour_5 : decode cX8_pour 5 = .ok (.ifCond .eq 39, 3) := by decide +kernel
theorem dX8_pour_8 : decode cX8_pour 8 = .ok (.aload_n 0, 1) := by decide +kernel
theorem dX8_pour_9 : decode cX8_pour 9 = .ok (.getfield 75, 3) := by decide +kernel
theorem dX8_pour_12 : decode cX8_pour 12 = .ok (.iload_n 1, 1) := by decide +kernel
theorem dX8_pour_13 : decode cX8_pour 13 = .ok (.baload, 1) := by decide +kernel
theorem dX8_pour_14 : decode cX8_pour 14 = .ok (.ifCond .eq 30, 3) := by decide +kernel
theorem dX8_pour_17 : decode cX8_pour 17 = .ok (.aload_n 0, 1) := by decide +kernel
theorem dX8_pour_18 : decode cX8_pour 18 = .ok (.getfield 87, 3) := by decide +kernel
theorem dX8_pour_21 : decode cX8_pour 21 = .ok (.iload_n 1, 1) := by decide +kernel
theorem dX8_pour_22 : decode cX8_pour 22 = .ok (.iaload, 1) := by decide +kernel
theorem dX8_pour_23 : decode cX8_pour 23 = .ok (.iconst (-1), 1) := by decide +kernel
theorem dX8_pour_24 : decode cX8_pour 24 = .ok (.if_icmp .eq 20, 3) := by decide +kernel
theorem dX8_pour_27 : decode cX8_pour 27 = .ok (.aload_n 0, 1) := by decide +kernel
theorem dX8_pour_28 : decode cX8_pour 28 = .ok (.iload_n 2, 1) := by decide +kernel
theorem dX8_pour_29 : decode cX8_pour 29 = .ok (.invokevirtual 199, 3) := by decide +kernel
theorem dX8_pour_32 : decode cX8_pour 32 = .ok (.ifCond .eq 12, 3) := by decide +kernel
theorem dX8_pour_35 : decode cX8_pour 35 = .ok (.aload_n 0, 1) := by decide +kernel
theorem dX8_pour_36 : decode cX8_pour 36 = .ok (.iload_n 1, 1) := by decide +kernel
theorem dX8_pour_37 : decode cX8_pour 37 = .ok (.iload_n 2, 1) := by decide +kernel
theorem dX8_pour_38 : decode cX8_pour 38 = .ok (.invokevirtual 202, 3) := by decide +kernel
theorem dX8_pour_41 : decode cX8_pour 41 = .ok (.ifCond .ne 5, 3) := by decide +kernel
theorem dX8_pour_44 : decode cX8_pour 44 = .ok (.iconst (-1), 1) := by decide +kernel
theorem dX8_pour_45 : decode cX8_pour 45 = .ok (.ireturn, 1) := by decide +kernel
theorem dX8_pour_46 : decode cX8_pour 46 = .ok (.aload_n 0, 1) := by decide +kernel
theorem dX8_pour_47 : decode cX8_pour 47 = .ok (.getfield 108, 3) := by decide +kernel
theorem dX8_pour_50 : decode cX8_pour 50 = .ok (.iload_n 2, 1) := by decide +kernel
theorem dX8_pour_51 : decode cX8_pour 51 = .ok (.dup2, 1) := by decide +kernel
theorem dX8_pour_52 : decode cX8_pour 52 = .ok (.laload, 1) := by decide +kernel
theorem dX8_pour_53 : decode cX8_pour 53 = .ok (.aload_n 0, 1) := by decide +kernel
theorem dX8_pour_54 : decode cX8_pour 54 = .ok (.getfield 84, 3) := by decide +kernel
theorem dX8_pour_57 : decode cX8_pour 57 = .ok (.iload_n 1, 1) := by decide +kernel
theorem dX8_pour_58 : decode cX8_pour 58 = .ok (.iaload, 1) := by decide +kernel
theorem dX8_pour_59 : decode cX8_pour 59 = .ok (.i2l, 1) := by decide +kernel
theorem dX8_pour_60 : decode cX8_pour 60 = .ok (.aload_n 0, 1) := by decide +kernel
theorem dX8_pour_61 : decode cX8_pour 61 = .ok (.iload_n 1, 1) := by decide +kernel
theorem dX8_pour_62 : decode cX8_pour 62 = .ok (.invokevirtual 191, 3) := by decide +kernel
theorem dX8_pour_65 : decode cX8_pour 65 = .ok (.lmul, 1) := by decide +kernel
theorem dX8_pour_66 : decode cX8_pour 66 = .ok (.ladd, 1) := by decide +kernel
theorem dX8_pour_67 : decode cX8_pour 67 = .ok (.lastore, 1) := by decide +kernel
theorem dX8_pour_68 : decode cX8_pour 68 = .ok (.aload_n 0, 1) := by decide +kernel
theorem dX8_pour_69 : decode cX8_pour 69 = .ok (.getfield 112, 3) := by decide +kernel
theorem dX8_pour_72 : decode cX8_pour 72 = .ok (.iload_n 2, 1) := by decide +kernel
theorem dX8_pour_73 : decode cX8_pour 73 = .ok (.dup2, 1) := by decide +kernel
theorem dX8_pour_74 : decode cX8_pour 74 = .ok (.laload, 1) := by decide +kernel
theorem dX8_pour_75 : decode cX8_pour 75 = .ok (.aload_n 0, 1) := by decide +kernel
theorem dX8_pour_76 : decode cX8_pour 76 = .ok (.getfield 84, 3) := by decide +kernel
theorem dX8_pour_79 : decode cX8_pour 79 = .ok (.iload_n 1, 1) := by decide +kernel
theorem dX8_pour_80 : decode cX8_pour 80 = .ok (.iaload, 1) := by decide +kernel
theorem dX8_pour_81 : decode cX8_pour 81 = .ok (.i2l, 1) := by decide +kernel
theorem dX8_pour_82 : decode cX8_pour 82 = .ok (.ladd, 1) := by decide +kernel
theorem dX8_pour_83 : decode cX8_pour 83 = .ok (.lastore, 1) := by decide +kernel
theorem dX8_pour_84 : decode cX8_pour 84 = .ok (.aload_n 0, 1) := by decide +kernel
theorem dX8_pour_85 : decode cX8_pour 85 = .ok (.getfield 99, 3) := by decide +kernel
theorem dX8_pour_88 : decode cX8_pour 88 = .ok (.iload_n 2, 1) := by decide +kernel
theorem dX8_pour_89 : decode cX8_pour 89 = .ok (.dup2, 1) := by decide +kernel
theorem dX8_pour_90 : decode cX8_pour 90 = .ok (.iaload, 1) := by decide +kernel
theorem dX8_pour_91 : decode cX8_pour 91 = .ok (.aload_n 0, 1) := by decide +kernel
theorem dX8_pour_92 : decode cX8_pour 92 = .ok (.getfield 84, 3) := by decide +kernel
theorem dX8_pour_95 : decode cX8_pour 95 = .ok (.iload_n 1, 1) := by decide +kernel
theorem dX8_pour_96 : decode cX8_pour 96 = .ok (.iaload, 1) := by decide +kernel
theorem dX8_pour_97 : decode cX8_pour 97 = .ok (.iadd, 1) := by decide +kernel
theorem dX8_pour_98 : decode cX8_pour 98 = .ok (.iastore, 1) := by decide +kernel
theorem dX8_pour_99 : decode cX8_pour 99 = .ok (.aload_n 0, 1) := by decide +kernel
theorem dX8_pour_100 : decode cX8_pour 100 = .ok (.getfield 102, 3) := by decide +kernel
theorem dX8_pour_103 : decode cX8_pour 103 = .ok (.iload_n 2, 1) := by decide +kernel
theorem dX8_pour_104 : decode cX8_pour 104 = .ok (.dup2, 1) := by decide +kernel
theorem dX8_pour_105 : decode cX8_pour 105 = .ok (.iaload, 1) := by decide +kernel
theorem dX8_pour_106 : decode cX8_pour 106 = .ok (.aload_n 0, 1) := by decide +kernel
theorem dX8_pour_107 : decode cX8_pour 107 = .ok (.getfield 87, 3) := by decide +kernel
theorem dX8_pour_110 : decode cX8_pour 110 = .ok (.iload_n 1, 1) := by decide +kernel
theorem dX8_pour_111 : decode cX8_pour 111 = .ok (.iaload, 1) := by decide +kernel
theorem dX8_pour_112 : decode cX8_pour 112 = .ok (.iadd, 1) := by decide +kernel
theorem dX8_pour_113 : decode cX8_pour 113 = .ok (.iastore, 1) := by decide +kernel
theorem dX8_pour_114 : decode cX8_pour 114 = .ok (.iconst 0, 1) := by decide +kernel
theorem dX8_pour_115 : decode cX8_pour 115 = .ok (.istore_n 3, 1) := by decide +kernel
theorem dX8_pour_116 : decode cX8_pour 116 = .ok (.iload_n 3, 1) := by decide +kernel
theorem dX8_pour_117 : decode cX8_pour 117 = .ok (.aload_n 0, 1) := by decide +kernel
theorem dX8_pour_118 : decode cX8_pour 118 = .ok (.getfield 69, 3) := by decide +kernel
theorem dX8_pour_121 : decode cX8_pour 121 = .ok (.iload_n 1, 1) := by decide +kernel
theorem dX8_pour_122 : decode cX8_pour 122 = .ok (.iaload, 1) := by decide +kernel
theorem dX8_pour_123 : decode cX8_pour 123 = .ok (.if_icmp .ge 48, 3) := by decide +kernel
theorem dX8_pour_126 : decode cX8_pour 126 = .ok (.aload_n 0, 1) := by decide +kernel
theorem dX8_pour_127 : decode cX8_pour 127 = .ok (.iload_n 1, 1) := by decide +kernel
theorem dX8_pour_128 : decode cX8_pour 128 = .ok (.iload_n 3, 1) := by decide +kernel
theorem dX8_pour_129 : decode cX8_pour 129 = .ok (.invokevirtual 161, 3) := by decide +kernel
theorem dX8_pour_132 : decode cX8_pour 132 = .ok (.istore 4, 2) := by decide +kernel
theorem dX8_pour_134 : decode cX8_pour 134 = .ok (.aload_n 0, 1) := by decide +kernel
theorem dX8_pour_135 : decode cX8_pour 135 = .ok (.getfield 35, 3) := by decide +kernel
theorem dX8_pour_138 : decode cX8_pour 138 = .ok (.iload 4, 2) := by decide +kernel
theorem dX8_pour_140 : decode cX8_pour 140 = .ok (.bipush 6, 2) := by decide +kernel
theorem dX8_pour_142 : decode cX8_pour 142 = .ok (.iastore, 1) := by decide +kernel
theorem dX8_pour_143 : decode cX8_pour 143 = .ok (.aload_n 0, 1) := by decide +kernel
theorem dX8_pour_144 : decode cX8_pour 144 = .ok (.getfield 50, 3) := by decide +kernel
theorem dX8_pour_147 : decode cX8_pour 147 = .ok (.iload 4, 2) := by decide +kernel
theorem dX8_pour_149 : decode cX8_pour 149 = .ok (.aload_n 0, 1) := by decide +kernel
theorem dX8_pour_150 : decode cX8_pour 150 = .ok (.getfield 47, 3) := by decide +kernel
theorem dX8_pour_153 : decode cX8_pour 153 = .ok (.iload 4, 2) := by decide +kernel
theorem dX8_pour_155 : decode cX8_pour 155 = .ok (.iaload, 1) := by decide +kernel
theorem dX8_pour_156 : decode cX8_pour 156 = .ok (.iastore, 1) := by decide +kernel
theorem dX8_pour_157 : decode cX8_pour 157 = .ok (.aload_n 0, 1) := by decide +kernel
theorem dX8_pour_158 : decode cX8_pour 158 = .ok (.getfield 53, 3) := by decide +kernel
theorem dX8_pour_161 : decode cX8_pour 161 = .ok (.iload 4, 2) := by decide +kernel
theorem dX8_pour_163 : decode cX8_pour 163 = .ok (.iload_n 2, 1) := by decide +kernel
theorem dX8_pour_164 : decode cX8_pour 164 = .ok (.iastore, 1) := by decide +kernel
theorem dX8_pour_165 : decode cX8_pour 165 = .ok (.iinc 3 1, 3) := by decide +kernel
theorem dX8_pour_168 : decode cX8_pour 168 = .ok (.goto (-52), 3) := by decide +kernel
theorem dX8_pour_171 : decode cX8_pour 171 = .ok (.aload_n 0, 1) := by decide +kernel
theorem dX8_pour_172 : decode cX8_pour 172 = .ok (.getfield 69, 3) := by decide +kernel
theorem dX8_pour_175 : decode cX8_pour 175 = .ok (.iload_n 1, 1) := by decide +kernel
theorem dX8_pour_176 : decode cX8_pour 176 = .ok (.iconst 0, 1) := by decide +kernel
theorem dX8_pour_177 : decode cX8_pour 177 = .ok (.iastore, 1) := by decide +kernel
theorem dX8_pour_178 : decode cX8_pour 178 = .ok (.aload_n 0, 1) := by decide +kernel
theorem dX8_pour_179 : decode cX8_pour 179 = .ok (.getfield 75, 3) := by decide +kernel
theorem dX8_pour_182 : decode cX8_pour 182 = .ok (.iload_n 1, 1) := by decide +kernel
theorem dX8_pour_183 : decode cX8_pour 183 = .ok (.iconst 0, 1) := by decide +kernel
theorem dX8_pour_184 : decode cX8_pour 184 = .ok (.bastore, 1) := by decide +kernel
theorem dX8_pour_185 : decode cX8_pour 185 = .ok (.aload_n 0, 1) := by decide +kernel
theorem dX8_pour_186 : decode cX8_pour 186 = .ok (.getfield 84, 3) := by decide +kernel
theorem dX8_pour_189 : decode cX8_pour 189 = .ok (.iload_n 1, 1) := by decide +kernel
theorem dX8_pour_190 : decode cX8_pour 190 = .ok (.iconst (-1), 1) := by decide +kernel
theorem dX8_pour_191 : decode cX8_pour 191 = .ok (.iastore, 1) := by decide +kernel
theorem dX8_pour_192 : decode cX8_pour 192 = .ok (.aload_n 0, 1) := by decide +kernel
theorem dX8_pour_193 : decode cX8_pour 193 = .ok (.getfield 87, 3) := by decide +kernel
theorem dX8_pour_196 : decode cX8_pour 196 = .ok (.iload_n 1, 1) := by decide +kernel
theorem dX8_pour_197 : decode cX8_pour 197 = .ok (.iconst (-1), 1) := by decide +kernel
theorem dX8_pour_198 : decode cX8_pour 198 = .ok (.iastore, 1) := by decide +kernel
theorem dX8_pour_199 : decode cX8_pour 199 = .ok (.aload_n 0, 1) := by decide +kernel
theorem dX8_pour_200 : decode cX8_pour 200 = .ok (.getfield 99, 3) := by decide +kernel
theorem dX8_pour_203 : decode cX8_pour 203 = .ok (.iload_n 2, 1) := by decide +kernel
theorem dX8_pour_204 : decode cX8_pour 204 = .ok (.iaload, 1) := by decide +kernel
theorem dX8_pour_205 : decode cX8_pour 205 = .ok (.ireturn, 1) := by decide +kernel
theorem dX8_leaves_0 : decode cX8_leaves 0 = .ok (.aload_n 0, 1) := by decide +kernel
theorem dX8_leaves_1 : decode cX8_leaves 1 = .ok (.getfield 99, 3) := by decide +kernel
theorem dX8_leaves_4 : decode cX8_leaves 4 = .ok (.iload_n 1, 1) := by decide +kernel
theorem dX8_leaves_5 : decode cX8_leaves 5 = .ok (.dup2, 1) := by decide +kernel
theorem dX8_leaves_6 : decode cX8_leaves 6 = .ok (.iaload, 1) := by decide +kernel
theorem dX8_leaves_7 : decode cX8_leaves 7 = .ok (.iload_n 2, 1) := by decide +kernel
theorem dX8_leaves_8 : decode cX8_leaves 8 = .ok (.isub, 1) := by decide +kernel
theorem dX8_leaves_9 : decode cX8_leaves 9 = .ok (.iastore, 1) := by decide +kernel
theorem dX8_leaves_10 : decode cX8_leaves 10 = .ok (.aload_n 0, 1) := by decide +kernel
theorem dX8_leaves_11 : decode cX8_leaves 11 = .ok (.getfield 105, 3) := by decide +kernel
theorem dX8_leaves_14 : decode cX8_leaves 14 = .ok (.iload_n 1, 1) := by decide +kernel
theorem dX8_leaves_15 : decode cX8_leaves 15 = .ok (.aload_n 0, 1) := by decide +kernel
theorem dX8_leaves_16 : decode cX8_leaves 16 = .ok (.getfield 99, 3) := by decide +kernel
theorem dX8_leaves_19 : decode cX8_leaves 19 = .ok (.iload_n 1, 1) := by decide +kernel
theorem dX8_leaves_20 : decode cX8_leaves 20 = .ok (.iaload, 1) := by decide +kernel
theorem dX8_leaves_21 : decode cX8_leaves 21 = .ok (.ifCond .le 7, 3) := by decide +kernel
theorem dX8_leaves_24 : decode cX8_leaves 24 = .ok (.iconst 1, 1) := by decide +kernel
theorem dX8_leaves_25 : decode cX8_leaves 25 = .ok (.goto 4, 3) := by decide +kernel
theorem dX8_leaves_28 : decode cX8_leaves 28 = .ok (.iconst 0, 1) := by decide +kernel
theorem dX8_leaves_29 : decode cX8_leaves 29 = .ok (.bastore, 1) := by decide +kernel
theorem dX8_leaves_30 : decode cX8_leaves 30 = .ok (.aload_n 0, 1) := by decide +kernel
theorem dX8_leaves_31 : decode cX8_leaves 31 = .ok (.getfield 99, 3) := by decide +kernel
theorem dX8_leaves_34 : decode cX8_leaves 34 = .ok (.iload_n 1, 1) := by decide +kernel
theorem dX8_leaves_35 : decode cX8_leaves 35 = .ok (.iaload, 1) := by decide +kernel
theorem dX8_leaves_36 : decode cX8_leaves 36 = .ok (.ifCond .le 4, 3) := by decide +kernel
theorem dX8_leaves_39 : decode cX8_leaves 39 = .ok (.return_, 1) := by decide +kernel
theorem dX8_leaves_40 : decode cX8_leaves 40 = .ok (.aload_n 0, 1) := by decide +kernel
theorem dX8_leaves_41 : decode cX8_leaves 41 = .ok (.getfield 108, 3) := by decide +kernel
theorem dX8_leaves_44 : decode cX8_leaves 44 = .ok (.iload_n 1, 1) := by decide +kernel
theorem dX8_leaves_45 : decode cX8_leaves 45 = .ok (.lconst 0, 1) := by decide +kernel
theorem dX8_leaves_46 : decode cX8_leaves 46 = .ok (.lastore, 1) := by decide +kernel
theorem dX8_leaves_47 : decode cX8_leaves 47 = .ok (.aload_n 0, 1) := by decide +kernel
theorem dX8_leaves_48 : decode cX8_leaves 48 = .ok (.getfield 112, 3) := by decide +kernel
theorem dX8_leaves_51 : decode cX8_leaves 51 = .ok (.iload_n 1, 1) := by decide +kernel
theorem dX8_leaves_52 : decode cX8_leaves 52 = .ok (.lconst 0, 1) := by decide +kernel
theorem dX8_leaves_53 : decode cX8_leaves 53 = .ok (.lastore, 1) := by decide +kernel
theorem dX8_leaves_54 : decode cX8_leaves 54 = .ok (.return_, 1) := by decide +kernel
set_option maxRecDepth 20000 in
theorem ggX8_fetch_X8_isLot : GoodIn wsX8_fetch wsX8_isLot := goodIn_r _ [9, 10, 11, 12, 8, 13, 22, 23, 24, 25, 26, 27, 28, 29, 30, 31, 32, 33, 34, 35, 36, 37, 38, 39, 40, 41, 42, 43, 44, 45, 46, 47, 48, 49, 50, 51, 52, 53, 54, 55, 56, 57, 58, 59, 60, 61, 62, 63, 64, 65, 66, 67, 68, 69, 70, 71, 72, 73, 74, 75] (by decide +kernel) (by decide +kernel)
set_option maxRecDepth 20000 in
theorem gX8_fetch_X8_isLot : GoodIn wsX8_fetch (wsV RX8 147 RX8 yX8_isLot wsX8_isLot) := goodIn_app (goodIn_of _ (by decide +kernel)) ggX8_fetch_X8_isLot
set_option maxRecDepth 20000 in
theorem ggX8_fetch_X8_leaves : GoodIn wsX8_fetch wsX8_leaves := goodIn_r _ [17, 18, 19, 20, 21, 22, 23, 24, 25, 26, 27, 28, 29, 30, 31, 32, 33, 34, 35, 36, 37, 38, 39, 40, 41, 42, 43, 44, 45, 46, 47, 48, 49, 50, 51, 52, 53, 54, 55, 56, 57, 58, 59, 60, 61, 62, 63, 64, 65, 66, 67, 68, 69, 70, 71, 72, 73, 74, 75] (by decide +kernel) (by decide +kernel)
set_option maxRecDepth 20000 in
theorem gX8_fetch_X8_leaves : GoodIn wsX8_fetch (wsV RX8 208 RX8 yX8_leaves wsX8_leaves) := goodIn_app (goodIn_of _ (by decide +kernel)) ggX8_fetch_X8_leaves
theorem dX8_fetch_0 : decode cX8_fetch 0 = .ok (.aload_n 0, 1) := by decide +kernel
theorem dX8_fetch_1 : decode cX8_fetch 1 = .ok (.iload_n 1, 1) := by decide +kernel
theorem dX8_fetch_2 : decode cX8_fetch 2 = .ok (.invokevirtual 147, 3) := by decide +kernel
theorem dX8_fetch_5 : decode cX8_fetch 5 = .ok (.ifCond .eq 23, 3) := by decide +kernel
theorem dX8_fetch_8 : decode cX8_fetch 8 = .ok (.aload_n 0, 1) := by decide +kernel
theorem dX8_fetch_9 : decode cX8_fetch 9 = .ok (.getfield 35, 3) := by decide +kernel
theorem dX8_fetch_12 : decode cX8_fetch 12 = .ok (.iload_n 1, 1) := by decide +kernel
theorem dX8_fetch_13 : decode cX8_fetch 13 = .ok (.iaload, 1) := by decide +kernel
theorem dX8_fetch_14 : decode cX8_fetch 14 = .ok (.bipush 6, 2) := by decide +kernel
theorem dX8_fetch_16 : decode cX8_fetch 16 = .ok (.if_icmp .ne 12, 3) := by decide +kernel
theorem dX8_fetch_19 : decode cX8_fetch 19 = .ok (.aload_n 0, 1) := by decide +kernel
theorem dX8_fetch_20 : decode cX8_fetch 20 = .ok (.getfield 50, 3) := by decide +kernel
theorem dX8_fetch_23 : decode cX8_fetch 23 = .ok (.iload_n 1, 1) := by decide +kernel
theorem dX8_fetch_24 : decode cX8_fetch 24 = .ok (.iaload, 1) := by decide +kernel
theorem dX8_fetch_25 : decode cX8_fetch 25 = .ok (.ifCond .ne 5, 3) := by decide +kernel
theorem dX8_fetch_28 : decode cX8_fetch 28 = .ok (.iconst (-1), 1) := by decide +kernel
theorem dX8_fetch_29 : decode cX8_fetch 29 = .ok (.ireturn, 1) := by decide +kernel
theorem dX8_fetch_30 : decode cX8_fetch 30 = .ok (.aload_n 0, 1) := by decide +kernel
theorem dX8_fetch_31 : decode cX8_fetch 31 = .ok (.getfield 50, 3) := by decide +kernel
theorem dX8_fetch_34 : decode cX8_fetch 34 = .ok (.iload_n 1, 1) := by decide +kernel
theorem dX8_fetch_35 : decode cX8_fetch 35 = .ok (.iaload, 1) := by decide +kernel
theorem dX8_fetch_36 : decode cX8_fetch 36 = .ok (.istore_n 2, 1) := by decide +kernel
theorem dX8_fetch_37 : decode cX8_fetch 37 = .ok (.aload_n 0, 1) := by decide +kernel
theorem dX8_fetch_38 : decode cX8_fetch 38 = .ok (.getfield 50, 3) := by decide +kernel
theorem dX8_fetch_41 : decode cX8_fetch 41 = .ok (.iload_n 1, 1) := by decide +kernel
theorem dX8_fetch_42 : decode cX8_fetch 42 = .ok (.iconst 0, 1) := by decide +kernel
theorem dX8_fetch_43 : decode cX8_fetch 43 = .ok (.iastore, 1) := by decide +kernel
theorem dX8_fetch_44 : decode cX8_fetch 44 = .ok (.aload_n 0, 1) := by decide +kernel
theorem dX8_fetch_45 : decode cX8_fetch 45 = .ok (.dup, 1) := by decide +kernel
theorem dX8_fetch_46 : decode cX8_fetch 46 = .ok (.getfield 205, 3) := by decide +kernel
theorem dX8_fetch_49 : decode cX8_fetch 49 = .ok (.iload_n 2, 1) := by decide +kernel
theorem dX8_fetch_50 : decode cX8_fetch 50 = .ok (.iadd, 1) := by decide +kernel
theorem dX8_fetch_51 : decode cX8_fetch 51 = .ok (.putfield 205, 3) := by decide +kernel
theorem dX8_fetch_54 : decode cX8_fetch 54 = .ok (.aload_n 0, 1) := by decide +kernel
theorem dX8_fetch_55 : decode cX8_fetch 55 = .ok (.aload_n 0, 1) := by decide +kernel
theorem dX8_fetch_56 : decode cX8_fetch 56 = .ok (.getfield 53, 3) := by decide +kernel
theorem dX8_fetch_59 : decode cX8_fetch 59 = .ok (.iload_n 1, 1) := by decide +kernel
theorem dX8_fetch_60 : decode cX8_fetch 60 = .ok (.iaload, 1) := by decide +kernel
theorem dX8_fetch_61 : decode cX8_fetch 61 = .ok (.iload_n 2, 1) := by decide +kernel
theorem dX8_fetch_62 : decode cX8_fetch 62 = .ok (.invokevirtual 208, 3) := by decide +kernel
theorem dX8_fetch_65 : decode cX8_fetch 65 = .ok (.iload_n 2, 1) := by decide +kernel
theorem dX8_fetch_66 : decode cX8_fetch 66 = .ok (.ireturn, 1) := by decide +kernel
set_option maxRecDepth 20000 in
theorem ggX8_draw_X8_isVat : GoodIn wsX8_draw wsX8_isVat := goodIn_r _ [7, 8, 9, 10, 6, 11, 20, 21, 22, 23, 24, 25, 26, 27, 28, 29, 30, 31, 32, 33, 34, 35, 36, 37, 38, 39, 40, 41, 42, 43, 44, 45, 46, 47, 48, 49, 50, 51, 52, 53, 54, 55, 56, 57, 58, 59, 60, 61, 62, 63, 64, 65, 66, 67, 68, 69, 70, 71, 72, 73] (by decide +kernel) (by decide +kernel)
set_option maxRecDepth 20000 in
theorem gX8_draw_X8_isVat : GoodIn wsX8_draw (wsV RX8 199 RX8 yX8_isVat wsX8_isVat) := goodIn_app (goodIn_of _ (by decide +kernel)) ggX8_draw_X8_isVat
set_option maxRecDepth 20000 in
theorem ggX8_draw_X8_leaves : GoodIn wsX8_draw wsX8_leaves := goodIn_r _ [15, 16, 17, 18, 19, 20, 21, 22, 23, 24, 25, 26, 27, 28, 29, 30, 31, 32, 33, 34, 35, 36, 37, 38, 39, 40, 41, 42, 43, 44, 45, 46, 47, 48, 49, 50, 51, 52, 53, 54, 55, 56, 57, 58, 59, 60, 61, 62, 63, 64, 65, 66, 67, 68, 69, 70, 71, 72, 73] (by decide +kernel) (by decide +kernel)
set_option maxRecDepth 20000 in
theorem gX8_draw_X8_leaves : GoodIn wsX8_draw (wsV RX8 208 RX8 yX8_leaves wsX8_leaves) := goodIn_app (goodIn_of _ (by decide +kernel)) ggX8_draw_X8_leaves
