theorem dX8_init_114 : decode cX8_init 114 = .ok (.putfield 50, 3) := by decide +kernel
theorem dX8_init_117 : decode cX8_init 117 = .ok (.aload_n 0, 1) := by decide +kernel
theorem dX8_init_118 : decode cX8_init 118 = .ok (.sipush 200, 3) := by decide +kernel
theorem dX8_init_121 : decode cX8_init 121 = .ok (.newarray .int, 2) := by decide +kernel
theorem dX8_init_123 : decode cX8_init 123 = .ok (.putfield 53, 3) := by decide +kernel
theorem dX8_init_126 : decode cX8_init 126 = .ok (.aload_n 0, 1) := by decide +kernel
theorem dX8_init_127 : decode cX8_init 127 = .ok (.sipush 200, 3) := by decide +kernel
theorem dX8_init_130 : decode cX8_init 130 = .ok (.newarray .boolean, 2) := by decide +kernel
theorem dX8_init_132 : decode cX8_init 132 = .ok (.putfield 56, 3) := by decide +kernel
theorem dX8_init_135 : decode cX8_init 135 = .ok (.aload_n 0, 1) := by decide +kernel
theorem dX8_init_136 : decode cX8_init 136 = .ok (.iconst 3, 1) := by decide +kernel
theorem dX8_init_137 : decode cX8_init 137 = .ok (.newarray .int, 2) := by decide +kernel
theorem dX8_init_139 : decode cX8_init 139 = .ok (.dup, 1) := by decide +kernel
theorem dX8_init_140 : decode cX8_init 140 = .ok (.iconst 0, 1) := by decide +kernel
theorem dX8_init_141 : decode cX8_init 141 = .ok (.sipush 1000, 3) := by decide +kernel
theorem dX8_init_144 : decode cX8_init 144 = .ok (.iastore, 1) := by decide +kernel
theorem dX8_init_145 : decode cX8_init 145 = .ok (.dup, 1) := by decide +kernel
theorem dX8_init_146 : decode cX8_init 146 = .ok (.iconst 1, 1) := by decide +kernel
theorem dX8_init_147 : decode cX8_init 147 = .ok (.sipush 1000, 3) := by decide +kernel
theorem dX8_init_150 : decode cX8_init 150 = .ok (.iastore, 1) := by decide +kernel
theorem dX8_init_151 : decode cX8_init 151 = .ok (.dup, 1) := by decide +kernel
theorem dX8_init_152 : decode cX8_init 152 = .ok (.iconst 2, 1) := by decide +kernel
theorem dX8_init_153 : decode cX8_init 153 = .ok (.sipush 1000, 3) := by decide +kernel
theorem dX8_init_156 : decode cX8_init 156 = .ok (.iastore, 1) := by decide +kernel
theorem dX8_init_157 : decode cX8_init 157 = .ok (.putfield 60, 3) := by decide +kernel
theorem dX8_init_160 : decode cX8_init 160 = .ok (.aload_n 0, 1) := by decide +kernel
theorem dX8_init_161 : decode cX8_init 161 = .ok (.iconst 3, 1) := by decide +kernel
theorem dX8_init_162 : decode cX8_init 162 = .ok (.newarray .int, 2) := by decide +kernel
theorem dX8_init_164 : decode cX8_init 164 = .ok (.dup, 1) := by decide +kernel
theorem dX8_init_165 : decode cX8_init 165 = .ok (.iconst 0, 1) := by decide +kernel
theorem dX8_init_166 : decode cX8_init 166 = .ok (.sipush 500, 3) := by decide +kernel
theorem dX8_init_169 : decode cX8_init 169 = .ok (.iastore, 1) := by decide +kernel
theorem dX8_init_170 : decode cX8_init 170 = .ok (.dup, 1) := by decide +kernel
theorem dX8_init_171 : decode cX8_init 171 = .ok (.iconst 1, 1) := by decide +kernel
theorem dX8_init_172 : decode cX8_init 172 = .ok (.sipush 500, 3) := by decide +kernel
theorem dX8_init_175 : decode cX8_init 175 = .ok (.iastore, 1) := by decide +kernel
theorem dX8_init_176 : decode cX8_init 176 = .ok (.dup, 1) := by decide +kernel
theorem dX8_init_177 : decode cX8_init 177 = .ok (.iconst 2, 1) := by decide +kernel
theorem dX8_init_178 : decode cX8_init 178 = .ok (.sipush 500, 3) := by decide +kernel
theorem dX8_init_181 : decode cX8_init 181 = .ok (.iastore, 1) := by decide +kernel
theorem dX8_init_182 : decode cX8_init 182 = .ok (.putfield 63, 3) := by decide +kernel
theorem dX8_init_185 : decode cX8_init 185 = .ok (.aload_n 0, 1) := by decide +kernel
theorem dX8_init_186 : decode cX8_init 186 = .ok (.iconst 3, 1) := by decide +kernel
theorem dX8_init_187 : decode cX8_init 187 = .ok (.newarray .int, 2) := by decide +kernel
theorem dX8_init_189 : decode cX8_init 189 = .ok (.putfield 66, 3) := by decide +kernel
theorem dX8_init_192 : decode cX8_init 192 = .ok (.aload_n 0, 1) := by decide +kernel
theorem dX8_init_193 : decode cX8_init 193 = .ok (.iconst 3, 1) := by decide +kernel
theorem dX8_init_194 : decode cX8_init 194 = .ok (.newarray .int, 2) := by decide +kernel
theorem dX8_init_196 : decode cX8_init 196 = .ok (.putfield 69, 3) := by decide +kernel
theorem dX8_init_199 : decode cX8_init 199 = .ok (.aload_n 0, 1) := by decide +kernel
theorem dX8_init_200 : decode cX8_init 200 = .ok (.bipush 36, 2) := by decide +kernel
theorem dX8_init_202 : decode cX8_init 202 = .ok (.newarray .int, 2) := by decide +kernel
theorem dX8_init_204 : decode cX8_init 204 = .ok (.putfield 72, 3) := by decide +kernel
theorem dX8_init_207 : decode cX8_init 207 = .ok (.aload_n 0, 1) := by decide +kernel
theorem dX8_init_208 : decode cX8_init 208 = .ok (.iconst 3, 1) := by decide +kernel
theorem dX8_init_209 : decode cX8_init 209 = .ok (.newarray .boolean, 2) := by decide +kernel
theorem dX8_init_211 : decode cX8_init 211 = .ok (.putfield 75, 3) := by decide +kernel
theorem dX8_init_214 : decode cX8_init 214 = .ok (.aload_n 0, 1) := by decide +kernel
theorem dX8_init_215 : decode cX8_init 215 = .ok (.iconst 3, 1) := by decide +kernel
theorem dX8_init_216 : decode cX8_init 216 = .ok (.newarray .boolean, 2) := by decide +kernel
theorem dX8_init_218 : decode cX8_init 218 = .ok (.putfield 78, 3) := by decide +kernel
theorem dX8_init_221 : decode cX8_init 221 = .ok (.aload_n 0, 1) := by decide +kernel
theorem dX8_init_222 : decode cX8_init 222 = .ok (.iconst 3, 1) := by decide +kernel
theorem dX8_init_223 : decode cX8_init 223 = .ok (.newarray .int, 2) := by decide +kernel
theorem dX8_init_225 : decode cX8_init 225 = .ok (.dup, 1) := by decide +kernel
theorem dX8_init_226 : decode cX8_init 226 = .ok (.iconst 0, 1) := by decide +kernel
theorem dX8_init_227 : decode cX8_init 227 = .ok (.iconst (-1), 1) := by decide +kernel
theorem dX8_init_228 : decode cX8_init 228 = .ok (.iastore, 1) := by decide +kernel
theorem dX8_init_229 : decode cX8_init 229 = .ok (.dup, 1) := by decide +kernel
theorem dX8_init_230 : decode cX8_init 230 = .ok (.iconst 1, 1) := by decide +kernel
theorem dX8_init_231 : decode cX8_init 231 = .ok (.iconst (-1), 1) := by decide +kernel
theorem dX8_init_232 : decode cX8_init 232 = .ok (.iastore, 1) := by decide +kernel
theorem dX8_init_233 : decode cX8_init 233 = .ok (.dup, 1) := by decide +kernel
theorem dX8_init_234 : decode cX8_init 234 = .ok (.iconst 2, 1) := by decide +kernel
theorem dX8_init_235 : decode cX8_init 235 = .ok (.iconst (-1), 1) := by decide +kernel
theorem dX8_init_236 : decode cX8_init 236 = .ok (.iastore, 1) := by decide +kernel
theorem dX8_init_237 : decode cX8_init 237 = .ok (.putfield 81, 3) := by decide +kernel
theorem dX8_init_240 : decode cX8_init 240 = .ok (.aload_n 0, 1) := by decide +kernel
theorem dX8_init_241 : decode cX8_init 241 = .ok (.iconst 3, 1) := by decide +kernel
theorem dX8_init_242 : decode cX8_init 242 = .ok (.newarray .int, 2) := by decide +kernel
theorem dX8_init_244 : decode cX8_init 244 = .ok (.dup, 1) := by decide +kernel
theorem dX8_init_245 : decode cX8_init 245 = .ok (.iconst 0, 1) := by decide +kernel
theorem dX8_init_246 : decode cX8_init 246 = .ok (.iconst (-1), 1) := by decide +kernel
theorem dX8_init_247 : decode cX8_init 247 = .ok (.iastore, 1) := by decide +kernel
theorem dX8_init_248 : decode cX8_init 248 = .ok (.dup, 1) := by decide +kernel
theorem dX8_init_249 : decode cX8_init 249 = .ok (.iconst 1, 1) := by decide +kernel
theorem dX8_init_250 : decode cX8_init 250 = .ok (.iconst (-1), 1) := by decide +kernel
theorem dX8_init_251 : decode cX8_init 251 = .ok (.iastore, 1) := by decide +kernel
theorem dX8_init_252 : decode cX8_init 252 = .ok (.dup, 1) := by decide +kernel
theorem dX8_init_253 : decode cX8_init 253 = .ok (.iconst 2, 1) := by decide +kernel
theorem dX8_init_254 : decode cX8_init 254 = .ok (.iconst (-1), 1) := by decide +kernel
theorem dX8_init_255 : decode cX8_init 255 = .ok (.iastore, 1) := by decide +kernel
theorem dX8_init_256 : decode cX8_init 256 = .ok (.putfield 84, 3) := by decide +kernel
theorem dX8_init_259 : decode cX8_init 259 = .ok (.aload_n 0, 1) := by decide +kernel
theorem dX8_init_260 : decode cX8_init 260 = .ok (.iconst 3, 1) := by decide +kernel
theorem dX8_init_261 : decode cX8_init 261 = .ok (.newarray .int, 2) := by decide +kernel
theorem dX8_init_263 : decode cX8_init 263 = .ok (.dup, 1) := by decide +kernel
theorem dX8_init_264 : decode cX8_init 264 = .ok (.iconst 0, 1) := by decide +kernel
theorem dX8_init_265 : decode cX8_init 265 = .ok (.iconst (-1), 1) := by decide +kernel
theorem dX8_init_266 : decode cX8_init 266 = .ok (.iastore, 1) := by decide +kernel
theorem dX8_init_267 : decode cX8_init 267 = .ok (.dup, 1) := by decide +kernel
theorem dX8_init_268 : decode cX8_init 268 = .ok (.iconst 1, 1) := by decide +kernel
theorem dX8_init_269 : decode cX8_init 269 = .ok (.iconst (-1), 1) := by decide +kernel
theorem dX8_init_270 : decode cX8_init 270 = .ok (.iastore, 1) := by decide +kernel
theorem dX8_init_271 : decode cX8_init 271 = .ok (.dup, 1) := by decide +kernel
theorem dX8_init_272 : decode cX8_init 272 = .ok (.iconst 2, 1) := by decide +kernel
theorem dX8_init_273 : decode cX8_init 273 = .ok (.iconst (-1), 1) := by decide +kernel
theorem dX8_init_274 : decode cX8_init 274 = .ok (.iastore, 1) := by decide +kernel
theorem dX8_init_275 : decode cX8_init 275 = .ok (.putfield 87, 3) := by decide +kernel
theorem dX8_init_278 : decode cX8_init 278 = .ok (.aload_n 0, 1) := by decide +kernel
theorem dX8_init_279 : decode cX8_init 279 = .ok (.bipush 12, 2) := by decide +kernel
theorem dX8_init_281 : decode cX8_init 281 = .ok (.newarray .int, 2) := by decide +kernel
theorem dX8_init_283 : decode cX8_init 283 = .ok (.putfield 90, 3) := by decide +kernel
theorem dX8_init_286 : decode cX8_init 286 = .ok (.aload_n 0, 1) := by decide +kernel
theorem dX8_init_287 : decode cX8_init 287 = .ok (.bipush 12, 2) := by decide +kernel
theorem dX8_init_289 : decode cX8_init 289 = .ok (.newarray .boolean, 2) := by decide +kernel
theorem dX8_init_291 : decode cX8_init 291 = .ok (.putfield 93, 3) := by decide +kernel
theorem dX8_init_294 : decode cX8_init 294 = .ok (.aload_n 0, 1) := by decide +kernel
theorem dX8_init_295 : decode cX8_init 295 = .ok (.bipush 12, 2) := by decide +kernel
theorem dX8_init_297 : decode cX8_init 297 = .ok (.newarray .int, 2) := by decide +kernel
theorem dX8_init_299 : decode cX8_init 299 = .ok (.putfield 96, 3) := by decide +kernel
theorem dX8_init_302 : decode cX8_init 302 = .ok (.aload_n 0, 1) := by decide +kernel
theorem dX8_init_303 : decode cX8_init 303 = .ok (.bipush 12, 2) := by decide +kernel
theorem dX8_init_305 : decode cX8_init 305 = .ok (.newarray .int, 2) := by decide +kernel
theorem dX8_init_307 : decode cX8_init 307 = .ok (.putfield 99, 3) := by decide +kernel
theorem dX8_init_310 : decode cX8_init 310 = .ok (.aload_n 0, 1) := by decide +kernel
theorem dX8_init_311 : decode cX8_init 311 = .ok (.bipush 12, 2) := by decide +kernel
theorem dX8_init_313 : decode cX8_init 313 = .ok (.newarray .int, 2) := by decide +kernel
theorem dX8_init_315 : decode cX8_init 315 = .ok (.putfield 102, 3) := by decide +kernel
theorem dX8_init_318 : decode cX8_init 318 = .ok (.aload_n 0, 1) := by decide +kernel
theorem dX8_init_319 : decode cX8_init 319 = .ok (.bipush 12, 2) := by decide +kernel
theorem dX8_init_321 : decode cX8_init 321 = .ok (.newarray .boolean, 2) := by decide +kernel
theorem dX8_init_323 : decode cX8_init 323 = .ok (.putfield 105, 3) := by decide +kernel
theorem dX8_init_326 : decode cX8_init 326 = .ok (.aload_n 0, 1) := by decide +kernel
theorem dX8_init_327 : decode cX8_init 327 = .ok (.bipush 12, 2) := by decide +kernel
theorem dX8_init_329 : decode cX8_init 329 = .ok (.newarray .long, 2) := by decide +kernel
theorem dX8_init_331 : decode cX8_init 331 = .ok (.putfield 108, 3) := by decide +kernel
theorem dX8_init_334 : decode cX8_init 334 = .ok (.aload_n 0, 1) := by decide +kernel
theorem dX8_init_335 : decode cX8_init 335 = .ok (.bipush 12, 2) := by decide +kernel
theorem dX8_init_337 : decode cX8_init 337 = .ok (.newarray .long, 2) := by decide +kernel
theorem dX8_init_339 : decode cX8_init 339 = .ok (.putfield 112, 3) := by decide +kernel
theorem dX8_init_342 : decode cX8_init 342 = .ok (.aload_n 0, 1) := by decide +kernel
theorem dX8_init_343 : decode cX8_init 343 = .ok (.bipush 120, 2) := by decide +kernel
theorem dX8_init_345 : decode cX8_init 345 = .ok (.newarray .int, 2) := by decide +kernel
theorem dX8_init_347 : decode cX8_init 347 = .ok (.putfield 115, 3) := by decide +kernel
theorem dX8_init_350 : decode cX8_init 350 = .ok (.aload_n 0, 1) := by decide +kernel
theorem dX8_init_351 : decode cX8_init 351 = .ok (.bipush 8, 2) := by decide +kernel
theorem dX8_init_353 : decode cX8_init 353 = .ok (.newarray .int, 2) := by decide +kernel
theorem dX8_init_355 : decode cX8_init 355 = .ok (.putfield 118, 3) := by decide +kernel
theorem dX8_init_358 : decode cX8_init 358 = .ok (.aload_n 0, 1) := by decide +kernel
theorem dX8_init_359 : decode cX8_init 359 = .ok (.bipush 8, 2) := by decide +kernel
theorem dX8_init_361 : decode cX8_init 361 = .ok (.newarray .int, 2) := by decide +kernel
theorem dX8_init_363 : decode cX8_init 363 = .ok (.putfield 121, 3) := by decide +kernel
theorem dX8_init_366 : decode cX8_init 366 = .ok (.aload_n 0, 1) := by decide +kernel
theorem dX8_init_367 : decode cX8_init 367 = .ok (.bipush 8, 2) := by decide +kernel
theorem dX8_init_369 : decode cX8_init 369 = .ok (.newarray .int, 2) := by decide +kernel
theorem dX8_init_371 : decode cX8_init 371 = .ok (.putfield 124, 3) := by decide +kernel
theorem dX8_init_374 : decode cX8_init 374 = .ok (.return_, 1) := by decide +kernel
theorem dX8_in_0 : decode cX8_in 0 = .ok (.iload_n 0, 1) := by decide +kernel
theorem dX8_in_1 : decode cX8_in 1 = .ok (.iload_n 1, 1) := by decide +kernel
theorem dX8_in_2 : decode cX8_in 2 = .ok (.if_icmp .lt 12, 3) := by decide +kernel
theorem dX8_in_5 : decode cX8_in 5 = .ok (.iload_n 0, 1) := by decide +kernel
theorem dX8_in_6 : decode cX8_in 6 = .ok (.iload_n 2, 1) := by decide +kernel
theorem dX8_in_7 : decode cX8_in 7 = .ok (.if_icmp .gt 7, 3) := by decide +kernel
theorem dX8_in_10 : decode cX8_in 10 = .ok (.iconst 1, 1) := by decide +kernel
theorem dX8_in_11 : decode cX8_in 11 = .ok (.goto 4, 3) := by decide +kernel
theorem dX8_in_14 : decode cX8_in 14 = .ok (.iconst 0, 1) := by decide +kernel
theorem dX8_in_15 : decode cX8_in 15 = .ok (.ireturn, 1) := by decide +kernel
theorem dX8_today_0 : decode cX8_today 0 = .ok (.aload_n 0, 1) := by decide +kernel
theorem dX8_today_1 : decode cX8_today 1 = .ok (.getfield 127, 3) := by decide +kernel
theorem dX8_today_4 : decode cX8_today 4 = .ok (.bipush 10, 2) := by decide +kernel
theorem dX8_today_6 : decode cX8_today 6 = .ok (.idiv, 1) := by decide +kernel
theorem dX8_today_7 : decode cX8_today 7 = .ok (.ireturn, 1) := by decide +kernel
set_option maxRecDepth 20000 in
theorem ggX8_isLot_X8_in : GoodIn wsX8_isLot wsX8_in := goodIn_r _ [5] (by decide +kernel) (by decide +kernel)
set_option maxRecDepth 20000 in
theorem gX8_isLot_X8_in : GoodIn wsX8_isLot (va_wsS RX8 133 yX8_in wsX8_in) := goodIn_app (goodIn_of _ (by decide +kernel)) ggX8_isLot_X8_in
theorem dX8_isLot_0 : decode cX8_isLot 0 = .ok (.iload_n 1, 1) := by decide +kernel
theorem dX8_isLot_1 : decode cX8_isLot 1 = .ok (.iconst 0, 1) := by decide +kernel
theorem dX8_isLot_2 : decode cX8_isLot 2 = .ok (.aload_n 0, 1) := by decide +kernel
theorem dX8_isLot_3 : decode cX8_isLot 3 = .ok (.getfield 130, 3) := by decide +kernel
theorem dX8_isLot_6 : decode cX8_isLot 6 = .ok (.iconst 1, 1) := by decide +kernel
theorem dX8_isLot_7 : decode cX8_isLot 7 = .ok (.isub, 1) := by decide +kernel
theorem dX8_isLot_8 : decode cX8_isLot 8 = .ok (.invokestatic 133, 3) := by decide +kernel
theorem dX8_isLot_11 : decode cX8_isLot 11 = .ok (.ireturn, 1) := by decide +kernel
set_option maxRecDepth 20000 in
theorem ggX8_isMill_X8_in : GoodIn wsX8_isMill wsX8_in := goodIn_r _ [4] (by decide +kernel) (by decide +kernel)
set_option maxRecDepth 20000 in
theorem gX8_isMill_X8_in : GoodIn wsX8_isMill (va_wsS RX8 133 yX8_in wsX8_in) := goodIn_app (goodIn_of _ (by decide +kernel)) ggX8_isMill_X8_in
theorem dX8_isMill_0 : decode cX8_isMill 0 = .ok (.iload_n 1, 1) := by decide +kernel
theorem dX8_isMill_1 : decode cX8_isMill 1 = .ok (.iconst 0, 1) := by decide +kernel
theorem dX8_isMill_2 : decode cX8_isMill 2 = .ok (.iconst 2, 1) := by decide +kernel
theorem dX8_isMill_3 : decode cX8_isMill 3 = .ok (.invokestatic 133, 3) := by decide +kernel
theorem dX8_isMill_6 : decode cX8_isMill 6 = .ok (.ireturn, 1) := by decide +kernel
set_option maxRecDepth 20000 in
theorem ggX8_isVat_X8_in : GoodIn wsX8_isVat wsX8_in := goodIn_r _ [5] (by decide +kernel) (by decide +kernel)
set_option maxRecDepth 20000 in
theorem gX8_isVat_X8_in : GoodIn wsX8_isVat (va_wsS RX8 133 yX8_in wsX8_in) := goodIn_app (goodIn_of _ (by decide +kernel)) ggX8_isVat_X8_in
theorem dX8_isVat_0 : decode cX8_isVat 0 = .ok (.iload_n 1, 1) := by decide +kernel
theorem dX8_isVat_1 : decode cX8_isVat 1 = .ok (.iconst 0, 1) := by decide +kernel
theorem dX8_isVat_2 : decode cX8_isVat 2 = .ok (.aload_n 0, 1) := by decide +kernel
theorem dX8_isVat_3 : decode cX8_isVat 3 = .ok (.getfield 137, 3) := by decide +kernel
theorem dX8_isVat_6 : decode cX8_isVat 6 = .ok (.iconst 1, 1) := by decide +kernel
theorem dX8_isVat_7 : decode cX8_isVat 7 = .ok (.isub, 1) := by decide +kernel
theorem dX8_isVat_8 : decode cX8_isVat 8 = .ok (.invokestatic 133, 3) := by decide +kernel
theorem dX8_isVat_11 : decode cX8_isVat 11 = .ok (.ireturn, 1) := by decide +kernel
set_option maxRecDepth 20000 in
theorem ggX8_grove_X8_in : GoodIn wsX8_grove wsX8_in := goodIn_r _ [7] (by decide +kernel) (by decide +kernel)
set_option maxRecDepth 20000 in
theorem gX8_grove_X8_in : GoodIn wsX8_grove (va_wsS RX8 133 yX8_in wsX8_in) := goodIn_app (goodIn_of _ (by decide +kernel)) ggX8_grove_X8_in
theorem dX8_grove_0 : decode cX8_grove 0 = .ok (.iload_n 1, 1) := by decide +kernel
theorem dX8_grove_1 : decode cX8_grove 1 = .ok (.iconst 0, 1) := by decide +kernel
theorem dX8_grove_2 : decode cX8_grove 2 = .ok (.bipush 39, 2) := by decide +kernel
theorem dX8_grove_4 : decode cX8_grove 4 = .ok (.invokestatic 133, 3) := by decide +kernel
theorem dX8_grove_7 : decode cX8_grove 7 = .ok (.ifCond .eq 22, 3) := by decide +kernel
theorem dX8_grove_10 : decode cX8_grove 10 = .ok (.iload_n 2, 1) := by decide +kernel
theorem dX8_grove_11 : decode cX8_grove 11 = .ok (.iconst 0, 1) := by decide +kernel
theorem dX8_grove_12 : decode cX8_grove 12 = .ok (.bipush 9, 2) := by decide +kernel
theorem dX8_grove_14 : decode cX8_grove 14 = .ok (.invokestatic 133, 3) := by decide +kernel
theorem dX8_grove_17 : decode cX8_grove 17 = .ok (.ifCond .eq 12, 3) := by decide +kernel
theorem dX8_grove_20 : decode cX8_grove 20 = .ok (.aload_n 0, 1) := by decide +kernel
theorem dX8_grove_21 : decode cX8_grove 21 = .ok (.getfield 140, 3) := by decide +kernel
theorem dX8_grove_24 : decode cX8_grove 24 = .ok (.bipush 60, 2) := by decide +kernel
theorem dX8_grove_26 : decode cX8_grove 26 = .ok (.if_icmp .ne 5, 3) := by decide +kernel
theorem dX8_grove_29 : decode cX8_grove 29 = .ok (.iconst (-1), 1) := by decide +kernel
theorem dX8_grove_30 : decode cX8_grove 30 = .ok (.ireturn, 1) := by decide +kernel
theorem dX8_grove_31 : decode cX8_grove 31 = .ok (.aload_n 0, 1) := by decide +kernel
theorem dX8_grove_32 : decode cX8_grove 32 = .ok (.getfield 19, 3) := by decide +kernel
theorem dX8_grove_35 : decode cX8_grove 35 = .ok (.aload_n 0, 1) := by decide +kernel
theorem dX8_grove_36 : decode cX8_grove 36 = .ok (.getfield 140, 3) := by decide +kernel
theorem dX8_grove_39 : decode cX8_grove 39 = .ok (.iload_n 1, 1) := by decide +kernel
theorem dX8_grove_40 : decode cX8_grove 40 = .ok (.iastore, 1) := by decide +kernel
theorem dX8_grove_41 : decode cX8_grove 41 = .ok (.aload_n 0, 1) := by decide +kernel
theorem dX8_grove_42 : decode cX8_grove 42 = .ok (.getfield 23, 3) := by decide +kernel
theorem dX8_grove_45 : decode cX8_grove 45 = .ok (.aload_n 0, 1) := by decide +kernel
theorem dX8_grove_46 : decode cX8_grove 46 = .ok (.getfield 140, 3) := by decide +kernel
theorem dX8_grove_49 : decode cX8_grove 49 = .ok (.iload_n 2, 1) := by decide +kernel
theorem dX8_grove_50 : decode cX8_grove 50 = .ok (.iastore, 1) := by decide +kernel
theorem dX8_grove_51 : decode cX8_grove 51 = .ok (.aload_n 0, 1) := by decide +kernel
theorem dX8_grove_52 : decode cX8_grove 52 = .ok (.dup, 1) := by decide +kernel
theorem dX8_grove_53 : decode cX8_grove 53 = .ok (.getfield 140, 3) := by decide +kernel
theorem dX8_grove_56 : decode cX8_grove 56 = .ok (.iconst 1, 1) := by decide +kernel
theorem dX8_grove_57 : decode cX8_grove 57 = .ok (.iadd, 1) := by decide +kernel
theorem dX8_grove_58 : decode cX8_grove 58 = .ok (.putfield 140, 3) := by decide +kernel
theorem dX8_grove_61 : decode cX8_grove 61 = .ok (.aload_n 0, 1) := by decide +kernel
theorem dX8_grove_62 : decode cX8_grove 62 = .ok (.getfield 140, 3) := by decide +kernel
theorem dX8_grove_65 : decode cX8_grove 65 = .ok (.iconst 1, 1) := by decide +kernel
theorem dX8_grove_66 : decode cX8_grove 66 = .ok (.isub, 1) := by decide +kernel
theorem dX8_grove_67 : decode cX8_grove 67 = .ok (.ireturn, 1) := by decide +kernel
set_option maxRecDepth 20000 in
theorem ggX8_lot_X8_in : GoodIn wsX8_lot wsX8_in := goodIn_r _ [10] (by decide +kernel) (by decide +kernel)
set_option maxRecDepth 20000 in
theorem gX8_lot_X8_in : GoodIn wsX8_lot (va_wsS RX8 133 yX8_in wsX8_in) := goodIn_app (goodIn_of _ (by decide +kernel)) ggX8_lot_X8_in
set_option maxRecDepth 20000 in
theorem ggX8_lot_X8_today : GoodIn wsX8_lot wsX8_today := goodIn_r _ [14, 15, 16, 17, 18, 19, 20, 21, 22, 23, 24, 25, 26, 27, 28, 29, 30, 31, 32, 33, 34, 35, 36, 37, 38, 39, 40, 41, 42, 43, 44, 45, 46, 47, 48, 49, 50, 51, 52, 53, 54, 55, 56, 57, 58, 59, 60, 61, 62, 63, 64, 65, 66, 67, 68, 69] (by decide +kernel) (by decide +kernel)
set_option maxRecDepth 20000 in
theorem gX8_lot_X8_today : GoodIn wsX8_lot (wsV RX8 143 RX8 yX8_today wsX8_today) := goodIn_app (goodIn_of _ (by decide +kernel)) ggX8_lot_X8_today
theorem dX8_lot_0 : decode cX8_lot 0 = .ok (.iload_n 1, 1) := by decide +kernel
theorem dX8_lot_1 : decode cX8_lot 1 = .ok (.iconst 0, 1) := by decide +kernel
theorem dX8_lot_2 : decode cX8_lot 2 = .ok (.iconst 4, 1) := by decide +kernel
theorem dX8_lot_3 : decode cX8_lot 3 = .ok (.invokestatic 133, 3) := by decide +kernel
theorem dX8_lot_6 : decode cX8_lot 6 = .ok (.ifCond .eq 27, 3) := by decide +kernel
theorem dX8_lot_9 : decode cX8_lot 9 = .ok (.iload_n 2, 1) := by decide +kernel
theorem dX8_lot_10 : decode cX8_lot 10 = .ok (.iconst 0, 1) := by decide +kernel
theorem dX8_lot_11 : decode cX8_lot 11 = .ok (.aload_n 0, 1) := by decide +kernel
theorem dX8_lot_12 : decode cX8_lot 12 = .ok (.getfield 140, 3) := by decide +kernel
theorem dX8_lot_15 : decode cX8_lot 15 = .ok (.iconst 1, 1) := by decide +kernel
theorem dX8_lot_16 : decode cX8_lot 16 = .ok (.isub, 1) := by decide +kernel
theorem dX8_lot_17 : decode cX8_lot 17 = .ok (.invokestatic 133, 3) := by decide +kernel
theorem dX8_lot_20 : decode cX8_lot 20 = .ok (.ifCond .eq 13, 3) := by decide +kernel
theorem dX8_lot_23 : decode cX8_lot 23 = .ok (.aload_n 0, 1) := by decide +kernel
theorem dX8_lot_24 : decode cX8_lot 24 = .ok (.getfield 130, 3) := by decide +kernel
theorem dX8_lot_27 : decode cX8_lot 27 = .ok (.sipush 200, 3) := by decide +kernel
theorem dX8_lot_30 : decode cX8_lot 30 = .ok (.if_icmp .ne 5, 3) := by decide +kernel
theorem dX8_lot_33 : decode cX8_lot 33 = .ok (.iconst (-1), 1) := by decide +kernel
theorem dX8_lot_34 : decode cX8_lot 34 = .ok (.ireturn, 1) := by decide +kernel
theorem dX8_lot_35 : decode cX8_lot 35 = .ok (.aload_n 0, 1) := by decide +kernel
theorem dX8_lot_36 : decode cX8_lot 36 = .ok (.getfield 26, 3) := by decide +kernel
theorem dX8_lot_39 : decode cX8_lot 39 = .ok (.aload_n 0, 1) := by decide +kernel
theorem dX8_lot_40 : decode cX8_lot 40 = .ok (.getfield 130, 3) := by decide +kernel
theorem dX8_lot_43 : decode cX8_lot 43 = .ok (.iload_n 1, 1) := by decide +kernel
theorem dX8_lot_44 : decode cX8_lot 44 = .ok (.iastore, 1) := by decide +kernel
theorem dX8_lot_45 : decode cX8_lot 45 = .ok (.aload_n 0, 1) := by decide +kernel
theorem dX8_lot_46 : decode cX8_lot 46 = .ok (.getfield 29, 3) := by decide +kernel
theorem dX8_lot_49 : decode cX8_lot 49 = .ok (.aload_n 0, 1) := by decide +kernel
theorem dX8_lot_50 : decode cX8_lot 50 = .ok (.getfield 130, 3) := by decide +kernel
theorem dX8_lot_53 : decode cX8_lot 53 = .ok (.iload_n 2, 1) := by decide +kernel
theorem dX8_lot_54 : decode cX8_lot 54 = .ok (.iastore, 1) := by decide +kernel
theorem dX8_lot_55 : decode cX8_lot 55 = .ok (.aload_n 0, 1) := by decide +kernel
theorem dX8_lot_56 : decode cX8_lot 56 = .ok (.getfield 32, 3) := by decide +kernel
theorem dX8_lot_59 : decode cX8_lot 59 = .ok (.aload_n 0, 1) := by decide +kernel
theorem dX8_lot_60 : decode cX8_lot 60 = .ok (.getfield 130, 3) := by decide +kernel
theorem dX8_lot_63 : decode cX8_lot 63 = .ok (.aload_n 0, 1) := by decide +kernel
theorem dX8_lot_64 : decode cX8_lot 64 = .ok (.invokevirtual 143, 3) := by decide +kernel
theorem dX8_lot_67 : decode cX8_lot 67 = .ok (.iastore, 1) := by decide +kernel
theorem dX8_lot_68 : decode cX8_lot 68 = .ok (.aload_n 0, 1) := by decide +kernel
theorem dX8_lot_69 : decode cX8_lot 69 = .ok (.getfield 53, 3) := by decide +kernel
theorem dX8_lot_72 : decode cX8_lot 72 = .ok (.aload_n 0, 1) := by decide +kernel
theorem dX8_lot_73 : decode cX8_lot 73 = .ok (.getfield 130, 3) := by decide +kernel
theorem dX8_lot_76 : decode cX8_lot 76 = .ok (.iconst (-1), 1) := by decide +kernel
theorem dX8_lot_77 : decode cX8_lot 77 = .ok (.iastore, 1) := by decide +kernel
theorem dX8_lot_78 : decode cX8_lot 78 = .ok (.aload_n 0, 1) := by decide +kernel
theorem dX8_lot_79 : decode cX8_lot 79 = .ok (.dup, 1) := by decide +kernel
theorem dX8_lot_80 : decode cX8_lot 80 = .ok (.getfield 130, 3) := by decide +kernel
theorem dX8_lot_83 : decode cX8_lot 83 = .ok (.iconst 1, 1) := by decide +kernel
theorem dX8_lot_84 : decode cX8_lot 84 = .ok (.iadd, 1) := by decide +kernel
theorem dX8_lot_85 : decode cX8_lot 85 = .ok (.putfield 130, 3) := by decide +kernel
theorem dX8_lot_88 : decode cX8_lot 88 = .ok (.aload_n 0, 1) := by decide +kernel
theorem dX8_lot_89 : decode cX8_lot 89 = .ok (.getfield 130, 3) := by decide +kernel
theorem dX8_lot_92 : decode cX8_lot 92 = .ok (.iconst 1, 1) := by decide +kernel
theorem dX8_lot_93 : decode cX8_lot 93 = .ok (.isub, 1) := by decide +kernel
theorem dX8_lot_94 : decode cX8_lot 94 = .ok (.ireturn, 1) := by decide +kernel
set_option maxRecDepth 20000 in
theorem ggX8_wish_X8_isLot : GoodIn wsX8_wish wsX8_isLot := goodIn_r _ [8, 9, 10, 11, 7, 12, 13, 14, 15, 16, 17, 18, 19, 20, 21, 22, 23, 24, 25, 26, 27, 28, 29, 30, 31, 32, 33, 34, 35, 36, 37, 38, 39, 40, 41, 42, 43, 44, 45, 46, 47, 48, 49, 50, 51, 52, 53, 54, 55, 56, 57, 58, 59, 60, 61, 62, 63, 64, 65, 66] (by decide +kernel) (by decide +kernel)
set_option maxRecDepth 20000 in
theorem gX8_wish_X8_isLot : GoodIn wsX8_wish (wsV RX8 147 RX8 yX8_isLot wsX8_isLot) := goodIn_app (goodIn_of _ (by decide +kernel)) ggX8_wish_X8_isLot
theorem dX8_wish_0 : decode cX8_wish 0 = .ok (.aload_n 0, 1) := by decide +kernel
theorem dX8_wish_1 : decode cX8_wish 1 = .ok (.iload_n 1, 1) := by decide +kernel
theorem dX8_wish_2 : decode cX8_wish 2 = .ok (.invokevirtual 147, 3) := by decide +kernel
theorem dX8_wish_5 : decode cX8_wish 5 = .ok (.ifCond .eq 23, 3) := by decide +kernel
theorem dX8_wish_8 : decode cX8_wish 8 = .ok (.aload_n 0, 1) := by decide +kernel
theorem dX8_wish_9 : decode cX8_wish 9 = .ok (.getfield 26, 3) := by decide +kernel
theorem dX8_wish_12 : decode cX8_wish 12 = .ok (.iload_n 1, 1) := by decide +kernel
theorem dX8_wish_13 : decode cX8_wish 13 = .ok (.iaload, 1) := by decide +kernel
theorem dX8_wish_14 : decode cX8_wish 14 = .ok (.iconst 4, 1) := by decide +kernel
theorem dX8_wish_15 : decode cX8_wish 15 = .ok (.if_icmp .eq 13, 3) := by decide +kernel
theorem dX8_wish_18 : decode cX8_wish 18 = .ok (.aload_n 0, 1) := by decide +kernel
theorem dX8_wish_19 : decode cX8_wish 19 = .ok (.getfield 35, 3) := by decide +kernel
theorem dX8_wish_22 : decode cX8_wish 22 = .ok (.iload_n 1, 1) := by decide +kernel
theorem dX8_wish_23 : decode cX8_wish 23 = .ok (.iaload, 1) := by decide +kernel
theorem dX8_wish_24 : decode cX8_wish 24 = .ok (.iconst 2, 1) := by decide +kernel
theorem dX8_wish_25 : decode cX8_wish 25 = .ok (.if_icmp .le 5, 3) := by decide +kernel
theorem dX8_wish_28 : decode cX8_wish 28 = .ok (.iconst 0, 1) := by decide +kernel
theorem dX8_wish_29 : decode cX8_wish 29 = .ok (.ireturn, 1) := by decide +kernel
theorem dX8_wish_30 : decode cX8_wish 30 = .ok (.aload_n 0, 1) := by decide +kernel
theorem dX8_wish_31 : decode cX8_wish 31 = .ok (.getfield 56, 3) := by decide +kernel
theorem dX8_wish_34 : decode cX8_wish 34 = .ok (.iload_n 1, 1) := by decide +kernel
theorem dX8_wish_35 : decode cX8_wish 35 = .ok (.iload_n 2, 1) := by decide +kernel
theorem dX8_wish_36 : decode cX8_wish 36 = .ok (.bastore, 1) := by decide +kernel
theorem dX8_wish_37 : decode cX8_wish 37 = .ok (.iconst 1, 1) := by decide +kernel
theorem dX8_wish_38 : decode cX8_wish 38 = .ok (.ireturn, 1) := by decide +kernel
set_option maxRecDepth 20000 in
theorem ggX8_scale_X8_in : GoodIn wsX8_scale wsX8_in := goodIn_r _ [5] (by decide +kernel) (by decide +kernel)
set_option maxRecDepth 20000 in
theorem gX8_scale_X8_in : GoodIn wsX8_scale (va_wsS RX8 133 yX8_in wsX8_in) := goodIn_app (goodIn_of _ (by decide +kernel)) ggX8_scale_X8_in
theorem dX8_scale_0 : decode cX8_scale 0 = .ok (.iload_n 1, 1) := by decide +kernel
theorem dX8_scale_1 : decode cX8_scale 1 = .ok (.iconst 0, 1) := by decide +kernel
theorem dX8_scale_2 : decode cX8_scale 2 = .ok (.bipush 30, 2) := by decide +kernel
theorem dX8_scale_4 : decode cX8_scale 4 = .ok (.invokestatic 133, 3) := by decide +kernel
theorem dX8_scale_7 : decode cX8_scale 7 = .ok (.ifCond .ne 5, 3) := by decide +kernel
theorem dX8_scale_10 : decode cX8_scale 10 = .ok (.iconst 0, 1) := by decide +kernel
theorem dX8_scale_11 : decode cX8_scale 11 = .ok (.ireturn, 1) := by decide +kernel
theorem dX8_scale_12 : decode cX8_scale 12 = .ok (.aload_n 0, 1) := by decide +kernel
theorem dX8_scale_13 : decode cX8_scale 13 = .ok (.iload_n 1, 1) := by decide +kernel
theorem dX8_scale_14 : decode cX8_scale 14 = .ok (.putfield 16, 3) := by decide +kernel
theorem dX8_scale_17 : decode cX8_scale 17 = .ok (.iconst 1, 1) := by decide +kernel
theorem dX8_scale_18 : decode cX8_scale 18 = .ok (.ireturn, 1) := by decide +kernel
set_option maxRecDepth 20000 in
theorem ggX8_weigh_X8_isLot : GoodIn wsX8_weigh wsX8_isLot := goodIn_r _ [9, 10, 11, 12, 8, 13, 14, 15, 16, 17, 18, 19, 20, 21, 22, 23, 24, 25, 26, 27, 28, 29, 30, 31, 32, 33, 34, 35, 36, 37, 38, 39, 40, 41, 42, 43, 44, 45, 46, 47, 48, 49, 50, 51, 52, 53, 54, 55, 56, 57, 58, 59, 60, 61, 62, 63, 64, 65, 66, 67] (by decide +kernel) (by decide +kernel)
set_option maxRecDepth 20000 in
theorem gX8_weigh_X8_isLot : GoodIn wsX8_weigh (wsV RX8 147 RX8 yX8_isLot wsX8_isLot) := goodIn_app (goodIn_of _ (by decide +kernel)) ggX8_weigh_X8_isLot
set_option maxRecDepth 20000 in
theorem ggX8_weigh_X8_in : GoodIn wsX8_weigh wsX8_in := goodIn_r _ [13] (by decide +kernel) (by decide +kernel)
set_option maxRecDepth 20000 in
theorem gX8_weigh_X8_in : GoodIn wsX8_weigh (va_wsS RX8 133 yX8_in wsX8_in) := goodIn_app (goodIn_of _ (by decide +kernel)) ggX8_weigh_X8_in
theorem dX8_weigh_0 : decode cX8_weigh 0 = .ok (.aload_n 0, 1) := by decide +kernel
theorem dX8_weigh_1 : decode cX8_weigh 1 = .ok (.iload_n 1, 1) := by decide +kernel
theorem dX8_weigh_2 : decode cX8_weigh 2 = .ok (.invokevirtual 147, 3) := by decide +kernel
theorem dX8_weigh_5 : decode cX8_weigh 5 = .ok (.ifCond .eq 27, 3) := by decide +kernel
theorem dX8_weigh_8 : decode cX8_weigh 8 = .ok (.aload_n 0, 1) := by decide +kernel
theorem dX8_weigh_9 : decode cX8_weigh 9 = .ok (.getfield 35, 3) := by decide +kernel
theorem dX8_weigh_12 : decode cX8_weigh 12 = .ok (.iload_n 1, 1) := by decide +kernel
theorem dX8_weigh_13 : decode cX8_weigh 13 = .ok (.iaload, 1) := by decide +kernel
theorem dX8_weigh_14 : decode cX8_weigh 14 = .ok (.ifCond .ne 18, 3) := by decide +kernel
theorem dX8_weigh_17 : decode cX8_weigh 17 = .ok (.iload_n 2, 1) := by decide +kernel
theorem dX8_weigh_18 : decode cX8_weigh 18 = .ok (.iconst (-1), 1) := by decide +kernel
theorem dX8_weigh_19 : decode cX8_weigh 19 = .ok (.if_icmp .eq 15, 3) := by decide +kernel
theorem dX8_weigh_22 : decode cX8_weigh 22 = .ok (.iload_n 2, 1) := by decide +kernel
theorem dX8_weigh_23 : decode cX8_weigh 23 = .ok (.iconst 1, 1) := by decide +kernel
theorem dX8_weigh_24 : decode cX8_weigh 24 = .ok (.ldc 151, 2) := by decide +kernel
theorem dX8_weigh_26 : decode cX8_weigh 26 = .ok (.invokestatic 133, 3) := by decide +kernel
theorem dX8_weigh_29 : decode cX8_weigh 29 = .ok (.ifCond .ne 5, 3) := by decide +kernel
theorem dX8_weigh_32 : decode cX8_weigh 32 = .ok (.iconst (-1), 1) := by decide +kernel
theorem dX8_weigh_33 : decode cX8_weigh 33 = .ok (.ireturn, 1) := by decide +kernel
theorem dX8_weigh_34 : decode cX8_weigh 34 = .ok (.aload_n 0, 1) := by decide +kernel
theorem dX8_weigh_35 : decode cX8_weigh 35 = .ok (.getfield 16, 3) := by decide +kernel
theorem dX8_weigh_38 : decode cX8_weigh 38 = .ok (.ifCond .gt 6, 3) := by decide +kernel
theorem dX8_weigh_41 : decode cX8_weigh 41 = .ok (.bipush (-2), 2) := by decide +kernel
theorem dX8_weigh_43 : decode cX8_weigh 43 = .ok (.ireturn, 1) := by decide +kernel
theorem dX8_weigh_44 : decode cX8_weigh 44 = .ok (.aload_n 0, 1) := by decide +kernel
theorem dX8_weigh_45 : decode cX8_weigh 45 = .ok (.dup, 1) := by decide +kernel
theorem dX8_weigh_46 : decode cX8_weigh 46 = .ok (.getfield 16, 3) := by decide +kernel
theorem dX8_weigh_49 : decode cX8_weigh 49 = .ok (.iconst 1, 1) := by decide +kernel
theorem dX8_weigh_50 : decode cX8_weigh 50 = .ok (.isub, 1) := by decide +kernel
theorem dX8_weigh_51 : decode cX8_weigh 51 = .ok (.putfield 16, 3) := by decide +kernel
theorem dX8_weigh_54 : decode cX8_weigh 54 = .ok (.iload_n 2, 1) := by decide +kernel
theorem dX8_weigh_55 : decode cX8_weigh 55 = .ok (.iconst (-1), 1) := by decide +kernel
theorem dX8_weigh_56 : decode cX8_weigh 56 = .ok (.if_icmp .ne 7, 3) := by decide +kernel
theorem dX8_weigh_59 : decode cX8_weigh 59 = .ok (.iconst 0, 1) := by decide +kernel
theorem dX8_weigh_60 : decode cX8_weigh 60 = .ok (.goto 10, 3) := by decide +kernel
theorem dX8_weigh_63 : decode cX8_weigh 63 = .ok (.iload_n 2, 1) := by decide +kernel
theorem dX8_weigh_64 : decode cX8_weigh 64 = .ok (.bipush 10, 2) := by decide +kernel
theorem dX8_weigh_66 : decode cX8_weigh 66 = .ok (.imul, 1) := by decide +kernel
theorem dX8_weigh_67 : decode cX8_weigh 67 = .ok (.bipush 8, 2) := by decide +kernel
theorem dX8_weigh_69 : decode cX8_weigh 69 = .ok (.idiv, 1) := by decide +kernel
theorem dX8_weigh_70 : decode cX8_weigh 70 = .ok (.istore_n 3, 1) := by decide +kernel
theorem dX8_weigh_71 : decode cX8_weigh 71 = .ok (.iload_n 3, 1) := by decide +kernel
theorem dX8_weigh_72 : decode cX8_weigh 72 = .ok (.ifCond .ne 6, 3) := by decide +kernel
theorem dX8_weigh_75 : decode cX8_weigh 75 = .ok (.bipush (-3), 2) := by decide +kernel
theorem dX8_weigh_77 : decode cX8_weigh 77 = .ok (.ireturn, 1) := by decide +kernel
theorem dX8_weigh_78 : decode cX8_weigh 78 = .ok (.aload_n 0, 1) := by decide +kernel
theorem dX8_weigh_79 : decode cX8_weigh 79 = .ok (.getfield 38, 3) := by decide +kernel
theorem dX8_weigh_82 : decode cX8_weigh 82 = .ok (.iload_n 1, 1) := by decide +kernel
theorem dX8_weigh_83 : decode cX8_weigh 83 = .ok (.iload_n 3, 1) := by decide +kernel
theorem dX8_weigh_84 : decode cX8_weigh 84 = .ok (.iastore, 1) := by decide +kernel
theorem dX8_weigh_85 : decode cX8_weigh 85 = .ok (.aload_n 0, 1) := by decide +kernel
theorem dX8_weigh_86 : decode cX8_weigh 86 = .ok (.getfield 35, 3) := by decide +kernel
theorem dX8_weigh_89 : decode cX8_weigh 89 = .ok (.iload_n 1, 1) := by decide +kernel
theorem dX8_weigh_90 : decode cX8_weigh 90 = .ok (.iconst 1, 1) := by decide +kernel
theorem dX8_weigh_91 : decode cX8_weigh 91 = .ok (.iastore, 1) := by decide +kernel
theorem dX8_weigh_92 : decode cX8_weigh 92 = .ok (.iload_n 3, 1) := by decide +kernel
theorem dX8_weigh_93 : decode cX8_weigh 93 = .ok (.ireturn, 1) := by decide +kernel
set_option maxRecDepth 20000 in
theorem ggX8_sample_X8_isLot : GoodIn wsX8_sample wsX8_isLot := goodIn_r _ [8, 9, 10, 11, 7, 12, 13, 14, 15, 16, 17, 18, 19, 20, 21, 22, 23, 24, 25, 26, 27, 28, 29, 30, 31, 32, 33, 34, 35, 36, 37, 38, 39, 40, 41, 42, 43, 44, 45, 46, 47, 48, 49, 50, 51, 52, 53, 54, 55, 56, 57, 58, 59, 60, 61, 62, 63, 64, 65, 66] (by decide +kernel) (by decide +kernel)
set_option maxRecDepth 20000 in
theorem gX8_sample_X8_isLot : GoodIn wsX8_sample (wsV RX8 147 RX8 yX8_isLot wsX8_isLot) := goodIn_app (goodIn_of _ (by decide +kernel)) ggX8_sample_X8_isLot
set_option maxRecDepth 20000 in
theorem ggX8_sample_X8_in : GoodIn wsX8_sample wsX8_in := goodIn_r _ [12] (by decide +kernel) (by decide +kernel)
set_option maxRecDepth 20000 in
theorem gX8_sample_X8_in : GoodIn wsX8_sample (va_wsS RX8 133 yX8_in wsX8_in) := goodIn_app (goodIn_of _ (by decide +kernel)) ggX8_sample_X8_in
theorem dX8_sample_0 : decode cX8_sample 0 = .ok (.aload_n 0, 1) := by decide +kernel
theorem dX8_sample_1 : decode cX8_sample 1 = .ok (.iload_n 1, 1) := by decide +kernel
theorem dX8_sample_2 : decode cX8_sample 2 = .ok (.invokevirtual 147, 3) := by decide +kernel
theorem dX8_sample_5 : decode cX8_sample 5 = .ok (.ifCond .eq 35, 3) := by decide +kernel
theorem dX8_sample_8 : decode cX8_sample 8 = .ok (.aload_n 0, 1) := by decide +kernel
theorem dX8_sample_9 : decode cX8_sample 9 = .ok (.getfield 35, 3) := by decide +kernel
theorem dX8_sample_12 : decode cX8_sample 12 = .ok (.iload_n 1, 1) := by decide +kernel
theorem dX8_sample_13 : decode cX8_sample 13 = .ok (.iaload, 1) := by decide +kernel
theorem dX8_sample_14 : decode cX8_sample 14 = .ok (.iconst 1, 1) := by decide +kernel
theorem dX8_sample_15 : decode cX8_sample 15 = .ok (.if_icmp .ne 25, 3) := by decide +kernel
theorem dX8_sample_18 : decode cX8_sample 18 = .ok (.iload_n 2, 1) := by decide +kernel
theorem dX8_sample_19 : decode cX8_sample 19 = .ok (.iconst 1, 1) := by decide +kernel
theorem dX8_sample_20 : decode cX8_sample 20 = .ok (.sipush 400, 3) := by decide +kernel
theorem dX8_sample_23 : decode cX8_sample 23 = .ok (.invokestatic 133, 3) := by decide +kernel
theorem dX8_sample_26 : decode cX8_sample 26 = .ok (.ifCond .eq 14, 3) := by decide +kernel
theorem dX8_sample_29 : decode cX8_sample 29 = .ok (.iload_n 3, 1) := by decide +kernel
theorem dX8_sample_30 : decode cX8_sample 30 = .ok (.iconst 0, 1) := by decide +kernel
theorem dX8_sample_31 : decode cX8_sample 31 = .ok (.sipush 999, 3) := by decide +kernel
theorem dX8_sample_34 : decode cX8_sample 34 = .ok (.invokestatic 133, 3) := by decide +kernel
theorem dX8_sample_37 : decode cX8_sample 37 = .ok (.ifCond .ne 5, 3) := by decide +kernel
theorem dX8_sample_40 : decode cX8_sample 40 = .ok (.iconst 0, 1) := by decide +kernel
theorem dX8_sample_41 : decode cX8_sample 41 = .ok (.ireturn, 1) := by decide +kernel
theorem dX8_sample_42 : decode cX8_sample 42 = .ok (.aload_n 0, 1) := by decide +kernel
theorem dX8_sample_43 : decode cX8_sample 43 = .ok (.getfield 41, 3) := by decide +kernel
theorem dX8_sample_46 : decode cX8_sample 46 = .ok (.iload_n 1, 1) := by decide +kernel
theorem dX8_sample_47 : decode cX8_sample 47 = .ok (.iload_n 2, 1) := by decide +kernel
theorem dX8_sample_48 : decode cX8_sample 48 = .ok (.iastore, 1) := by decide +kernel
theorem dX8_sample_49 : decode cX8_sample 49 = .ok (.aload_n 0, 1) := by decide +kernel
theorem dX8_sample_50 : decode cX8_sample 50 = .ok (.getfield 44, 3) := by decide +kernel
theorem dX8_sample_53 : decode cX8_sample 53 = .ok (.iload_n 1, 1) := by decide +kernel
theorem dX8_sample_54 : decode cX8_sample 54 = .ok (.iload_n 3, 1) := by decide +kernel
theorem dX8_sample_55 : decode cX8_sample 55 = .ok (.iastore, 1) := by decide +kernel
theorem dX8_sample_56 : decode cX8_sample 56 = .ok (.aload_n 0, 1) := by decide +kernel
theorem dX8_sample_57 : decode cX8_sample 57 = .ok (.getfield 35, 3) := by decide +kernel
theorem dX8_sample_60 : decode cX8_sample 60 = .ok (.iload_n 1, 1) := by decide +kernel
theorem dX8_sample_61 : decode cX8_sample 61 = .ok (.iconst 2, 1) := by decide +kernel
theorem dX8_sample_62 : decode cX8_sample 62 = .ok (.iastore, 1) := by decide +kernel
theorem dX8_sample_63 : decode cX8_sample 63 = .ok (.iconst 1, 1) := by decide +kernel
theorem dX8_sample_64 : decode cX8_sample 64 = .ok (.ireturn, 1) := by decide +kernel
theorem dX8_isWith_0 : decode cX8_isWith 0 = .ok (.aload_n 0, 1) := by decide +kernel
theorem dX8_isWith_1 : decode cX8_isWith 1 = .ok (.getfield 26, 3) := by decide +kernel
theorem dX8_isWith_4 : decode cX8_isWith 4 = .ok (.iload_n 1, 1) := by decide +kernel
theorem dX8_isWith_5 : decode cX8_isWith 5 = .ok (.iaload, 1) := by decide +kernel
theorem dX8_isWith_6 : decode cX8_isWith 6 = .ok (.iconst 1, 1) := by decide +kernel
theorem dX8_isWith_7 : decode cX8_isWith 7 = .ok (.if_icmp .eq 32, 3) := by decide +kernel
theorem dX8_isWith_10 : decode cX8_isWith 10 = .ok (.aload_n 0, 1) := by decide +kernel
theorem dX8_isWith_11 : decode cX8_isWith 11 = .ok (.getfield 26, 3) := by decide +kernel
theorem dX8_isWith_14 : decode cX8_isWith 14 = .ok (.iload_n 1, 1) := by decide +kernel
theorem dX8_isWith_15 : decode cX8_isWith 15 = .ok (.iaload, 1) := by decide +kernel
theorem dX8_isWith_16 : decode cX8_isWith 16 = .ok (.iconst 4, 1) := by decide +kernel
theorem dX8_isWith_17 : decode cX8_isWith 17 = .ok (.if_icmp .eq 22, 3) := by decide +kernel
theorem dX8_isWith_20 : decode cX8_isWith 20 = .ok (.aload_n 0, 1) := by decide +kernel
theorem dX8_isWith_21 : decode cX8_isWith 21 = .ok (.getfield 26, 3) := by decide +kernel
theorem dX8_isWith_24 : decode cX8_isWith 24 = .ok (.iload_n 1, 1) := by decide +kernel
theorem dX8_isWith_25 : decode cX8_isWith 25 = .ok (.iaload, 1) := by decide +kernel
theorem dX8_isWith_26 : decode cX8_isWith 26 = .ok (.iconst 2, 1) := by decide +kernel
theorem dX8_isWith_27 : decode cX8_isWith 27 = .ok (.if_icmp .eq 12, 3) := by decide +kernel
theorem dX8_isWith_30 : decode cX8_isWith 30 = .ok (.aload_n 0, 1) := by decide +kernel
theorem dX8_isWith_31 : decode cX8_isWith 31 = .ok (.getfield 56, 3) := by decide +kernel
theorem dX8_isWith_34 : decode cX8_isWith 34 = .ok (.iload_n 1, 1) := by decide +kernel
theorem dX8_isWith_35 : decode cX8_isWith 35 = .ok (.baload, 1) := by decide +kernel
theorem dX8_isWith_36 : decode cX8_isWith 36 = .ok (.ifCond .eq 7, 3) := by decide +kernel
theorem dX8_isWith_39 : decode cX8_isWith 39 = .ok (.iconst 1, 1) := by decide +kernel
theorem dX8_isWith_40 : decode cX8_isWith 40 = .ok (.goto 4, 3) := by decide +kernel
theorem dX8_isWith_43 : decode cX8_isWith 43 = .ok (.iconst 0, 1) := by decide +kernel
theorem dX8_isWith_44 : decode cX8_isWith 44 = .ok (.ireturn, 1) := by decide +kernel
set_option maxRecDepth 20000 in
theorem ggX8_told_X8_isLot : GoodIn wsX8_told wsX8_isLot := goodIn_r _ [15, 16, 17, 18, 14, 19, 25, 26, 27, 28, 29, 30, 31, 32, 33, 34, 35, 36, 37, 38, 39, 40, 41, 42, 43, 44, 45, 46, 47, 48, 49, 50, 51, 52, 53, 54, 55, 56, 57, 58, 59, 60, 61, 62, 63, 64, 65, 66, 67, 68, 69, 70, 71, 72, 73, 74, 75, 76, 77, 78] (by decide +kernel) (by decide +kernel)
set_option maxRecDepth 20000 in
theorem gX8_told_X8_isLot : GoodIn wsX8_told (wsV RX8 147 RX8 yX8_isLot wsX8_isLot) := goodIn_app (goodIn_of _ (by decide +kernel)) ggX8_told_X8_isLot
set_option maxRecDepth 20000 in
theorem ggX8_told_X8_isWith : GoodIn wsX8_told wsX8_isWith := goodIn_r _ [23, 1, 24, 25, 26, 27, 28, 29, 30, 31, 32, 33, 34, 35, 36, 37, 38, 39, 40, 41, 42, 43, 44, 45, 46, 47, 48, 49, 50, 51, 52, 53, 54, 55, 56, 57, 58, 59, 60, 61, 62, 63, 64, 65, 66, 67, 68, 69, 70, 71, 72, 73, 74, 75, 76, 77, 78] (by decide +kernel) (by decide +kernel)
set_option maxRecDepth 20000 in
theorem gX8_told_X8_isWith : GoodIn wsX8_told (wsV RX8 152 RX8 yX8_isWith wsX8_isWith) := goodIn_app (goodIn_of _ (by decide +kernel)) ggX8_told_X8_isWith
theorem dX8_told_0 : decode cX8_told 0 = .ok (.aload_n 0, 1) := by decide +kernel
theorem dX8_told_1 : decode cX8_told 1 = .ok (.iload_n 1, 1) := by decide +kernel
theorem dX8_told_2 : decode cX8_told 2 = .ok (.invokevirtual 147, 3) := by decide +kernel
theorem dX8_told_5 : decode cX8_told 5 = .ok (.ifCond .ne 5, 3) := by decide +kernel
theorem dX8_told_8 : decode cX8_told 8 = .ok (.iconst (-1), 1) := by decide +kernel
theorem dX8_told_9 : decode cX8_told 9 = .ok (.ireturn, 1) := by decide +kernel
theorem dX8_told_10 : decode cX8_told 10 = .ok (.iload_n 2, 1) := by decide +kernel
theorem dX8_told_11 : decode cX8_told 11 = .ok (.tableswitch 141 0 10 #[57, 64, 71, 78, 85, 92, 99, 106, 113, 120, 127], 57) := by decide +kernel
theorem dX8_told_68 : decode cX8_told 68 = .ok (.aload_n 0, 1) := by decide +kernel
theorem dX8_told_69 : decode cX8_told 69 = .ok (.getfield 26, 3) := by decide +kernel
theorem dX8_told_72 : decode cX8_told 72 = .ok (.iload_n 1, 1) := by decide +kernel
theorem dX8_told_73 : decode cX8_told 73 = .ok (.iaload, 1) := by decide +kernel
theorem dX8_told_74 : decode cX8_told 74 = .ok (.ireturn, 1) := by decide +kernel
theorem dX8_told_75 : decode cX8_told 75 = .ok (.aload_n 0, 1) := by decide +kernel
theorem dX8_told_76 : decode cX8_told 76 = .ok (.getfield 29, 3) := by decide +kernel
theorem dX8_told_79 : decode cX8_told 79 = .ok (.iload_n 1, 1) := by decide +kernel
theorem dX8_told_80 : decode cX8_told 80 = .ok (.iaload, 1) := by decide +kernel
theorem dX8_told_81 : decode cX8_told 81 = .ok (.ireturn, 1) := by decide +kernel
theorem dX8_told_82 : decode cX8_told 82 = .ok (.aload_n 0, 1) := by decide +kernel
theorem dX8_told_83 : decode cX8_told 83 = .ok (.getfield 32, 3) := by decide +kernel
theorem dX8_told_86 : decode cX8_told 86 = .ok (.iload_n 1, 1) := by decide +kernel
theorem dX8_told_87 : decode cX8_told 87 = .ok (.iaload, 1) := by decide +kernel
theorem dX8_told_88 : decode cX8_told 88 = .ok (.ireturn, 1) := by decide +kernel
theorem dX8_told_89 : decode cX8_told 89 = .ok (.aload_n 0, 1) := by decide +kernel
theorem dX8_told_90 : decode cX8_told 90 = .ok (.getfield 35, 3) := by decide +kernel
theorem dX8_told_93 : decode cX8_told 93 = .ok (.iload_n 1, 1) := by decide +kernel
theorem dX8_told_94 : decode cX8_told 94 = .ok (.iaload, 1) := by decide +kernel
theorem dX8_told_95 : decode cX8_told 95 = .ok (.ireturn, 1) := by decide +kernel
theorem dX8_told_96 : decode cX8_told 96 = .ok (.aload_n 0, 1) := by decide +kernel
theorem dX8_told_97 : decode cX8_told 97 = .ok (.getfield 38, 3) := by decide +kernel
theorem dX8_told_100 : decode cX8_told 100 = .ok (.iload_n 1, 1) := by decide +kernel
theorem dX8_told_101 : decode cX8_told 101 = .ok (.iaload, 1) := by decide +kernel
theorem dX8_told_102 : decode cX8_told 102 = .ok (.ireturn, 1) := by decide +kernel
theorem dX8_told_103 : decode cX8_told 103 = .ok (.aload_n 0, 1) := by decide +kernel
theorem dX8_told_104 : decode cX8_told 104 = .ok (.getfield 41, 3) := by decide +kernel
theorem dX8_told_107 : decode cX8_told 107 = .ok (.iload_n 1, 1) := by decide +kernel
theorem dX8_told_108 : decode cX8_told 108 = .ok (.iaload, 1) := by decide +kernel
theorem dX8_told_109 : decode cX8_told 109 = .ok (.ireturn, 1) := by decide +kernel
theorem dX8_told_110 : decode cX8_told 110 = .ok (.aload_n 0, 1) := by decide +kernel
theorem dX8_told_111 : decode cX8_told 111 = .ok (.getfield 44, 3) := by decide +kernel
theorem dX8_told_114 : decode cX8_told 114 = .ok (.iload_n 1, 1) := by decide +kernel
theorem dX8_told_115 : decode cX8_told 115 = .ok (.iaload, 1) := by decide +kernel
theorem dX8_told_116 : decode cX8_told 116 = .ok (.ireturn, 1) := by decide +kernel
theorem dX8_told_117 : decode cX8_told 117 = .ok (.aload_n 0, 1) := by decide +kernel
theorem dX8_told_118 : decode cX8_told 118 = .ok (.getfield 47, 3) := by decide +kernel
theorem dX8_told_121 : decode cX8_told 121 = .ok (.iload_n 1, 1) := by decide +kernel
theorem dX8_told_122 : decode cX8_told 122 = .ok (.iaload, 1) := by decide +kernel
theorem dX8_told_123 : decode cX8_told 123 = .ok (.ireturn, 1) := by decide +kernel
theorem dX8_told_124 : decode cX8_told 124 = .ok (.aload_n 0, 1) := by decide +kernel
theorem dX8_told_125 : decode cX8_told 125 = .ok (.getfield 50, 3) := by decide +kernel
theorem dX8_told_128 : decode cX8_told 128 = .ok (.iload_n 1, 1) := by decide +kernel
theorem dX8_told_129 : decode cX8_told 129 = .ok (.iaload, 1) := by decide +kernel
theorem dX8_told_130 : decode cX8_told 130 = .ok (.ireturn, 1) := by decide +kernel
theorem dX8_told_131 : decode cX8_told 131 = .ok (.aload_n 0, 1) := by decide +kernel
theorem dX8_told_132 : decode cX8_told 132 = .ok (.getfield 53, 3) := by decide +kernel
theorem dX8_told_135 : decode cX8_told 135 = .ok (.iload_n 1, 1) := by decide +kernel
theorem dX8_told_136 : decode cX8_told 136 = .ok (.iaload, 1) := by decide +kernel
theorem dX8_told_137 : decode cX8_told 137 = .ok (.ireturn, 1) := by decide +kernel
theorem dX8_told_138 : decode cX8_told 138 = .ok (.aload_n 0, 1) := by decide +kernel
theorem dX8_told_139 : decode cX8_told 139 = .ok (.iload_n 1, 1) := by decide +kernel
theorem dX8_told_140 : decode cX8_told 140 = .ok (.invokevirtual 152, 3) := by decide +kernel
theorem dX8_told_143 : decode cX8_told 143 = .ok (.ifCond .eq 7, 3) := by decide +kernel
theorem dX8_told_146 : decode cX8_told 146 = .ok (.iconst 1, 1) := by decide +kernel
theorem dX8_told_147 : decode cX8_told 147 = .ok (.goto 4, 3) := by decide +kernel
theorem dX8_told_150 : decode cX8_told 150 = .ok (.iconst 0, 1) := by decide +kernel
theorem dX8_told_151 : decode cX8_told 151 = .ok (.ireturn, 1) := by decide +kernel
theorem dX8_told_152 : decode cX8_told 152 = .ok (.iconst (-1), 1) := by decide +kernel
theorem dX8_told_153 : decode cX8_told 153 = .ok (.ireturn, 1) := by decide +kernel
set_option maxRecDepth 20000 in
theorem ggX8_mill_X8_isMill : GoodIn wsX8_mill wsX8_isMill := goodIn_r _ [8, 9, 10, 7, 11] (by decide +kernel) (by decide +kernel)
set_option maxRecDepth 20000 in
theorem gX8_mill_X8_isMill : GoodIn wsX8_mill (wsV RX8 155 RX8 yX8_isMill wsX8_isMill) := goodIn_app (goodIn_of _ (by decide +kernel)) ggX8_mill_X8_isMill
set_option maxRecDepth 20000 in
theorem ggX8_mill_X8_in : GoodIn wsX8_mill wsX8_in := goodIn_r _ [11] (by decide +kernel) (by decide +kernel)
set_option maxRecDepth 20000 in
theorem gX8_mill_X8_in : GoodIn wsX8_mill (va_wsS RX8 133 yX8_in wsX8_in) := goodIn_app (goodIn_of _ (by decide +kernel)) ggX8_mill_X8_in
theorem dX8_mill_0 : decode cX8_mill 0 = .ok (.aload_n 0, 1) := by decide +kernel
theorem dX8_mill_1 : decode cX8_mill 1 = .ok (.iload_n 1, 1) := by decide +kernel
theorem dX8_mill_2 : decode cX8_mill 2 = .ok (.invokevirtual 155, 3) := by decide +kernel
theorem dX8_mill_5 : decode cX8_mill 5 = .ok (.ifCond .eq 34, 3) := by decide +kernel
theorem dX8_mill_8 : decode cX8_mill 8 = .ok (.aload_n 0, 1) := by decide +kernel
theorem dX8_mill_9 : decode cX8_mill 9 = .ok (.getfield 69, 3) := by decide +kernel
theorem dX8_mill_12 : decode cX8_mill 12 = .ok (.iload_n 1, 1) := by decide +kernel
theorem dX8_mill_13 : decode cX8_mill 13 = .ok (.iaload, 1) := by decide +kernel
theorem dX8_mill_14 : decode cX8_mill 14 = .ok (.ifCond .gt 25, 3) := by decide +kernel
theorem dX8_mill_17 : decode cX8_mill 17 = .ok (.iload_n 2, 1) := by decide +kernel
theorem dX8_mill_18 : decode cX8_mill 18 = .ok (.iconst 0, 1) := by decide +kernel
theorem dX8_mill_19 : decode cX8_mill 19 = .ok (.sipush 20000, 3) := by decide +kernel
theorem dX8_mill_22 : decode cX8_mill 22 = .ok (.invokestatic 133, 3) := by decide +kernel
theorem dX8_mill_25 : decode cX8_mill 25 = .ok (.ifCond .eq 14, 3) := by decide +kernel
theorem dX8_mill_28 : decode cX8_mill 28 = .ok (.iload_n 3, 1) := by decide +kernel
theorem dX8_mill_29 : decode cX8_mill 29 = .ok (.iconst 1, 1) := by decide +kernel
theorem dX8_mill_30 : decode cX8_mill 30 = .ok (.sipush 5000, 3) := by decide +kernel
theorem dX8_mill_33 : decode cX8_mill 33 = .ok (.invokestatic 133, 3) := by decide +kernel
theorem dX8_mill_36 : decode cX8_mill 36 = .ok (.ifCond .ne 5, 3) := by decide +kernel
theorem dX8_mill_39 : decode cX8_mill 39 = .ok (.iconst 0, 1) := by decide +kernel
theorem dX8_mill_40 : decode cX8_mill 40 = .ok (.ireturn, 1) := by decide +kernel
theorem dX8_mill_41 : decode cX8_mill 41 = .ok (.aload_n 0, 1) := by decide +kernel
theorem dX8_mill_42 : decode cX8_mill 42 = .ok (.getfield 60, 3) := by decide +kernel
theorem dX8_mill_45 : decode cX8_mill 45 = .ok (.iload_n 1, 1) := by decide +kernel
theorem dX8_mill_46 : decode cX8_mill 46 = .ok (.iload_n 2, 1) := by decide +kernel
theorem dX8_mill_47 : decode cX8_mill 47 = .ok (.iastore, 1) := by decide +kernel
theorem dX8_mill_48 : decode cX8_mill 48 = .ok (.aload_n 0, 1) := by decide +kernel
theorem dX8_mill_49 : decode cX8_mill 49 = .ok (.getfield 63, 3) := by decide +kernel
theorem dX8_mill_52 : decode cX8_mill 52 = .ok (.iload_n 1, 1) := by decide +kernel
theorem dX8_mill_53 : decode cX8_mill 53 = .ok (.iload_n 3, 1) := by decide +kernel
theorem dX8_mill_54 : decode cX8_mill 54 = .ok (.iastore, 1) := by decide +kernel
theorem dX8_mill_55 : decode cX8_mill 55 = .ok (.iconst 1, 1) := by decide +kernel
theorem dX8_mill_56 : decode cX8_mill 56 = .ok (.ireturn, 1) := by decide +kernel
theorem dX8_isMixed_0 : decode cX8_isMixed 0 = .ok (.aload_n 0, 1) := by decide +kernel
theorem dX8_isMixed_1 : decode cX8_isMixed 1 = .ok (.getfield 26, 3) := by decide +kernel
theorem dX8_isMixed_4 : decode cX8_isMixed 4 = .ok (.iload_n 1, 1) := by decide +kernel
theorem dX8_isMixed_5 : decode cX8_isMixed 5 = .ok (.iaload, 1) := by decide +kernel
theorem dX8_isMixed_6 : decode cX8_isMixed 6 = .ok (.iconst 1, 1) := by decide +kernel
theorem dX8_isMixed_7 : decode cX8_isMixed 7 = .ok (.if_icmp .eq 31, 3) := by decide +kernel
theorem dX8_isMixed_10 : decode cX8_isMixed 10 = .ok (.aload_n 0, 1) := by decide +kernel
theorem dX8_isMixed_11 : decode cX8_isMixed 11 = .ok (.getfield 26, 3) := by decide +kernel
theorem dX8_isMixed_14 : decode cX8_isMixed 14 = .ok (.iload_n 1, 1) := by decide +kernel
theorem dX8_isMixed_15 : decode cX8_isMixed 15 = .ok (.iaload, 1) := by decide +kernel
theorem dX8_isMixed_16 : decode cX8_isMixed 16 = .ok (.iconst 4, 1) := by decide +kernel
theorem dX8_isMixed_17 : decode cX8_isMixed 17 = .ok (.if_icmp .eq 21, 3) := by decide +kernel
theorem dX8_isMixed_20 : decode cX8_isMixed 20 = .ok (.aload_n 0, 1) := by decide +kernel
theorem dX8_isMixed_21 : decode cX8_isMixed 21 = .ok (.getfield 26, 3) := by decide +kernel
theorem dX8_isMixed_24 : decode cX8_isMixed 24 = .ok (.iload_n 1, 1) := by decide +kernel
theorem dX8_isMixed_25 : decode cX8_isMixed 25 = .ok (.iaload, 1) := by decide +kernel
theorem dX8_isMixed_26 : decode cX8_isMixed 26 = .ok (.ifCond .ne 16, 3) := by decide +kernel
theorem dX8_isMixed_29 : decode cX8_isMixed 29 = .ok (.aload_n 0, 1) := by decide +kernel
theorem dX8_isMixed_30 : decode cX8_isMixed 30 = .ok (.getfield 56, 3) := by decide +kernel
theorem dX8_isMixed_33 : decode cX8_isMixed 33 = .ok (.iload_n 1, 1) := by decide +kernel
theorem dX8_isMixed_34 : decode cX8_isMixed 34 = .ok (.baload, 1) := by decide +kernel
theorem dX8_isMixed_35 : decode cX8_isMixed 35 = .ok (.ifCond .eq 7, 3) := by decide +kernel
theorem dX8_isMixed_38 : decode cX8_isMixed 38 = .ok (.iconst 1, 1) := by decide +kernel
theorem dX8_isMixed_39 : decode cX8_isMixed 39 = .ok (.goto 4, 3) := by decide +kernel
theorem dX8_isMixed_42 : decode cX8_isMixed 42 = .ok (.iconst 0, 1) := by decide +kernel
theorem dX8_isMixed_43 : decode cX8_isMixed 43 = .ok (.ireturn, 1) := by decide +kernel
set_option maxRecDepth 20000 in
theorem ggX8_agree_X8_isMixed : GoodIn wsX8_agree wsX8_isMixed := goodIn_r _ [10, 1, 4, 14, 15, 16, 17, 18, 19, 20, 21, 22, 23, 24, 25, 26, 27, 28, 29, 30, 31, 32, 33, 34, 35, 36, 37, 38, 39, 40, 41, 42, 43, 44, 45, 46, 47, 48, 49, 50, 51, 52, 53, 54, 55, 56, 57, 58, 59, 60, 61, 62, 63, 64, 65, 66, 67] (by decide +kernel) (by decide +kernel)
set_option maxRecDepth 20000 in
theorem gX8_agree_X8_isMixed : GoodIn wsX8_agree (wsV RX8 158 RX8 yX8_isMixed wsX8_isMixed) := goodIn_app (goodIn_of _ (by decide +kernel)) ggX8_agree_X8_isMixed
set_option maxRecDepth 20000 in
theorem ggX8_agree_X8_in : GoodIn wsX8_agree wsX8_in := goodIn_r _ [13] (by decide +kernel) (by decide +kernel)
set_option maxRecDepth 20000 in
theorem gX8_agree_X8_in : GoodIn wsX8_agree (va_wsS RX8 133 yX8_in wsX8_in) := goodIn_app (goodIn_of _ (by decide +kernel)) ggX8_agree_X8_in
theorem dX8_agree_0 : decode cX8_agree 0 = .ok (.aload_n 0, 1) := by decide +kernel
theorem dX8_agree_1 : decode cX8_agree 1 = .ok (.getfield 26, 3) := by decide +kernel
theorem dX8_agree_4 : decode cX8_agree 4 = .ok (.iload_n 1, 1) := by decide +kernel
theorem dX8_agree_5 : decode cX8_agree 5 = .ok (.iaload, 1) := by decide +kernel
theorem dX8_agree_6 : decode cX8_agree 6 = .ok (.iconst 2, 1) := by decide +kernel
theorem dX8_agree_7 : decode cX8_agree 7 = .ok (.if_icmp .ne 44, 3) := by decide +kernel
theorem dX8_agree_10 : decode cX8_agree 10 = .ok (.aload_n 0, 1) := by decide +kernel
theorem dX8_agree_11 : decode cX8_agree 11 = .ok (.getfield 26, 3) := by decide +kernel
theorem dX8_agree_14 : decode cX8_agree 14 = .ok (.iload_n 2, 1) := by decide +kernel
theorem dX8_agree_15 : decode cX8_agree 15 = .ok (.iaload, 1) := by decide +kernel
theorem dX8_agree_16 : decode cX8_agree 16 = .ok (.iconst 2, 1) := by decide +kernel
theorem dX8_agree_17 : decode cX8_agree 17 = .ok (.if_icmp .ne 34, 3) := by decide +kernel
theorem dX8_agree_20 : decode cX8_agree 20 = .ok (.aload_n 0, 1) := by decide +kernel
theorem dX8_agree_21 : decode cX8_agree 21 = .ok (.getfield 23, 3) := by decide +kernel
theorem dX8_agree_24 : decode cX8_agree 24 = .ok (.aload_n 0, 1) := by decide +kernel
theorem dX8_agree_25 : decode cX8_agree 25 = .ok (.getfield 29, 3) := by decide +kernel
theorem dX8_agree_28 : decode cX8_agree 28 = .ok (.iload_n 1, 1) := by decide +kernel
theorem dX8_agree_29 : decode cX8_agree 29 = .ok (.iaload, 1) := by decide +kernel
theorem dX8_agree_30 : decode cX8_agree 30 = .ok (.iaload, 1) := by decide +kernel
theorem dX8_agree_31 : decode cX8_agree 31 = .ok (.aload_n 0, 1) := by decide +kernel
theorem dX8_agree_32 : decode cX8_agree 32 = .ok (.getfield 23, 3) := by decide +kernel
theorem dX8_agree_35 : decode cX8_agree 35 = .ok (.aload_n 0, 1) := by decide +kernel
theorem dX8_agree_36 : decode cX8_agree 36 = .ok (.getfield 29, 3) := by decide +kernel
theorem dX8_agree_39 : decode cX8_agree 39 = .ok (.iload_n 2, 1) := by decide +kernel
theorem dX8_agree_40 : decode cX8_agree 40 = .ok (.iaload, 1) := by decide +kernel
theorem dX8_agree_41 : decode cX8_agree 41 = .ok (.iaload, 1) := by decide +kernel
theorem dX8_agree_42 : decode cX8_agree 42 = .ok (.if_icmp .ne 7, 3) := by decide +kernel
theorem dX8_agree_45 : decode cX8_agree 45 = .ok (.iconst 1, 1) := by decide +kernel
theorem dX8_agree_46 : decode cX8_agree 46 = .ok (.goto 4, 3) := by decide +kernel
theorem dX8_agree_49 : decode cX8_agree 49 = .ok (.iconst 0, 1) := by decide +kernel
theorem dX8_agree_50 : decode cX8_agree 50 = .ok (.ireturn, 1) := by decide +kernel
theorem dX8_agree_51 : decode cX8_agree 51 = .ok (.aload_n 0, 1) := by decide +kernel
theorem dX8_agree_52 : decode cX8_agree 52 = .ok (.getfield 26, 3) := by decide +kernel
theorem dX8_agree_55 : decode cX8_agree 55 = .ok (.iload_n 1, 1) := by decide +kernel
theorem dX8_agree_56 : decode cX8_agree 56 = .ok (.iaload, 1) := by decide +kernel
theorem dX8_agree_57 : decode cX8_agree 57 = .ok (.iconst 3, 1) := by decide +kernel
theorem dX8_agree_58 : decode cX8_agree 58 = .ok (.if_icmp .ne 37, 3) := by decide +kernel
theorem dX8_agree_61 : decode cX8_agree 61 = .ok (.aload_n 0, 1) := by decide +kernel
theorem dX8_agree_62 : decode cX8_agree 62 = .ok (.getfield 26, 3) := by decide +kernel
theorem dX8_agree_65 : decode cX8_agree 65 = .ok (.iload_n 2, 1) := by decide +kernel
theorem dX8_agree_66 : decode cX8_agree 66 = .ok (.iaload, 1) := by decide +kernel
theorem dX8_agree_67 : decode cX8_agree 67 = .ok (.iconst 3, 1) := by decide +kernel
theorem dX8_agree_68 : decode cX8_agree 68 = .ok (.if_icmp .ne 27, 3) := by decide +kernel
theorem dX8_agree_71 : decode cX8_agree 71 = .ok (.aload_n 0, 1) := by decide +kernel
theorem dX8_agree_72 : decode cX8_agree 72 = .ok (.getfield 56, 3) := by decide +kernel
theorem dX8_agree_75 : decode cX8_agree 75 = .ok (.iload_n 1, 1) := by decide +kernel
theorem dX8_agree_76 : decode cX8_agree 76 = .ok (.baload, 1) := by decide +kernel
theorem dX8_agree_77 : decode cX8_agree 77 = .ok (.ifCond .eq 16, 3) := by decide +kernel
theorem dX8_agree_80 : decode cX8_agree 80 = .ok (.aload_n 0, 1) := by decide +kernel
theorem dX8_agree_81 : decode cX8_agree 81 = .ok (.getfield 56, 3) := by decide +kernel
theorem dX8_agree_84 : decode cX8_agree 84 = .ok (.iload_n 2, 1) := by decide +kernel
theorem dX8_agree_85 : decode cX8_agree 85 = .ok (.baload, 1) := by decide +kernel
theorem dX8_agree_86 : decode cX8_agree 86 = .ok (.ifCond .eq 7, 3) := by decide +kernel
