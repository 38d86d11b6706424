theorem gL_law_X7_init : GoodIn wsL_law (wsX7_init) := sorry
theorem gL_law_X8_init : GoodIn wsL_law (wsX8_init) := sorry
theorem gL_law_L_make : GoodIn wsL_law (va_wsS RL 130 yL_make wsL_make) := sorry
theorem gL_law_X8_make : GoodIn wsL_law (wsV RL 135 RX8 yX8_make wsX8_make) := sorry
theorem gL_law_L_blank : GoodIn wsL_law (va_wsS RL 139 yL_blank wsL_blank) := sorry
theorem gL_law_X8_blank : GoodIn wsL_law (wsV RL 142 RX8 yX8_blank wsX8_blank) := sorry
theorem gL_law_L_tell : GoodIn wsL_law (va_wsS RL 143 yL_tell wsL_tell) := sorry
theorem gL_law_X8_tell : GoodIn wsL_law (wsV RL 145 RX8 yX8_tell wsX8_tell) := sorry
theorem gL_law_L_inspect : GoodIn wsL_law (va_wsS RL 146 yL_inspect wsL_inspect) := sorry
theorem gL_law_X8_inspect : GoodIn wsL_law (wsV RL 148 RX8 yX8_inspect wsX8_inspect) := sorry
theorem gL_law_L_hire : GoodIn wsL_law (va_wsS RL 149 yL_hire wsL_hire) := sorry
theorem gL_law_X8_hire : GoodIn wsL_law (wsV RL 152 RX8 yX8_hire wsX8_hire) := sorry
theorem gL_law_L_leave : GoodIn wsL_law (va_wsS RL 153 yL_leave wsL_leave) := sorry
theorem gL_law_X8_leave : GoodIn wsL_law (wsV RL 155 RX8 yX8_leave wsX8_leave) := sorry
theorem gL_law_L_sell : GoodIn wsL_law (va_wsS RL 156 yL_sell wsL_sell) := sorry
theorem gL_law_X8_sell : GoodIn wsL_law (wsV RL 158 RX8 yX8_sell wsX8_sell) := sorry
theorem gL_law_L_repair : GoodIn wsL_law (va_wsS RL 159 yL_repair wsL_repair) := sorry
theorem gL_law_X8_repair : GoodIn wsL_law (wsV RL 161 RX8 yX8_repair wsX8_repair) := sorry
theorem gL_law_X7_week : GoodIn wsL_law (wsV RL 162 RX7 yX7_week wsX7_week) := sorry
theorem gL_law_X8_week : GoodIn wsL_law (wsV RL 165 RX8 yX8_week wsX8_week) := sorry
theorem gL_law_L_beltOf : GoodIn wsL_law (va_wsS RL 166 yL_beltOf wsL_beltOf) := sorry
theorem gL_law_X8_beltOf : GoodIn wsL_law (wsV RL 169 RX8 yX8_beltOf wsX8_beltOf) := sorry
theorem gL_law_L_carrier : GoodIn wsL_law (va_wsS RL 170 yL_carrier wsL_carrier) := sorry
theorem gL_law_X8_carrier : GoodIn wsL_law (wsV RL 172 RX8 yX8_carrier wsX8_carrier) := sorry
theorem gL_law_L_yawns : GoodIn wsL_law (va_wsS RL 173 yL_yawns wsL_yawns) := sorry
theorem gL_law_X8_yawns : GoodIn wsL_law (wsV RL 175 RX8 yX8_yawns wsX8_yawns) := sorry
theorem gL_law_L_passes : GoodIn wsL_law (va_wsS RL 176 yL_passes wsL_passes) := sorry
theorem gL_law_X8_passes : GoodIn wsL_law (wsV RL 178 RX8 yX8_passes wsX8_passes) := sorry
theorem gL_law_L_wouldFail : GoodIn wsL_law (va_wsS RL 179 yL_wouldFail wsL_wouldFail) := sorry
theorem gL_law_X8_wouldFail : GoodIn wsL_law (wsV RL 182 RX8 yX8_wouldFail wsX8_wouldFail) := sorry
theorem gL_law_L_wouldStamp : GoodIn wsL_law (va_wsS RL 183 yL_wouldStamp wsL_wouldStamp) := sorry
theorem gL_law_X8_wouldStamp : GoodIn wsL_law (wsV RL 185 RX8 yX8_wouldStamp wsX8_wouldStamp) := sorry
theorem gL_law_L_next : GoodIn wsL_law (va_wsS RL 186 yL_next wsL_next) := sorry
theorem gL_law_X8_next : GoodIn wsL_law (wsV RL 188 RX8 yX8_next wsX8_next) := sorry
theorem gL_law_L_leastGrey : GoodIn wsL_law (va_wsS RL 189 yL_leastGrey wsL_leastGrey) := sorry
theorem gL_law_X8_leastGrey : GoodIn wsL_law (wsV RL 191 RX8 yX8_leastGrey wsX8_leastGrey) := sorry
theorem gL_law_L_rejectOf : GoodIn wsL_law (va_wsS RL 192 yL_rejectOf wsL_rejectOf) := sorry
theorem gL_law_X8_rejectOf : GoodIn wsL_law (wsV RL 194 RX8 yX8_rejectOf wsX8_rejectOf) := sorry
theorem gL_law_L_best : GoodIn wsL_law (va_wsS RL 195 yL_best wsL_best) := sorry
theorem gL_law_X8_best : GoodIn wsL_law (wsV RL 197 RX8 yX8_best wsX8_best) := sorry
theorem gL_law_X7_allPrices : GoodIn wsL_law (wsV RL 198 RX7 yX7_allPrices wsX7_allPrices) := sorry
theorem gL_law_X8_allPrices : GoodIn wsL_law (wsV RL 201 RX8 yX8_allPrices wsX8_allPrices) := sorry
theorem gL_law_X7_bestOrder : GoodIn wsL_law (wsV RL 202 RX7 yX7_bestOrder wsX7_bestOrder) := sorry
theorem gL_law_X8_bestOrder : GoodIn wsL_law (wsV RL 205 RX8 yX8_bestOrder wsX8_bestOrder) := sorry
theorem gL_law_L_wouldMend : GoodIn wsL_law (va_wsS RL 206 yL_wouldMend wsL_wouldMend) := sorry
theorem gL_law_X8_wouldMend : GoodIn wsL_law (wsV RL 208 RX8 yX8_wouldMend wsX8_wouldMend) := sorry
theorem gL_law_L_fresh : GoodIn wsL_law (va_wsS RL 209 yL_fresh wsL_fresh) := sorry
theorem gL_law_X8_fresh : GoodIn wsL_law (wsV RL 211 RX8 yX8_fresh wsX8_fresh) := sorry
theorem gL_law_L_greyest : GoodIn wsL_law (va_wsS RL 212 yL_greyest wsL_greyest) := sorry
theorem gL_law_X8_greyest : GoodIn wsL_law (wsV RL 214 RX8 yX8_greyest wsX8_greyest) := sorry
theorem gL_law_L_line : GoodIn wsL_law (va_wsS RL 215 yL_line wsL_line) := sorry
theorem gL_law_X8_line : GoodIn wsL_law (wsV RL 217 RX8 yX8_line wsX8_line) := sorry
theorem gL_law_X7_shelfLine : GoodIn wsL_law (wsV RL 218 RX7 yX7_shelfLine wsX7_shelfLine) := sorry
theorem gL_law_X8_shelfLine : GoodIn wsL_law (wsV RL 221 RX8 yX8_shelfLine wsX8_shelfLine) := sorry
theorem gL_law_L_character : GoodIn wsL_law (va_wsS RL 222 yL_character wsL_character) := sorry
theorem gL_law_X8_character : GoodIn wsL_law (wsV RL 224 RX8 yX8_character wsX8_character) := sorry
theorem gL_law_L_append : GoodIn wsL_law (va_wsS RL 225 yL_append wsL_append) := sorry
theorem gL_law_X8_append : GoodIn wsL_law (wsV RL 228 RX8 yX8_append wsX8_append) := sorry
theorem gL_law_L_run : GoodIn wsL_law (va_wsS RL 229 yL_run wsL_run) := sorry
theorem gL_law_X8_run : GoodIn wsL_law (wsV RL 231 RX8 yX8_run wsX8_run) := sorry
theorem gL_law_X7_errorPosition : GoodIn wsL_law (wsV RL 232 RX7 yX7_errorPosition wsX7_errorPosition) := sorry
theorem gL_law_X8_errorPosition : GoodIn wsL_law (wsV RL 235 RX8 yX8_errorPosition wsX8_errorPosition) := sorry
theorem gL_law_L_refusal : GoodIn wsL_law (va_wsS RL 236 yL_refusal wsL_refusal) := sorry
theorem gL_law_X8_refusal : GoodIn wsL_law (wsV RL 239 RX8 yX8_refusal wsX8_refusal) := sorry
theorem gL_law_L_account : GoodIn wsL_law (va_wsS RL 240 yL_account wsL_account) := sorry
theorem gL_law_X8_account : GoodIn wsL_law (wsV RL 242 RX8 yX8_account wsX8_account) := sorry
theorem gL_law_X7_isWell : GoodIn wsL_law (wsV RL 243 RX7 yX7_isWell wsX7_isWell) := sorry
theorem gL_law_X8_isWell : GoodIn wsL_law (wsV RL 247 RX8 yX8_isWell wsX8_isWell) := sorry
theorem gL_law_L_meanGrey : GoodIn wsL_law (va_wsS RL 248 yL_meanGrey wsL_meanGrey) := sorry
theorem gL_law_X8_meanGrey : GoodIn wsL_law (wsV RL 251 RX8 yX8_meanGrey wsX8_meanGrey) := sorry
theorem gL_law_L_stampShare : GoodIn wsL_law (va_wsS RL 252 yL_stampShare wsL_stampShare) := sorry
theorem gL_law_X8_stampShare : GoodIn wsL_law (wsV RL 254 RX8 yX8_stampShare wsX8_stampShare) := sorry
theorem gL_law_L_undo : GoodIn wsL_law (va_wsS RL 255 yL_undo wsL_undo) := sorry
theorem gL_law_X8_undo : GoodIn wsL_law (wsV RL 257 RX8 yX8_undo wsX8_undo) := sorry
theorem gL_law_X7_save : GoodIn wsL_law (wsV RL 258 RX7 yX7_save wsX7_save) := sorry
theorem gL_law_X8_save : GoodIn wsL_law (wsV RL 261 RX8 yX8_save wsX8_save) := sorry
theorem gL_law_L_restore : GoodIn wsL_law (va_wsS RL 262 yL_restore wsL_restore) := sorry
theorem gL_law_X8_restore : GoodIn wsL_law (wsV RL 264 RX8 yX8_restore wsX8_restore) := sorry
theorem dL_law_0 : decode cL_law 0 = .ok (.new 8, 3) := sorry
theorem dL_law_3 : decode cL_law 3 = .ok (.dup, 1) := sorry
theorem dL_law_4 : decode cL_law 4 = .ok (.invokespecial 126, 3) := sorry
theorem dL_law_7 : decode cL_law 7 = .ok (.astore_n 1, 1) := sorry
theorem dL_law_8 : decode cL_law 8 = .ok (.new 127, 3) := sorry
theorem dL_law_11 : decode cL_law 11 = .ok (.dup, 1) := sorry
theorem dL_law_12 : decode cL_law 12 = .ok (.invokespecial 129, 3) := sorry
theorem dL_law_15 : decode cL_law 15 = .ok (.astore_n 2, 1) := sorry
theorem dL_law_16 : decode cL_law 16 = .ok (.iconst 1, 1) := sorry
theorem dL_law_17 : decode cL_law 17 = .ok (.newarray .long, 2) := sorry
theorem dL_law_19 : decode cL_law 19 = .ok (.astore_n 3, 1) := sorry
theorem dL_law_20 : decode cL_law 20 = .ok (.iconst 1, 1) := sorry
theorem dL_law_21 : decode cL_law 21 = .ok (.newarray .double, 2) := sorry
theorem dL_law_23 : decode cL_law 23 = .ok (.astore 4, 2) := sorry
theorem dL_law_25 : decode cL_law 25 = .ok (.iconst 0, 1) := sorry
theorem dL_law_26 : decode cL_law 26 = .ok (.istore 5, 2) := sorry
theorem dL_law_28 : decode cL_law 28 = .ok (.iload 5, 2) := sorry
theorem dL_law_30 : decode cL_law 30 = .ok (.aload_n 0, 1) := sorry
theorem dL_law_31 : decode cL_law 31 = .ok (.arraylength, 1) := sorry
theorem dL_law_32 : decode cL_law 32 = .ok (.iconst 4, 1) := sorry
theorem dL_law_33 : decode cL_law 33 = .ok (.isub, 1) := sorry
theorem dL_law_34 : decode cL_law 34 = .ok (.if_icmp .gt 2178, 3) := sorry
theorem dL_law_37 : decode cL_law 37 = .ok (.aload_n 0, 1) := sorry
theorem dL_law_38 : decode cL_law 38 = .ok (.iload 5, 2) := sorry
theorem dL_law_40 : decode cL_law 40 = .ok (.iaload, 1) := sorry
theorem dL_law_41 : decode cL_law 41 = .ok (.bipush 63, 2) := sorry
theorem dL_law_43 : decode cL_law 43 = .ok (.iand, 1) := sorry
theorem dL_law_44 : decode cL_law 44 = .ok (.tableswitch 2162 0 37 #[168, 248, 304, 384, 440, 484, 540, 596, 652, 665, 733, 813, 869, 956, 1052, 1108, 1152, 1208, 1276, 1320, 1361, 1374, 1437, 1493, 1549, 1605, 1618, 1674, 1732, 1776, 1789, 1861, 1917, 1930, 1995, 2061, 2105, 2118], 168) := sorry
theorem dL_law_212 : decode cL_law 212 = .ok (.aload_n 1, 1) := sorry
theorem dL_law_213 : decode cL_law 213 = .ok (.aload_n 0, 1) := sorry
theorem dL_law_214 : decode cL_law 214 = .ok (.iload 5, 2) := sorry
theorem dL_law_216 : decode cL_law 216 = .ok (.iconst 1, 1) := sorry
theorem dL_law_217 : decode cL_law 217 = .ok (.iadd, 1) := sorry
theorem dL_law_218 : decode cL_law 218 = .ok (.iaload, 1) := sorry
theorem dL_law_219 : decode cL_law 219 = .ok (.aload_n 0, 1) := sorry
theorem dL_law_220 : decode cL_law 220 = .ok (.iload 5, 2) := sorry
theorem dL_law_222 : decode cL_law 222 = .ok (.iconst 2, 1) := sorry
theorem dL_law_223 : decode cL_law 223 = .ok (.iadd, 1) := sorry
theorem dL_law_224 : decode cL_law 224 = .ok (.iaload, 1) := sorry
theorem dL_law_225 : decode cL_law 225 = .ok (.aload_n 0, 1) := sorry
theorem dL_law_226 : decode cL_law 226 = .ok (.iload 5, 2) := sorry
theorem dL_law_228 : decode cL_law 228 = .ok (.iconst 3, 1) := sorry
theorem dL_law_229 : decode cL_law 229 = .ok (.iadd, 1) := sorry
theorem dL_law_230 : decode cL_law 230 = .ok (.iaload, 1) := sorry
theorem dL_law_231 : decode cL_law 231 = .ok (.aload_n 3, 1) := sorry
theorem dL_law_232 : decode cL_law 232 = .ok (.invokestatic 130, 3) := sorry
theorem dL_law_235 : decode cL_law 235 = .ok (.istore 6, 2) := sorry
theorem dL_law_237 : decode cL_law 237 = .ok (.aload_n 2, 1) := sorry
theorem dL_law_238 : decode cL_law 238 = .ok (.aload_n 0, 1) := sorry
theorem dL_law_239 : decode cL_law 239 = .ok (.iload 5, 2) := sorry
theorem dL_law_241 : decode cL_law 241 = .ok (.iconst 1, 1) := sorry
theorem dL_law_242 : decode cL_law 242 = .ok (.iadd, 1) := sorry
theorem dL_law_243 : decode cL_law 243 = .ok (.iaload, 1) := sorry
theorem dL_law_244 : decode cL_law 244 = .ok (.aload_n 0, 1) := sorry
theorem dL_law_245 : decode cL_law 245 = .ok (.iload 5, 2) := sorry
theorem dL_law_247 : decode cL_law 247 = .ok (.iconst 2, 1) := sorry
theorem dL_law_248 : decode cL_law 248 = .ok (.iadd, 1) := sorry
theorem dL_law_249 : decode cL_law 249 = .ok (.iaload, 1) := sorry
theorem dL_law_250 : decode cL_law 250 = .ok (.aload_n 0, 1) := sorry
theorem dL_law_251 : decode cL_law 251 = .ok (.iload 5, 2) := sorry
theorem dL_law_253 : decode cL_law 253 = .ok (.iconst 3, 1) := sorry
theorem dL_law_254 : decode cL_law 254 = .ok (.iadd, 1) := sorry
theorem dL_law_255 : decode cL_law 255 = .ok (.iaload, 1) := sorry
theorem dL_law_256 : decode cL_law 256 = .ok (.invokevirtual 135, 3) := sorry
theorem dL_law_259 : decode cL_law 259 = .ok (.istore 7, 2) := sorry
theorem dL_law_261 : decode cL_law 261 = .ok (.aload_n 2, 1) := sorry
theorem dL_law_262 : decode cL_law 262 = .ok (.invokevirtual 136, 3) := sorry
theorem dL_law_265 : decode cL_law 265 = .ok (.iload 6, 2) := sorry
theorem dL_law_267 : decode cL_law 267 = .ok (.if_icmp .eq 5, 3) := sorry
theorem dL_law_270 : decode cL_law 270 = .ok (.iconst 0, 1) := sorry
theorem dL_law_271 : decode cL_law 271 = .ok (.ireturn, 1) := sorry
theorem dL_law_272 : decode cL_law 272 = .ok (.iload 6, 2) := sorry
theorem dL_law_274 : decode cL_law 274 = .ok (.ifCond .ne 15, 3) := sorry
theorem dL_law_277 : decode cL_law 277 = .ok (.aload_n 3, 1) := sorry
theorem dL_law_278 : decode cL_law 278 = .ok (.iconst 0, 1) := sorry
theorem dL_law_279 : decode cL_law 279 = .ok (.laload, 1) := sorry
theorem dL_law_280 : decode cL_law 280 = .ok (.iload 7, 2) := sorry
theorem dL_law_282 : decode cL_law 282 = .ok (.i2l, 1) := sorry
theorem dL_law_283 : decode cL_law 283 = .ok (.lcmp, 1) := sorry
theorem dL_law_284 : decode cL_law 284 = .ok (.ifCond .eq 5, 3) := sorry
theorem dL_law_287 : decode cL_law 287 = .ok (.iconst 0, 1) := sorry
theorem dL_law_288 : decode cL_law 288 = .ok (.ireturn, 1) := sorry
theorem dL_law_289 : decode cL_law 289 = .ok (.goto 1917, 3) := sorry
theorem dL_law_292 : decode cL_law 292 = .ok (.aload_n 1, 1) := sorry
theorem dL_law_293 : decode cL_law 293 = .ok (.aload_n 0, 1) := sorry
theorem dL_law_294 : decode cL_law 294 = .ok (.iload 5, 2) := sorry
theorem dL_law_296 : decode cL_law 296 = .ok (.iconst 1, 1) := sorry
theorem dL_law_297 : decode cL_law 297 = .ok (.iadd, 1) := sorry
theorem dL_law_298 : decode cL_law 298 = .ok (.iaload, 1) := sorry
theorem dL_law_299 : decode cL_law 299 = .ok (.aload_n 3, 1) := sorry
theorem dL_law_300 : decode cL_law 300 = .ok (.invokestatic 139, 3) := sorry
theorem dL_law_303 : decode cL_law 303 = .ok (.istore 6, 2) := sorry
theorem dL_law_305 : decode cL_law 305 = .ok (.aload_n 2, 1) := sorry
theorem dL_law_306 : decode cL_law 306 = .ok (.aload_n 0, 1) := sorry
theorem dL_law_307 : decode cL_law 307 = .ok (.iload 5, 2) := sorry
theorem dL_law_309 : decode cL_law 309 = .ok (.iconst 1, 1) := sorry
theorem dL_law_310 : decode cL_law 310 = .ok (.iadd, 1) := sorry
theorem dL_law_311 : decode cL_law 311 = .ok (.iaload, 1) := sorry
theorem dL_law_312 : decode cL_law 312 = .ok (.invokevirtual 142, 3) := sorry
theorem dL_law_315 : decode cL_law 315 = .ok (.istore 7, 2) := sorry
theorem dL_law_317 : decode cL_law 317 = .ok (.aload_n 2, 1) := sorry
theorem dL_law_318 : decode cL_law 318 = .ok (.invokevirtual 136, 3) := sorry
theorem dL_law_321 : decode cL_law 321 = .ok (.iload 6, 2) := sorry
theorem dL_law_323 : decode cL_law 323 = .ok (.if_icmp .eq 5, 3) := sorry
theorem dL_law_326 : decode cL_law 326 = .ok (.iconst 0, 1) := sorry
theorem dL_law_327 : decode cL_law 327 = .ok (.ireturn, 1) := sorry
theorem dL_law_328 : decode cL_law 328 = .ok (.iload 6, 2) := sorry
theorem dL_law_330 : decode cL_law 330 = .ok (.ifCond .ne 15, 3) := sorry
theorem dL_law_333 : decode cL_law 333 = .ok (.aload_n 3, 1) := sorry
theorem dL_law_334 : decode cL_law 334 = .ok (.iconst 0, 1) := sorry
theorem dL_law_335 : decode cL_law 335 = .ok (.laload, 1) := sorry
theorem dL_law_336 : decode cL_law 336 = .ok (.iload 7, 2) := sorry
theorem dL_law_338 : decode cL_law 338 = .ok (.i2l, 1) := sorry
theorem dL_law_339 : decode cL_law 339 = .ok (.lcmp, 1) := sorry
theorem dL_law_340 : decode cL_law 340 = .ok (.ifCond .eq 5, 3) := sorry
theorem dL_law_343 : decode cL_law 343 = .ok (.iconst 0, 1) := sorry
theorem dL_law_344 : decode cL_law 344 = .ok (.ireturn, 1) := sorry
theorem dL_law_345 : decode cL_law 345 = .ok (.goto 1861, 3) := sorry
theorem dL_law_348 : decode cL_law 348 = .ok (.aload_n 1, 1) := sorry
theorem dL_law_349 : decode cL_law 349 = .ok (.aload_n 0, 1) := sorry
theorem dL_law_350 : decode cL_law 350 = .ok (.iload 5, 2) := sorry
theorem dL_law_352 : decode cL_law 352 = .ok (.iconst 1, 1) := sorry
theorem dL_law_353 : decode cL_law 353 = .ok (.iadd, 1) := sorry
theorem dL_law_354 : decode cL_law 354 = .ok (.iaload, 1) := sorry
theorem dL_law_355 : decode cL_law 355 = .ok (.aload_n 0, 1) := sorry
theorem dL_law_356 : decode cL_law 356 = .ok (.iload 5, 2) := sorry
theorem dL_law_358 : decode cL_law 358 = .ok (.iconst 2, 1) := sorry
theorem dL_law_359 : decode cL_law 359 = .ok (.iadd, 1) := sorry
theorem dL_law_360 : decode cL_law 360 = .ok (.iaload, 1) := sorry
theorem dL_law_361 : decode cL_law 361 = .ok (.aload_n 0, 1) := sorry
theorem dL_law_362 : decode cL_law 362 = .ok (.iload 5, 2) := sorry
theorem dL_law_364 : decode cL_law 364 = .ok (.iconst 3, 1) := sorry
theorem dL_law_365 : decode cL_law 365 = .ok (.iadd, 1) := sorry
theorem dL_law_366 : decode cL_law 366 = .ok (.iaload, 1) := sorry
theorem dL_law_367 : decode cL_law 367 = .ok (.aload_n 3, 1) := sorry
theorem dL_law_368 : decode cL_law 368 = .ok (.invokestatic 143, 3) := sorry
theorem dL_law_371 : decode cL_law 371 = .ok (.istore 6, 2) := sorry
theorem dL_law_373 : decode cL_law 373 = .ok (.aload_n 2, 1) := sorry
theorem dL_law_374 : decode cL_law 374 = .ok (.aload_n 0, 1) := sorry
theorem dL_law_375 : decode cL_law 375 = .ok (.iload 5, 2) := sorry
theorem dL_law_377 : decode cL_law 377 = .ok (.iconst 1, 1) := sorry
theorem dL_law_378 : decode cL_law 378 = .ok (.iadd, 1) := sorry
theorem dL_law_379 : decode cL_law 379 = .ok (.iaload, 1) := sorry
theorem dL_law_380 : decode cL_law 380 = .ok (.aload_n 0, 1) := sorry
theorem dL_law_381 : decode cL_law 381 = .ok (.iload 5, 2) := sorry
theorem dL_law_383 : decode cL_law 383 = .ok (.iconst 2, 1) := sorry
theorem dL_law_384 : decode cL_law 384 = .ok (.iadd, 1) := sorry
theorem dL_law_385 : decode cL_law 385 = .ok (.iaload, 1) := sorry
theorem dL_law_386 : decode cL_law 386 = .ok (.aload_n 0, 1) := sorry
theorem dL_law_387 : decode cL_law 387 = .ok (.iload 5, 2) := sorry
theorem dL_law_389 : decode cL_law 389 = .ok (.iconst 3, 1) := sorry
theorem dL_law_390 : decode cL_law 390 = .ok (.iadd, 1) := sorry
theorem dL_law_391 : decode cL_law 391 = .ok (.iaload, 1) := sorry
theorem dL_law_392 : decode cL_law 392 = .ok (.invokevirtual 145, 3) := sorry
theorem dL_law_395 : decode cL_law 395 = .ok (.istore 7, 2) := sorry
theorem dL_law_397 : decode cL_law 397 = .ok (.aload_n 2, 1) := sorry
theorem dL_law_398 : decode cL_law 398 = .ok (.invokevirtual 136, 3) := sorry
theorem dL_law_401 : decode cL_law 401 = .ok (.iload 6, 2) := sorry
theorem dL_law_403 : decode cL_law 403 = .ok (.if_icmp .eq 5, 3) := sorry
theorem dL_law_406 : decode cL_law 406 = .ok (.iconst 0, 1) := sorry
theorem dL_law_407 : decode cL_law 407 = .ok (.ireturn, 1) := sorry
theorem dL_law_408 : decode cL_law 408 = .ok (.iload 6, 2) := sorry
theorem dL_law_410 : decode cL_law 410 = .ok (.ifCond .ne 15, 3) := sorry
theorem dL_law_413 : decode cL_law 413 = .ok (.aload_n 3, 1) := sorry
theorem dL_law_414 : decode cL_law 414 = .ok (.iconst 0, 1) := sorry
theorem dL_law_415 : decode cL_law 415 = .ok (.laload, 1) := sorry
theorem dL_law_416 : decode cL_law 416 = .ok (.iload 7, 2) := sorry
theorem dL_law_418 : decode cL_law 418 = .ok (.i2l, 1) := sorry
theorem dL_law_419 : decode cL_law 419 = .ok (.lcmp, 1) := sorry
theorem dL_law_420 : decode cL_law 420 = .ok (.ifCond .eq 5, 3) := sorry
theorem dL_law_423 : decode cL_law 423 = .ok (.iconst 0, 1) := sorry
theorem dL_law_424 : decode cL_law 424 = .ok (.ireturn, 1) := sorry
theorem dL_law_425 : decode cL_law 425 = .ok (.goto 1781, 3) := sorry
theorem dL_law_428 : decode cL_law 428 = .ok (.aload_n 1, 1) := sorry
theorem dL_law_429 : decode cL_law 429 = .ok (.aload_n 0, 1) := sorry
theorem dL_law_430 : decode cL_law 430 = .ok (.iload 5, 2) := sorry
theorem dL_law_432 : decode cL_law 432 = .ok (.iconst 1, 1) := sorry
theorem dL_law_433 : decode cL_law 433 = .ok (.iadd, 1) := sorry
theorem dL_law_434 : decode cL_law 434 = .ok (.iaload, 1) := sorry
theorem dL_law_435 : decode cL_law 435 = .ok (.aload_n 3, 1) := sorry
theorem dL_law_436 : decode cL_law 436 = .ok (.invokestatic 146, 3) := sorry
theorem dL_law_439 : decode cL_law 439 = .ok (.istore 6, 2) := sorry
theorem dL_law_441 : decode cL_law 441 = .ok (.aload_n 2, 1) := sorry
theorem dL_law_442 : decode cL_law 442 = .ok (.aload_n 0, 1) := sorry
theorem dL_law_443 : decode cL_law 443 = .ok (.iload 5, 2) := sorry
theorem dL_law_445 : decode cL_law 445 = .ok (.iconst 1, 1) := sorry
theorem dL_law_446 : decode cL_law 446 = .ok (.iadd, 1) := sorry
theorem dL_law_447 : decode cL_law 447 = .ok (.iaload, 1) := sorry
theorem dL_law_448 : decode cL_law 448 = .ok (.invokevirtual 148, 3) := sorry
theorem dL_law_451 : decode cL_law 451 = .ok (.istore 7, 2) := sorry
theorem dL_law_453 : decode cL_law 453 = .ok (.aload_n 2, 1) := sorry
theorem dL_law_454 : decode cL_law 454 = .ok (.invokevirtual 136, 3) := sorry
theorem dL_law_457 : decode cL_law 457 = .ok (.iload 6, 2) := sorry
theorem dL_law_459 : decode cL_law 459 = .ok (.if_icmp .eq 5, 3) := sorry
theorem dL_law_462 : decode cL_law 462 = .ok (.iconst 0, 1) := sorry
theorem dL_law_463 : decode cL_law 463 = .ok (.ireturn, 1) := sorry
theorem dL_law_464 : decode cL_law 464 = .ok (.iload 6, 2) := sorry
theorem dL_law_466 : decode cL_law 466 = .ok (.ifCond .ne 15, 3) := sorry
theorem dL_law_469 : decode cL_law 469 = .ok (.aload_n 3, 1) := sorry
theorem dL_law_470 : decode cL_law 470 = .ok (.iconst 0, 1) := sorry
theorem dL_law_471 : decode cL_law 471 = .ok (.laload, 1) := sorry
theorem dL_law_472 : decode cL_law 472 = .ok (.iload 7, 2) := sorry
theorem dL_law_474 : decode cL_law 474 = .ok (.i2l, 1) := sorry
theorem dL_law_475 : decode cL_law 475 = .ok (.lcmp, 1) := sorry
theorem dL_law_476 : decode cL_law 476 = .ok (.ifCond .eq 5, 3) := sorry
theorem dL_law_479 : decode cL_law 479 = .ok (.iconst 0, 1) := sorry
theorem dL_law_480 : decode cL_law 480 = .ok (.ireturn, 1) := sorry
theorem dL_law_481 : decode cL_law 481 = .ok (.goto 1725, 3) := sorry
theorem dL_law_484 : decode cL_law 484 = .ok (.aload_n 1, 1) := sorry
theorem dL_law_485 : decode cL_law 485 = .ok (.aload_n 3, 1) := sorry
theorem dL_law_486 : decode cL_law 486 = .ok (.invokestatic 149, 3) := sorry
theorem dL_law_489 : decode cL_law 489 = .ok (.istore 6, 2) := sorry
theorem dL_law_491 : decode cL_law 491 = .ok (.aload_n 2, 1) := sorry
theorem dL_law_492 : decode cL_law 492 = .ok (.invokevirtual 152, 3) := sorry
theorem dL_law_495 : decode cL_law 495 = .ok (.istore 7, 2) := sorry
theorem dL_law_497 : decode cL_law 497 = .ok (.aload_n 2, 1) := sorry
theorem dL_law_498 : decode cL_law 498 = .ok (.invokevirtual 136, 3) := sorry
theorem dL_law_501 : decode cL_law 501 = .ok (.iload 6, 2) := sorry
theorem dL_law_503 : decode cL_law 503 = .ok (.if_icmp .eq 5, 3) := sorry
theorem dL_law_506 : decode cL_law 506 = .ok (.iconst 0, 1) := sorry
theorem dL_law_507 : decode cL_law 507 = .ok (.ireturn, 1) := sorry
theorem dL_law_508 : decode cL_law 508 = .ok (.iload 6, 2) := sorry
theorem dL_law_510 : decode cL_law 510 = .ok (.ifCond .ne 15, 3) := sorry
theorem dL_law_513 : decode cL_law 513 = .ok (.aload_n 3, 1) := sorry
theorem dL_law_514 : decode cL_law 514 = .ok (.iconst 0, 1) := sorry
theorem dL_law_515 : decode cL_law 515 = .ok (.laload, 1) := sorry
theorem dL_law_516 : decode cL_law 516 = .ok (.iload 7, 2) := sorry
theorem dL_law_518 : decode cL_law 518 = .ok (.i2l, 1) := sorry
theorem dL_law_519 : decode cL_law 519 = .ok (.lcmp, 1) := sorry
theorem dL_law_520 : decode cL_law 520 = .ok (.ifCond .eq 5, 3) := sorry
theorem dL_law_523 : decode cL_law 523 = .ok (.iconst 0, 1) := sorry
theorem dL_law_524 : decode cL_law 524 = .ok (.ireturn, 1) := sorry
theorem dL_law_525 : decode cL_law 525 = .ok (.goto 1681, 3) := sorry
theorem dL_law_528 : decode cL_law 528 = .ok (.aload_n 1, 1) := sorry
theorem dL_law_529 : decode cL_law 529 = .ok (.aload_n 0, 1) := sorry
theorem dL_law_530 : decode cL_law 530 = .ok (.iload 5, 2) := sorry
theorem dL_law_532 : decode cL_law 532 = .ok (.iconst 1, 1) := sorry
theorem dL_law_533 : decode cL_law 533 = .ok (.iadd, 1) := sorry
theorem dL_law_534 : decode cL_law 534 = .ok (.iaload, 1) := sorry
theorem dL_law_535 : decode cL_law 535 = .ok (.aload_n 3, 1) := sorry
theorem dL_law_536 : decode cL_law 536 = .ok (.invokestatic 153, 3) := sorry
theorem dL_law_539 : decode cL_law 539 = .ok (.istore 6, 2) := sorry
theorem dL_law_541 : decode cL_law 541 = .ok (.aload_n 2, 1) := sorry
theorem dL_law_542 : decode cL_law 542 = .ok (.aload_n 0, 1) := sorry
theorem dL_law_543 : decode cL_law 543 = .ok (.iload 5, 2) := sorry
theorem dL_law_545 : decode cL_law 545 = .ok (.iconst 1, 1) := sorry
theorem dL_law_546 : decode cL_law 546 = .ok (.iadd, 1) := sorry
theorem dL_law_547 : decode cL_law 547 = .ok (.iaload, 1) := sorry
theorem dL_law_548 : decode cL_law 548 = .ok (.invokevirtual 155, 3) := sorry
theorem dL_law_551 : decode cL_law 551 = .ok (.istore 7, 2) := sorry
theorem dL_law_553 : decode cL_law 553 = .ok (.aload_n 2, 1) := sorry
theorem dL_law_554 : decode cL_law 554 = .ok (.invokevirtual 136, 3) := sorry
theorem dL_law_557 : decode cL_law 557 = .ok (.iload 6, 2) := sorry
theorem dL_law_559 : decode cL_law 559 = .ok (.if_icmp .eq 5, 3) := sorry
theorem dL_law_562 : decode cL_law 562 = .ok (.iconst 0, 1) := sorry
theorem dL_law_563 : decode cL_law 563 = .ok (.ireturn, 1) := sorry
theorem dL_law_564 : decode cL_law 564 = .ok (.iload 6, 2) := sorry
theorem dL_law_566 : decode cL_law 566 = .ok (.ifCond .ne 15, 3) := sorry
theorem dL_law_569 : decode cL_law 569 = .ok (.aload_n 3, 1) := sorry
theorem dL_law_570 : decode cL_law 570 = .ok (.iconst 0, 1) := sorry
theorem dL_law_571 : decode cL_law 571 = .ok (.laload, 1) := sorry
theorem dL_law_572 : decode cL_law 572 = .ok (.iload 7, 2) := sorry
theorem dL_law_574 : decode cL_law 574 = .ok (.i2l, 1) := sorry
theorem dL_law_575 : decode cL_law 575 = .ok (.lcmp, 1) := sorry
theorem dL_law_576 : decode cL_law 576 = .ok (.ifCond .eq 5, 3) := sorry
theorem dL_law_579 : decode cL_law 579 = .ok (.iconst 0, 1) := sorry
theorem dL_law_580 : decode cL_law 580 = .ok (.ireturn, 1) := sorry
theorem dL_law_581 : decode cL_law 581 = .ok (.goto 1625, 3) := sorry
theorem dL_law_584 : decode cL_law 584 = .ok (.aload_n 1, 1) := sorry
theorem dL_law_585 : decode cL_law 585 = .ok (.aload_n 0, 1) := sorry
theorem dL_law_586 : decode cL_law 586 = .ok (.iload 5, 2) := sorry
theorem dL_law_588 : decode cL_law 588 = .ok (.iconst 1, 1) := sorry
theorem dL_law_589 : decode cL_law 589 = .ok (.iadd, 1) := sorry
theorem dL_law_590 : decode cL_law 590 = .ok (.iaload, 1) := sorry
theorem dL_law_591 : decode cL_law 591 = .ok (.aload_n 3, 1) := sorry
theorem dL_law_592 : decode cL_law 592 = .ok (.invokestatic 156, 3) := sorry
theorem dL_law_595 : decode cL_law 595 = .ok (.istore 6, 2) := sorry
theorem dL_law_597 : decode cL_law 597 = .ok (.aload_n 2, 1) := sorry
theorem dL_law_598 : decode cL_law 598 = .ok (.aload_n 0, 1) := sorry
theorem dL_law_599 : decode cL_law 599 = .ok (.iload 5, 2) := sorry
theorem dL_law_601 : decode cL_law 601 = .ok (.iconst 1, 1) := sorry
theorem dL_law_602 : decode cL_law 602 = .ok (.iadd, 1) := sorry
theorem dL_law_603 : decode cL_law 603 = .ok (.iaload, 1) := sorry
theorem dL_law_604 : decode cL_law 604 = .ok (.invokevirtual 158, 3) := sorry
theorem dL_law_607 : decode cL_law 607 = .ok (.istore 7, 2) := sorry
theorem dL_law_609 : decode cL_law 609 = .ok (.aload_n 2, 1) := sorry
theorem dL_law_610 : decode cL_law 610 = .ok (.invokevirtual 136, 3) := sorry
theorem dL_law_613 : decode cL_law 613 = .ok (.iload 6, 2) := sorry
theorem dL_law_615 : decode cL_law 615 = .ok (.if_icmp .eq 5, 3) := sorry
theorem dL_law_618 : decode cL_law 618 = .ok (.iconst 0, 1) := sorry
theorem dL_law_619 : decode cL_law 619 = .ok (.ireturn, 1) := sorry
theorem dL_law_620 : decode cL_law 620 = .ok (.iload 6, 2) := sorry
theorem dL_law_622 : decode cL_law 622 = .ok (.ifCond .ne 15, 3) := sorry
theorem dL_law_625 : decode cL_law 625 = .ok (.aload_n 3, 1) := sorry
theorem dL_law_626 : decode cL_law 626 = .ok (.iconst 0, 1) := sorry
theorem dL_law_627 : decode cL_law 627 = .ok (.laload, 1) := sorry
theorem dL_law_628 : decode cL_law 628 = .ok (.iload 7, 2) := sorry
theorem dL_law_630 : decode cL_law 630 = .ok (.i2l, 1) := sorry
theorem dL_law_631 : decode cL_law 631 = .ok (.lcmp, 1) := sorry
theorem dL_law_632 : decode cL_law 632 = .ok (.ifCond .eq 5, 3) := sorry
theorem dL_law_635 : decode cL_law 635 = .ok (.iconst 0, 1) := sorry
theorem dL_law_636 : decode cL_law 636 = .ok (.ireturn, 1) := sorry
theorem dL_law_637 : decode cL_law 637 = .ok (.goto 1569, 3) := sorry
theorem dL_law_640 : decode cL_law 640 = .ok (.aload_n 1, 1) := sorry
theorem dL_law_641 : decode cL_law 641 = .ok (.aload_n 0, 1) := sorry
theorem dL_law_642 : decode cL_law 642 = .ok (.iload 5, 2) := sorry
theorem dL_law_644 : decode cL_law 644 = .ok (.iconst 1, 1) := sorry
theorem dL_law_645 : decode cL_law 645 = .ok (.iadd, 1) := sorry
theorem dL_law_646 : decode cL_law 646 = .ok (.iaload, 1) := sorry
theorem dL_law_647 : decode cL_law 647 = .ok (.aload_n 3, 1) := sorry
theorem dL_law_648 : decode cL_law 648 = .ok (.invokestatic 159, 3) := sorry
theorem dL_law_651 : decode cL_law 651 = .ok (.istore 6, 2) := sorry
theorem dL_law_653 : decode cL_law 653 = .ok (.aload_n 2, 1) := sorry
theorem dL_law_654 : decode cL_law 654 = .ok (.aload_n 0, 1) := sorry
theorem dL_law_655 : decode cL_law 655 = .ok (.iload 5, 2) := sorry
theorem dL_law_657 : decode cL_law 657 = .ok (.iconst 1, 1) := sorry
theorem dL_law_658 : decode cL_law 658 = .ok (.iadd, 1) := sorry
theorem dL_law_659 : decode cL_law 659 = .ok (.iaload, 1) := sorry
theorem dL_law_660 : decode cL_law 660 = .ok (.invokevirtual 161, 3) := sorry
theorem dL_law_663 : decode cL_law 663 = .ok (.istore 7, 2) := sorry
theorem dL_law_665 : decode cL_law 665 = .ok (.aload_n 2, 1) := sorry
theorem dL_law_666 : decode cL_law 666 = .ok (.invokevirtual 136, 3) := sorry
theorem dL_law_669 : decode cL_law 669 = .ok (.iload 6, 2) := sorry
theorem dL_law_671 : decode cL_law 671 = .ok (.if_icmp .eq 5, 3) := sorry
theorem dL_law_674 : decode cL_law 674 = .ok (.iconst 0, 1) := sorry
theorem dL_law_675 : decode cL_law 675 = .ok (.ireturn, 1) := sorry
theorem dL_law_676 : decode cL_law 676 = .ok (.iload 6, 2) := sorry
theorem dL_law_678 : decode cL_law 678 = .ok (.ifCond .ne 15, 3) := sorry
theorem dL_law_681 : decode cL_law 681 = .ok (.aload_n 3, 1) := sorry
theorem dL_law_682 : decode cL_law 682 = .ok (.iconst 0, 1) := sorry
theorem dL_law_683 : decode cL_law 683 = .ok (.laload, 1) := sorry
theorem dL_law_684 : decode cL_law 684 = .ok (.iload 7, 2) := sorry
theorem dL_law_686 : decode cL_law 686 = .ok (.i2l, 1) := sorry
theorem dL_law_687 : decode cL_law 687 = .ok (.lcmp, 1) := sorry
theorem dL_law_688 : decode cL_law 688 = .ok (.ifCond .eq 5, 3) := sorry
theorem dL_law_691 : decode cL_law 691 = .ok (.iconst 0, 1) := sorry
theorem dL_law_692 : decode cL_law 692 = .ok (.ireturn, 1) := sorry
theorem dL_law_693 : decode cL_law 693 = .ok (.goto 1513, 3) := sorry
theorem dL_law_696 : decode cL_law 696 = .ok (.aload_n 1, 1) := sorry
theorem dL_law_697 : decode cL_law 697 = .ok (.invokevirtual 162, 3) := sorry
theorem dL_law_700 : decode cL_law 700 = .ok (.aload_n 2, 1) := sorry
theorem dL_law_701 : decode cL_law 701 = .ok (.invokevirtual 165, 3) := sorry
theorem dL_law_704 : decode cL_law 704 = .ok (.if_icmp .eq 1502, 3) := sorry
theorem dL_law_707 : decode cL_law 707 = .ok (.iconst 0, 1) := sorry
theorem dL_law_708 : decode cL_law 708 = .ok (.ireturn, 1) := sorry
theorem dL_law_709 : decode cL_law 709 = .ok (.aload_n 1, 1) := sorry
theorem dL_law_710 : decode cL_law 710 = .ok (.aload_n 0, 1) := sorry
theorem dL_law_711 : decode cL_law 711 = .ok (.iload 5, 2) := sorry
theorem dL_law_713 : decode cL_law 713 = .ok (.iconst 1, 1) := sorry
theorem dL_law_714 : decode cL_law 714 = .ok (.iadd, 1) := sorry
theorem dL_law_715 : decode cL_law 715 = .ok (.iaload, 1) := sorry
theorem dL_law_716 : decode cL_law 716 = .ok (.aload_n 0, 1) := sorry
theorem dL_law_717 : decode cL_law 717 = .ok (.iload 5, 2) := sorry
theorem dL_law_719 : decode cL_law 719 = .ok (.iconst 2, 1) := sorry
theorem dL_law_720 : decode cL_law 720 = .ok (.iadd, 1) := sorry
theorem dL_law_721 : decode cL_law 721 = .ok (.iaload, 1) := sorry
theorem dL_law_722 : decode cL_law 722 = .ok (.aload_n 3, 1) := sorry
theorem dL_law_723 : decode cL_law 723 = .ok (.invokestatic 166, 3) := sorry
theorem dL_law_726 : decode cL_law 726 = .ok (.istore 6, 2) := sorry
theorem dL_law_728 : decode cL_law 728 = .ok (.aload_n 2, 1) := sorry
theorem dL_law_729 : decode cL_law 729 = .ok (.aload_n 0, 1) := sorry
theorem dL_law_730 : decode cL_law 730 = .ok (.iload 5, 2) := sorry
theorem dL_law_732 : decode cL_law 732 = .ok (.iconst 1, 1) := sorry
theorem dL_law_733 : decode cL_law 733 = .ok (.iadd, 1) := sorry
theorem dL_law_734 : decode cL_law 734 = .ok (.iaload, 1) := sorry
theorem dL_law_735 : decode cL_law 735 = .ok (.aload_n 0, 1) := sorry
theorem dL_law_736 : decode cL_law 736 = .ok (.iload 5, 2) := sorry
theorem dL_law_738 : decode cL_law 738 = .ok (.iconst 2, 1) := sorry
theorem dL_law_739 : decode cL_law 739 = .ok (.iadd, 1) := sorry
theorem dL_law_740 : decode cL_law 740 = .ok (.iaload, 1) := sorry
theorem dL_law_741 : decode cL_law 741 = .ok (.invokevirtual 169, 3) := sorry
theorem dL_law_744 : decode cL_law 744 = .ok (.istore 7, 2) := sorry
theorem dL_law_746 : decode cL_law 746 = .ok (.aload_n 2, 1) := sorry
theorem dL_law_747 : decode cL_law 747 = .ok (.invokevirtual 136, 3) := sorry
theorem dL_law_750 : decode cL_law 750 = .ok (.iload 6, 2) := sorry
theorem dL_law_752 : decode cL_law 752 = .ok (.if_icmp .eq 5, 3) := sorry
theorem dL_law_755 : decode cL_law 755 = .ok (.iconst 0, 1) := sorry
theorem dL_law_756 : decode cL_law 756 = .ok (.ireturn, 1) := sorry
theorem dL_law_757 : decode cL_law 757 = .ok (.iload 6, 2) := sorry
theorem dL_law_759 : decode cL_law 759 = .ok (.ifCond .ne 15, 3) := sorry
theorem dL_law_762 : decode cL_law 762 = .ok (.aload_n 3, 1) := sorry
theorem dL_law_763 : decode cL_law 763 = .ok (.iconst 0, 1) := sorry
theorem dL_law_764 : decode cL_law 764 = .ok (.laload, 1) := sorry
theorem dL_law_765 : decode cL_law 765 = .ok (.iload 7, 2) := sorry
theorem dL_law_767 : decode cL_law 767 = .ok (.i2l, 1) := sorry
theorem dL_law_768 : decode cL_law 768 = .ok (.lcmp, 1) := sorry
theorem dL_law_769 : decode cL_law 769 = .ok (.ifCond .eq 5, 3) := sorry
theorem dL_law_772 : decode cL_law 772 = .ok (.iconst 0, 1) := sorry
theorem dL_law_773 : decode cL_law 773 = .ok (.ireturn, 1) := sorry
theorem dL_law_774 : decode cL_law 774 = .ok (.goto 1432, 3) := sorry
theorem dL_law_777 : decode cL_law 777 = .ok (.aload_n 1, 1) := sorry
theorem dL_law_778 : decode cL_law 778 = .ok (.aload_n 0, 1) := sorry
theorem dL_law_779 : decode cL_law 779 = .ok (.iload 5, 2) := sorry
theorem dL_law_781 : decode cL_law 781 = .ok (.iconst 1, 1) := sorry
theorem dL_law_782 : decode cL_law 782 = .ok (.iadd, 1) := sorry
theorem dL_law_783 : decode cL_law 783 = .ok (.iaload, 1) := sorry
theorem dL_law_784 : decode cL_law 784 = .ok (.aload_n 0, 1) := sorry
theorem dL_law_785 : decode cL_law 785 = .ok (.iload 5, 2) := sorry
theorem dL_law_787 : decode cL_law 787 = .ok (.iconst 2, 1) := sorry
theorem dL_law_788 : decode cL_law 788 = .ok (.iadd, 1) := sorry
theorem dL_law_789 : decode cL_law 789 = .ok (.iaload, 1) := sorry
theorem dL_law_790 : decode cL_law 790 = .ok (.aload_n 0, 1) := sorry
theorem dL_law_791 : decode cL_law 791 = .ok (.iload 5, 2) := sorry
theorem dL_law_793 : decode cL_law 793 = .ok (.iconst 3, 1) := sorry
theorem dL_law_794 : decode cL_law 794 = .ok (.iadd, 1) := sorry
theorem dL_law_795 : decode cL_law 795 = .ok (.iaload, 1) := sorry
theorem dL_law_796 : decode cL_law 796 = .ok (.aload_n 3, 1) := sorry
theorem dL_law_797 : decode cL_law 797 = .ok (.invokestatic 170, 3) := sorry
theorem dL_law_800 : decode cL_law 800 = .ok (.istore 6, 2) := sorry
theorem dL_law_802 : decode cL_law 802 = .ok (.aload_n 2, 1) := sorry
theorem dL_law_803 : decode cL_law 803 = .ok (.aload_n 0, 1) := sorry
theorem dL_law_804 : decode cL_law 804 = .ok (.iload 5, 2) := sorry
theorem dL_law_806 : decode cL_law 806 = .ok (.iconst 1, 1) := sorry
theorem dL_law_807 : decode cL_law 807 = .ok (.iadd, 1) := sorry
theorem dL_law_808 : decode cL_law 808 = .ok (.iaload, 1) := sorry
theorem dL_law_809 : decode cL_law 809 = .ok (.aload_n 0, 1) := sorry
theorem dL_law_810 : decode cL_law 810 = .ok (.iload 5, 2) := sorry
theorem dL_law_812 : decode cL_law 812 = .ok (.iconst 2, 1) := sorry
theorem dL_law_813 : decode cL_law 813 = .ok (.iadd, 1) := sorry
theorem dL_law_814 : decode cL_law 814 = .ok (.iaload, 1) := sorry
theorem dL_law_815 : decode cL_law 815 = .ok (.aload_n 0, 1) := sorry
theorem dL_law_816 : decode cL_law 816 = .ok (.iload 5, 2) := sorry
theorem dL_law_818 : decode cL_law 818 = .ok (.iconst 3, 1) := sorry
theorem dL_law_819 : decode cL_law 819 = .ok (.iadd, 1) := sorry
theorem dL_law_820 : decode cL_law 820 = .ok (.iaload, 1) := sorry
theorem dL_law_821 : decode cL_law 821 = .ok (.invokevirtual 172, 3) := sorry
theorem dL_law_824 : decode cL_law 824 = .ok (.istore 7, 2) := sorry
theorem dL_law_826 : decode cL_law 826 = .ok (.aload_n 2, 1) := sorry
theorem dL_law_827 : decode cL_law 827 = .ok (.invokevirtual 136, 3) := sorry
theorem dL_law_830 : decode cL_law 830 = .ok (.iload 6, 2) := sorry
theorem dL_law_832 : decode cL_law 832 = .ok (.if_icmp .eq 5, 3) := sorry
theorem dL_law_835 : decode cL_law 835 = .ok (.iconst 0, 1) := sorry
theorem dL_law_836 : decode cL_law 836 = .ok (.ireturn, 1) := sorry
theorem dL_law_837 : decode cL_law 837 = .ok (.iload 6, 2) := sorry
theorem dL_law_839 : decode cL_law 839 = .ok (.ifCond .ne 15, 3) := sorry
theorem dL_law_842 : decode cL_law 842 = .ok (.aload_n 3, 1) := sorry
theorem dL_law_843 : decode cL_law 843 = .ok (.iconst 0, 1) := sorry
theorem dL_law_844 : decode cL_law 844 = .ok (.laload, 1) := sorry
theorem dL_law_845 : decode cL_law 845 = .ok (.iload 7, 2) := sorry
theorem dL_law_847 : decode cL_law 847 = .ok (.i2l, 1) := sorry
theorem dL_law_848 : decode cL_law 848 = .ok (.lcmp, 1) := sorry
theorem dL_law_849 : decode cL_law 849 = .ok (.ifCond .eq 5, 3) := sorry
theorem dL_law_852 : decode cL_law 852 = .ok (.iconst 0, 1) := sorry
theorem dL_law_853 : decode cL_law 853 = .ok (.ireturn, 1) := sorry
theorem dL_law_854 : decode cL_law 854 = .ok (.goto 1352, 3) := sorry
theorem dL_law_857 : decode cL_law 857 = .ok (.aload_n 1, 1) := sorry
theorem dL_law_858 : decode cL_law 858 = .ok (.aload_n 0, 1) := sorry
theorem dL_law_859 : decode cL_law 859 = .ok (.iload 5, 2) := sorry
theorem dL_law_861 : decode cL_law 861 = .ok (.iconst 1, 1) := sorry
theorem dL_law_862 : decode cL_law 862 = .ok (.iadd, 1) := sorry
theorem dL_law_863 : decode cL_law 863 = .ok (.iaload, 1) := sorry
theorem dL_law_864 : decode cL_law 864 = .ok (.aload_n 3, 1) := sorry
theorem dL_law_865 : decode cL_law 865 = .ok (.invokestatic 173, 3) := sorry
theorem dL_law_868 : decode cL_law 868 = .ok (.istore 6, 2) := sorry
theorem dL_law_870 : decode cL_law 870 = .ok (.aload_n 2, 1) := sorry
theorem dL_law_871 : decode cL_law 871 = .ok (.aload_n 0, 1) := sorry
theorem dL_law_872 : decode cL_law 872 = .ok (.iload 5, 2) := sorry
theorem dL_law_874 : decode cL_law 874 = .ok (.iconst 1, 1) := sorry
theorem dL_law_875 : decode cL_law 875 = .ok (.iadd, 1) := sorry
theorem dL_law_876 : decode cL_law 876 = .ok (.iaload, 1) := sorry
theorem dL_law_877 : decode cL_law 877 = .ok (.invokevirtual 175, 3) := sorry
theorem dL_law_880 : decode cL_law 880 = .ok (.istore 7, 2) := sorry
theorem dL_law_882 : decode cL_law 882 = .ok (.aload_n 2, 1) := sorry
theorem dL_law_883 : decode cL_law 883 = .ok (.invokevirtual 136, 3) := sorry
theorem dL_law_886 : decode cL_law 886 = .ok (.iload 6, 2) := sorry
theorem dL_law_888 : decode cL_law 888 = .ok (.if_icmp .eq 5, 3) := sorry
theorem dL_law_891 : decode cL_law 891 = .ok (.iconst 0, 1) := sorry
theorem dL_law_892 : decode cL_law 892 = .ok (.ireturn, 1) := sorry
theorem dL_law_893 : decode cL_law 893 = .ok (.iload 6, 2) := sorry
theorem dL_law_895 : decode cL_law 895 = .ok (.ifCond .ne 15, 3) := sorry
theorem dL_law_898 : decode cL_law 898 = .ok (.aload_n 3, 1) := sorry
theorem dL_law_899 : decode cL_law 899 = .ok (.iconst 0, 1) := sorry
theorem dL_law_900 : decode cL_law 900 = .ok (.laload, 1) := sorry
theorem dL_law_901 : decode cL_law 901 = .ok (.iload 7, 2) := sorry
theorem dL_law_903 : decode cL_law 903 = .ok (.i2l, 1) := sorry
theorem dL_law_904 : decode cL_law 904 = .ok (.lcmp, 1) := sorry
theorem dL_law_905 : decode cL_law 905 = .ok (.ifCond .eq 5, 3) := sorry
theorem dL_law_908 : decode cL_law 908 = .ok (.iconst 0, 1) := sorry
theorem dL_law_909 : decode cL_law 909 = .ok (.ireturn, 1) := sorry
theorem dL_law_910 : decode cL_law 910 = .ok (.goto 1296, 3) := sorry
theorem dL_law_913 : decode cL_law 913 = .ok (.aload_n 1, 1) := sorry
theorem dL_law_914 : decode cL_law 914 = .ok (.aload_n 0, 1) := sorry
theorem dL_law_915 : decode cL_law 915 = .ok (.iload 5, 2) := sorry
theorem dL_law_917 : decode cL_law 917 = .ok (.iconst 1, 1) := sorry
theorem dL_law_918 : decode cL_law 918 = .ok (.iadd, 1) := sorry
theorem dL_law_919 : decode cL_law 919 = .ok (.iaload, 1) := sorry
theorem dL_law_920 : decode cL_law 920 = .ok (.aload_n 0, 1) := sorry
theorem dL_law_921 : decode cL_law 921 = .ok (.iload 5, 2) := sorry
theorem dL_law_923 : decode cL_law 923 = .ok (.iconst 2, 1) := sorry
theorem dL_law_924 : decode cL_law 924 = .ok (.iadd, 1) := sorry
theorem dL_law_925 : decode cL_law 925 = .ok (.iaload, 1) := sorry
theorem dL_law_926 : decode cL_law 926 = .ok (.aload_n 0, 1) := sorry
theorem dL_law_927 : decode cL_law 927 = .ok (.iload 5, 2) := sorry
theorem dL_law_929 : decode cL_law 929 = .ok (.iconst 3, 1) := sorry
theorem dL_law_930 : decode cL_law 930 = .ok (.iadd, 1) := sorry
theorem dL_law_931 : decode cL_law 931 = .ok (.iaload, 1) := sorry
theorem dL_law_932 : decode cL_law 932 = .ok (.aload_n 3, 1) := sorry
theorem dL_law_933 : decode cL_law 933 = .ok (.invokestatic 176, 3) := sorry
theorem dL_law_936 : decode cL_law 936 = .ok (.istore 6, 2) := sorry
theorem dL_law_938 : decode cL_law 938 = .ok (.aload_n 2, 1) := sorry
theorem dL_law_939 : decode cL_law 939 = .ok (.aload_n 0, 1) := sorry
theorem dL_law_940 : decode cL_law 940 = .ok (.iload 5, 2) := sorry
theorem dL_law_942 : decode cL_law 942 = .ok (.iconst 1, 1) := sorry
theorem dL_law_943 : decode cL_law 943 = .ok (.iadd, 1) := sorry
theorem dL_law_944 : decode cL_law 944 = .ok (.iaload, 1) := sorry
theorem dL_law_945 : decode cL_law 945 = .ok (.aload_n 0, 1) := sorry
theorem dL_law_946 : decode cL_law 946 = .ok (.iload 5, 2) := sorry
theorem dL_law_948 : decode cL_law 948 = .ok (.iconst 2, 1) := sorry
theorem dL_law_949 : decode cL_law 949 = .ok (.iadd, 1) := sorry
theorem dL_law_950 : decode cL_law 950 = .ok (.iaload, 1) := sorry
theorem dL_law_951 : decode cL_law 951 = .ok (.aload_n 0, 1) := sorry
theorem dL_law_952 : decode cL_law 952 = .ok (.iload 5, 2) := sorry
theorem dL_law_954 : decode cL_law 954 = .ok (.iconst 3, 1) := sorry
theorem dL_law_955 : decode cL_law 955 = .ok (.iadd, 1) := sorry
theorem dL_law_956 : decode cL_law 956 = .ok (.iaload, 1) := sorry
theorem dL_law_957 : decode cL_law 957 = .ok (.invokevirtual 178, 3) := sorry
theorem dL_law_960 : decode cL_law 960 = .ok (.istore 7, 2) := sorry
theorem dL_law_962 : decode cL_law 962 = .ok (.aload_n 2, 1) := sorry
theorem dL_law_963 : decode cL_law 963 = .ok (.invokevirtual 136, 3) := sorry
theorem dL_law_966 : decode cL_law 966 = .ok (.iload 6, 2) := sorry
theorem dL_law_968 : decode cL_law 968 = .ok (.if_icmp .eq 5, 3) := sorry
theorem dL_law_971 : decode cL_law 971 = .ok (.iconst 0, 1) := sorry
theorem dL_law_972 : decode cL_law 972 = .ok (.ireturn, 1) := sorry
theorem dL_law_973 : decode cL_law 973 = .ok (.iload 6, 2) := sorry
theorem dL_law_975 : decode cL_law 975 = .ok (.ifCond .ne 22, 3) := sorry
theorem dL_law_978 : decode cL_law 978 = .ok (.aload_n 3, 1) := sorry
theorem dL_law_979 : decode cL_law 979 = .ok (.iconst 0, 1) := sorry
theorem dL_law_980 : decode cL_law 980 = .ok (.laload, 1) := sorry
theorem dL_law_981 : decode cL_law 981 = .ok (.iload 7, 2) := sorry
theorem dL_law_983 : decode cL_law 983 = .ok (.ifCond .eq 7, 3) := sorry
theorem dL_law_986 : decode cL_law 986 = .ok (.lconst 1, 1) := sorry
theorem dL_law_987 : decode cL_law 987 = .ok (.goto 4, 3) := sorry
theorem dL_law_990 : decode cL_law 990 = .ok (.lconst 0, 1) := sorry
theorem dL_law_991 : decode cL_law 991 = .ok (.lcmp, 1) := sorry
theorem dL_law_992 : decode cL_law 992 = .ok (.ifCond .eq 5, 3) := sorry
theorem dL_law_995 : decode cL_law 995 = .ok (.iconst 0, 1) := sorry
theorem dL_law_996 : decode cL_law 996 = .ok (.ireturn, 1) := sorry
theorem dL_law_997 : decode cL_law 997 = .ok (.goto 1209, 3) := sorry
theorem dL_law_1000 : decode cL_law 1000 = .ok (.aload_n 1, 1) := sorry
theorem dL_law_1001 : decode cL_law 1001 = .ok (.aload_n 0, 1) := sorry
theorem dL_law_1002 : decode cL_law 1002 = .ok (.iload 5, 2) := sorry
theorem dL_law_1004 : decode cL_law 1004 = .ok (.iconst 1, 1) := sorry
theorem dL_law_1005 : decode cL_law 1005 = .ok (.iadd, 1) := sorry
theorem dL_law_1006 : decode cL_law 1006 = .ok (.iaload, 1) := sorry
theorem dL_law_1007 : decode cL_law 1007 = .ok (.aload_n 0, 1) := sorry
theorem dL_law_1008 : decode cL_law 1008 = .ok (.iload 5, 2) := sorry
theorem dL_law_1010 : decode cL_law 1010 = .ok (.iconst 2, 1) := sorry
theorem dL_law_1011 : decode cL_law 1011 = .ok (.iadd, 1) := sorry
theorem dL_law_1012 : decode cL_law 1012 = .ok (.iaload, 1) := sorry
theorem dL_law_1013 : decode cL_law 1013 = .ok (.aload_n 0, 1) := sorry
theorem dL_law_1014 : decode cL_law 1014 = .ok (.iload 5, 2) := sorry
theorem dL_law_1016 : decode cL_law 1016 = .ok (.iconst 3, 1) := sorry
theorem dL_law_1017 : decode cL_law 1017 = .ok (.iadd, 1) := sorry
theorem dL_law_1018 : decode cL_law 1018 = .ok (.iaload, 1) := sorry
theorem dL_law_1019 : decode cL_law 1019 = .ok (.ifCond .eq 7, 3) := sorry
theorem dL_law_1022 : decode cL_law 1022 = .ok (.iconst 1, 1) := sorry
theorem dL_law_1023 : decode cL_law 1023 = .ok (.goto 4, 3) := sorry
theorem dL_law_1026 : decode cL_law 1026 = .ok (.iconst 0, 1) := sorry
theorem dL_law_1027 : decode cL_law 1027 = .ok (.aload_n 3, 1) := sorry
theorem dL_law_1028 : decode cL_law 1028 = .ok (.invokestatic 179, 3) := sorry
theorem dL_law_1031 : decode cL_law 1031 = .ok (.istore 6, 2) := sorry
theorem dL_law_1033 : decode cL_law 1033 = .ok (.aload_n 2, 1) := sorry
theorem dL_law_1034 : decode cL_law 1034 = .ok (.aload_n 0, 1) := sorry
theorem dL_law_1035 : decode cL_law 1035 = .ok (.iload 5, 2) := sorry
theorem dL_law_1037 : decode cL_law 1037 = .ok (.iconst 1, 1) := sorry
theorem dL_law_1038 : decode cL_law 1038 = .ok (.iadd, 1) := sorry
theorem dL_law_1039 : decode cL_law 1039 = .ok (.iaload, 1) := sorry
theorem dL_law_1040 : decode cL_law 1040 = .ok (.aload_n 0, 1) := sorry
theorem dL_law_1041 : decode cL_law 1041 = .ok (.iload 5, 2) := sorry
theorem dL_law_1043 : decode cL_law 1043 = .ok (.iconst 2, 1) := sorry
theorem dL_law_1044 : decode cL_law 1044 = .ok (.iadd, 1) := sorry
theorem dL_law_1045 : decode cL_law 1045 = .ok (.iaload, 1) := sorry
theorem dL_law_1046 : decode cL_law 1046 = .ok (.aload_n 0, 1) := sorry
theorem dL_law_1047 : decode cL_law 1047 = .ok (.iload 5, 2) := sorry
theorem dL_law_1049 : decode cL_law 1049 = .ok (.iconst 3, 1) := sorry
theorem dL_law_1050 : decode cL_law 1050 = .ok (.iadd, 1) := sorry
theorem dL_law_1051 : decode cL_law 1051 = .ok (.iaload, 1) := sorry
theorem dL_law_1052 : decode cL_law 1052 = .ok (.ifCond .eq 7, 3) := sorry
theorem dL_law_1055 : decode cL_law 1055 = .ok (.iconst 1, 1) := sorry
theorem dL_law_1056 : decode cL_law 1056 = .ok (.goto 4, 3) := sorry
theorem dL_law_1059 : decode cL_law 1059 = .ok (.iconst 0, 1) := sorry
theorem dL_law_1060 : decode cL_law 1060 = .ok (.invokevirtual 182, 3) := sorry
theorem dL_law_1063 : decode cL_law 1063 = .ok (.istore 7, 2) := sorry
theorem dL_law_1065 : decode cL_law 1065 = .ok (.aload_n 2, 1) := sorry
theorem dL_law_1066 : decode cL_law 1066 = .ok (.invokevirtual 136, 3) := sorry
theorem dL_law_1069 : decode cL_law 1069 = .ok (.iload 6, 2) := sorry
theorem dL_law_1071 : decode cL_law 1071 = .ok (.if_icmp .eq 5, 3) := sorry
theorem dL_law_1074 : decode cL_law 1074 = .ok (.iconst 0, 1) := sorry
theorem dL_law_1075 : decode cL_law 1075 = .ok (.ireturn, 1) := sorry
theorem dL_law_1076 : decode cL_law 1076 = .ok (.iload 6, 2) := sorry
theorem dL_law_1078 : decode cL_law 1078 = .ok (.ifCond .ne 15, 3) := sorry
theorem dL_law_1081 : decode cL_law 1081 = .ok (.aload_n 3, 1) := sorry
theorem dL_law_1082 : decode cL_law 1082 = .ok (.iconst 0, 1) := sorry
theorem dL_law_1083 : decode cL_law 1083 = .ok (.laload, 1) := sorry
theorem dL_law_1084 : decode cL_law 1084 = .ok (.iload 7, 2) := sorry
theorem dL_law_1086 : decode cL_law 1086 = .ok (.i2l, 1) := sorry
theorem dL_law_1087 : decode cL_law 1087 = .ok (.lcmp, 1) := sorry
theorem dL_law_1088 : decode cL_law 1088 = .ok (.ifCond .eq 5, 3) := sorry
theorem dL_law_1091 : decode cL_law 1091 = .ok (.iconst 0, 1) := sorry
theorem dL_law_1092 : decode cL_law 1092 = .ok (.ireturn, 1) := sorry
theorem dL_law_1093 : decode cL_law 1093 = .ok (.goto 1113, 3) := sorry
theorem dL_law_1096 : decode cL_law 1096 = .ok (.aload_n 1, 1) := sorry
theorem dL_law_1097 : decode cL_law 1097 = .ok (.aload_n 0, 1) := sorry
theorem dL_law_1098 : decode cL_law 1098 = .ok (.iload 5, 2) := sorry
theorem dL_law_1100 : decode cL_law 1100 = .ok (.iconst 1, 1) := sorry
theorem dL_law_1101 : decode cL_law 1101 = .ok (.iadd, 1) := sorry
theorem dL_law_1102 : decode cL_law 1102 = .ok (.iaload, 1) := sorry
theorem dL_law_1103 : decode cL_law 1103 = .ok (.aload_n 3, 1) := sorry
theorem dL_law_1104 : decode cL_law 1104 = .ok (.invokestatic 183, 3) := sorry
theorem dL_law_1107 : decode cL_law 1107 = .ok (.istore 6, 2) := sorry
theorem dL_law_1109 : decode cL_law 1109 = .ok (.aload_n 2, 1) := sorry
theorem dL_law_1110 : decode cL_law 1110 = .ok (.aload_n 0, 1) := sorry
theorem dL_law_1111 : decode cL_law 1111 = .ok (.iload 5, 2) := sorry
theorem dL_law_1113 : decode cL_law 1113 = .ok (.iconst 1, 1) := sorry
theorem dL_law_1114 : decode cL_law 1114 = .ok (.iadd, 1) := sorry
theorem dL_law_1115 : decode cL_law 1115 = .ok (.iaload, 1) := sorry
theorem dL_law_1116 : decode cL_law 1116 = .ok (.invokevirtual 185, 3) := sorry
theorem dL_law_1119 : decode cL_law 1119 = .ok (.istore 7, 2) := sorry
theorem dL_law_1121 : decode cL_law 1121 = .ok (.aload_n 2, 1) := sorry
theorem dL_law_1122 : decode cL_law 1122 = .ok (.invokevirtual 136, 3) := sorry
theorem dL_law_1125 : decode cL_law 1125 = .ok (.iload 6, 2) := sorry
theorem dL_law_1127 : decode cL_law 1127 = .ok (.if_icmp .eq 5, 3) := sorry
theorem dL_law_1130 : decode cL_law 1130 = .ok (.iconst 0, 1) := sorry
theorem dL_law_1131 : decode cL_law 1131 = .ok (.ireturn, 1) := sorry
theorem dL_law_1132 : decode cL_law 1132 = .ok (.iload 6, 2) := sorry
theorem dL_law_1134 : decode cL_law 1134 = .ok (.ifCond .ne 15, 3) := sorry
theorem dL_law_1137 : decode cL_law 1137 = .ok (.aload_n 3, 1) := sorry
theorem dL_law_1138 : decode cL_law 1138 = .ok (.iconst 0, 1) := sorry
theorem dL_law_1139 : decode cL_law 1139 = .ok (.laload, 1) := sorry
theorem dL_law_1140 : decode cL_law 1140 = .ok (.iload 7, 2) := sorry
theorem dL_law_1142 : decode cL_law 1142 = .ok (.i2l, 1) := sorry
theorem dL_law_1143 : decode cL_law 1143 = .ok (.lcmp, 1) := sorry
theorem dL_law_1144 : decode cL_law 1144 = .ok (.ifCond .eq 5, 3) := sorry
theorem dL_law_1147 : decode cL_law 1147 = .ok (.iconst 0, 1) := sorry
theorem dL_law_1148 : decode cL_law 1148 = .ok (.ireturn, 1) := sorry
theorem dL_law_1149 : decode cL_law 1149 = .ok (.goto 1057, 3) := sorry
theorem dL_law_1152 : decode cL_law 1152 = .ok (.aload_n 1, 1) := sorry
theorem dL_law_1153 : decode cL_law 1153 = .ok (.aload_n 3, 1) := sorry
theorem dL_law_1154 : decode cL_law 1154 = .ok (.invokestatic 186, 3) := sorry
theorem dL_law_1157 : decode cL_law 1157 = .ok (.istore 6, 2) := sorry
theorem dL_law_1159 : decode cL_law 1159 = .ok (.aload_n 2, 1) := sorry
theorem dL_law_1160 : decode cL_law 1160 = .ok (.invokevirtual 188, 3) := sorry
theorem dL_law_1163 : decode cL_law 1163 = .ok (.istore 7, 2) := sorry
theorem dL_law_1165 : decode cL_law 1165 = .ok (.aload_n 2, 1) := sorry
theorem dL_law_1166 : decode cL_law 1166 = .ok (.invokevirtual 136, 3) := sorry
theorem dL_law_1169 : decode cL_law 1169 = .ok (.iload 6, 2) := sorry
theorem dL_law_1171 : decode cL_law 1171 = .ok (.if_icmp .eq 5, 3) := sorry
theorem dL_law_1174 : decode cL_law 1174 = .ok (.iconst 0, 1) := sorry
theorem dL_law_1175 : decode cL_law 1175 = .ok (.ireturn, 1) := sorry
theorem dL_law_1176 : decode cL_law 1176 = .ok (.iload 6, 2) := sorry
theorem dL_law_1178 : decode cL_law 1178 = .ok (.ifCond .ne 15, 3) := sorry
theorem dL_law_1181 : decode cL_law 1181 = .ok (.aload_n 3, 1) := sorry
theorem dL_law_1182 : decode cL_law 1182 = .ok (.iconst 0, 1) := sorry
theorem dL_law_1183 : decode cL_law 1183 = .ok (.laload, 1) := sorry
theorem dL_law_1184 : decode cL_law 1184 = .ok (.iload 7, 2) := sorry
theorem dL_law_1186 : decode cL_law 1186 = .ok (.i2l, 1) := sorry
theorem dL_law_1187 : decode cL_law 1187 = .ok (.lcmp, 1) := sorry
theorem dL_law_1188 : decode cL_law 1188 = .ok (.ifCond .eq 5, 3) := sorry
theorem dL_law_1191 : decode cL_law 1191 = .ok (.iconst 0, 1) := sorry
theorem dL_law_1192 : decode cL_law 1192 = .ok (.ireturn, 1) := sorry
theorem dL_law_1193 : decode cL_law 1193 = .ok (.goto 1013, 3) := sorry
theorem dL_law_1196 : decode cL_law 1196 = .ok (.aload_n 1, 1) := sorry
theorem dL_law_1197 : decode cL_law 1197 = .ok (.aload_n 0, 1) := sorry
theorem dL_law_1198 : decode cL_law 1198 = .ok (.iload 5, 2) := sorry
theorem dL_law_1200 : decode cL_law 1200 = .ok (.iconst 1, 1) := sorry
theorem dL_law_1201 : decode cL_law 1201 = .ok (.iadd, 1) := sorry
theorem dL_law_1202 : decode cL_law 1202 = .ok (.iaload, 1) := sorry
theorem dL_law_1203 : decode cL_law 1203 = .ok (.aload_n 3, 1) := sorry
theorem dL_law_1204 : decode cL_law 1204 = .ok (.invokestatic 189, 3) := sorry
theorem dL_law_1207 : decode cL_law 1207 = .ok (.istore 6, 2) := sorry
theorem dL_law_1209 : decode cL_law 1209 = .ok (.aload_n 2, 1) := sorry
theorem dL_law_1210 : decode cL_law 1210 = .ok (.aload_n 0, 1) := sorry
theorem dL_law_1211 : decode cL_law 1211 = .ok (.iload 5, 2) := sorry
theorem dL_law_1213 : decode cL_law 1213 = .ok (.iconst 1, 1) := sorry
theorem dL_law_1214 : decode cL_law 1214 = .ok (.iadd, 1) := sorry
theorem dL_law_1215 : decode cL_law 1215 = .ok (.iaload, 1) := sorry
theorem dL_law_1216 : decode cL_law 1216 = .ok (.invokevirtual 191, 3) := sorry
theorem dL_law_1219 : decode cL_law 1219 = .ok (.istore 7, 2) := sorry
theorem dL_law_1221 : decode cL_law 1221 = .ok (.aload_n 2, 1) := sorry
theorem dL_law_1222 : decode cL_law 1222 = .ok (.invokevirtual 136, 3) := sorry
theorem dL_law_1225 : decode cL_law 1225 = .ok (.iload 6, 2) := sorry
theorem dL_law_1227 : decode cL_law 1227 = .ok (.if_icmp .eq 5, 3) := sorry
theorem dL_law_1230 : decode cL_law 1230 = .ok (.iconst 0, 1) := sorry
theorem dL_law_1231 : decode cL_law 1231 = .ok (.ireturn, 1) := sorry
theorem dL_law_1232 : decode cL_law 1232 = .ok (.iload 6, 2) := sorry
theorem dL_law_1234 : decode cL_law 1234 = .ok (.ifCond .ne 15, 3) := sorry
theorem dL_law_1237 : decode cL_law 1237 = .ok (.aload_n 3, 1) := sorry
theorem dL_law_1238 : decode cL_law 1238 = .ok (.iconst 0, 1) := sorry
theorem dL_law_1239 : decode cL_law 1239 = .ok (.laload, 1) := sorry
theorem dL_law_1240 : decode cL_law 1240 = .ok (.iload 7, 2) := sorry
theorem dL_law_1242 : decode cL_law 1242 = .ok (.i2l, 1) := sorry
theorem dL_law_1243 : decode cL_law 1243 = .ok (.lcmp, 1) := sorry
theorem dL_law_1244 : decode cL_law 1244 = .ok (.ifCond .eq 5, 3) := sorry
theorem dL_law_1247 : decode cL_law 1247 = .ok (.iconst 0, 1) := sorry
theorem dL_law_1248 : decode cL_law 1248 = .ok (.ireturn, 1) := sorry
theorem dL_law_1249 : decode cL_law 1249 = .ok (.goto 957, 3) := sorry
theorem dL_law_1252 : decode cL_law 1252 = .ok (.aload_n 1, 1) := sorry
theorem dL_law_1253 : decode cL_law 1253 = .ok (.aload_n 0, 1) := sorry
theorem dL_law_1254 : decode cL_law 1254 = .ok (.iload 5, 2) := sorry
theorem dL_law_1256 : decode cL_law 1256 = .ok (.iconst 1, 1) := sorry
theorem dL_law_1257 : decode cL_law 1257 = .ok (.iadd, 1) := sorry
theorem dL_law_1258 : decode cL_law 1258 = .ok (.iaload, 1) := sorry
theorem dL_law_1259 : decode cL_law 1259 = .ok (.aload_n 0, 1) := sorry
theorem dL_law_1260 : decode cL_law 1260 = .ok (.iload 5, 2) := sorry
theorem dL_law_1262 : decode cL_law 1262 = .ok (.iconst 2, 1) := sorry
theorem dL_law_1263 : decode cL_law 1263 = .ok (.iadd, 1) := sorry
theorem dL_law_1264 : decode cL_law 1264 = .ok (.iaload, 1) := sorry
theorem dL_law_1265 : decode cL_law 1265 = .ok (.aload_n 3, 1) := sorry
theorem dL_law_1266 : decode cL_law 1266 = .ok (.invokestatic 192, 3) := sorry
theorem dL_law_1269 : decode cL_law 1269 = .ok (.istore 6, 2) := sorry
theorem dL_law_1271 : decode cL_law 1271 = .ok (.aload_n 2, 1) := sorry
theorem dL_law_1272 : decode cL_law 1272 = .ok (.aload_n 0, 1) := sorry
theorem dL_law_1273 : decode cL_law 1273 = .ok (.iload 5, 2) := sorry
theorem dL_law_1275 : decode cL_law 1275 = .ok (.iconst 1, 1) := sorry
theorem dL_law_1276 : decode cL_law 1276 = .ok (.iadd, 1) := sorry
theorem dL_law_1277 : decode cL_law 1277 = .ok (.iaload, 1) := sorry
theorem dL_law_1278 : decode cL_law 1278 = .ok (.aload_n 0, 1) := sorry
theorem dL_law_1279 : decode cL_law 1279 = .ok (.iload 5, 2) := sorry
theorem dL_law_1281 : decode cL_law 1281 = .ok (.iconst 2, 1) := sorry
theorem dL_law_1282 : decode cL_law 1282 = .ok (.iadd, 1) := sorry
theorem dL_law_1283 : decode cL_law 1283 = .ok (.iaload, 1) := sorry
theorem dL_law_1284 : decode cL_law 1284 = .ok (.invokevirtual 194, 3) := sorry
theorem dL_law_1287 : decode cL_law 1287 = .ok (.istore 7, 2) := sorry
theorem dL_law_1289 : decode cL_law 1289 = .ok (.aload_n 2, 1) := sorry
theorem dL_law_1290 : decode cL_law 1290 = .ok (.invokevirtual 136, 3) := sorry
theorem dL_law_1293 : decode cL_law 1293 = .ok (.iload 6, 2) := sorry
theorem dL_law_1295 : decode cL_law 1295 = .ok (.if_icmp .eq 5, 3) := sorry
theorem dL_law_1298 : decode cL_law 1298 = .ok (.iconst 0, 1) := sorry
theorem dL_law_1299 : decode cL_law 1299 = .ok (.ireturn, 1) := sorry
theorem dL_law_1300 : decode cL_law 1300 = .ok (.iload 6, 2) := sorry
theorem dL_law_1302 : decode cL_law 1302 = .ok (.ifCond .ne 15, 3) := sorry
theorem dL_law_1305 : decode cL_law 1305 = .ok (.aload_n 3, 1) := sorry
theorem dL_law_1306 : decode cL_law 1306 = .ok (.iconst 0, 1) := sorry
theorem dL_law_1307 : decode cL_law 1307 = .ok (.laload, 1) := sorry
theorem dL_law_1308 : decode cL_law 1308 = .ok (.iload 7, 2) := sorry
theorem dL_law_1310 : decode cL_law 1310 = .ok (.i2l, 1) := sorry
theorem dL_law_1311 : decode cL_law 1311 = .ok (.lcmp, 1) := sorry
theorem dL_law_1312 : decode cL_law 1312 = .ok (.ifCond .eq 5, 3) := sorry
theorem dL_law_1315 : decode cL_law 1315 = .ok (.iconst 0, 1) := sorry
theorem dL_law_1316 : decode cL_law 1316 = .ok (.ireturn, 1) := sorry
theorem dL_law_1317 : decode cL_law 1317 = .ok (.goto 889, 3) := sorry
theorem dL_law_1320 : decode cL_law 1320 = .ok (.aload_n 1, 1) := sorry
theorem dL_law_1321 : decode cL_law 1321 = .ok (.aload_n 3, 1) := sorry
theorem dL_law_1322 : decode cL_law 1322 = .ok (.invokestatic 195, 3) := sorry
theorem dL_law_1325 : decode cL_law 1325 = .ok (.istore 6, 2) := sorry
theorem dL_law_1327 : decode cL_law 1327 = .ok (.aload_n 2, 1) := sorry
theorem dL_law_1328 : decode cL_law 1328 = .ok (.invokevirtual 197, 3) := sorry
theorem dL_law_1331 : decode cL_law 1331 = .ok (.istore 7, 2) := sorry
theorem dL_law_1333 : decode cL_law 1333 = .ok (.aload_n 2, 1) := sorry
theorem dL_law_1334 : decode cL_law 1334 = .ok (.invokevirtual 136, 3) := sorry
theorem dL_law_1337 : decode cL_law 1337 = .ok (.iload 6, 2) := sorry
theorem dL_law_1339 : decode cL_law 1339 = .ok (.if_icmp .eq 5, 3) := sorry
theorem dL_law_1342 : decode cL_law 1342 = .ok (.iconst 0, 1) := sorry
theorem dL_law_1343 : decode cL_law 1343 = .ok (.ireturn, 1) := sorry
theorem dL_law_1344 : decode cL_law 1344 = .ok (.iload 6, 2) := sorry
theorem dL_law_1346 : decode cL_law 1346 = .ok (.ifCond .ne 15, 3) := sorry
theorem dL_law_1349 : decode cL_law 1349 = .ok (.aload_n 3, 1) := sorry
theorem dL_law_1350 : decode cL_law 1350 = .ok (.iconst 0, 1) := sorry
theorem dL_law_1351 : decode cL_law 1351 = .ok (.laload, 1) := sorry
theorem dL_law_1352 : decode cL_law 1352 = .ok (.iload 7, 2) := sorry
theorem dL_law_1354 : decode cL_law 1354 = .ok (.i2l, 1) := sorry
theorem dL_law_1355 : decode cL_law 1355 = .ok (.lcmp, 1) := sorry
theorem dL_law_1356 : decode cL_law 1356 = .ok (.ifCond .eq 5, 3) := sorry
theorem dL_law_1359 : decode cL_law 1359 = .ok (.iconst 0, 1) := sorry
theorem dL_law_1360 : decode cL_law 1360 = .ok (.ireturn, 1) := sorry
theorem dL_law_1361 : decode cL_law 1361 = .ok (.goto 845, 3) := sorry
theorem dL_law_1364 : decode cL_law 1364 = .ok (.aload_n 1, 1) := sorry
theorem dL_law_1365 : decode cL_law 1365 = .ok (.aload_n 0, 1) := sorry
theorem dL_law_1366 : decode cL_law 1366 = .ok (.iload 5, 2) := sorry
theorem dL_law_1368 : decode cL_law 1368 = .ok (.iconst 1, 1) := sorry
theorem dL_law_1369 : decode cL_law 1369 = .ok (.iadd, 1) := sorry
theorem dL_law_1370 : decode cL_law 1370 = .ok (.iaload, 1) := sorry
theorem dL_law_1371 : decode cL_law 1371 = .ok (.ifCond .eq 7, 3) := sorry
theorem dL_law_1374 : decode cL_law 1374 = .ok (.iconst 1, 1) := sorry
theorem dL_law_1375 : decode cL_law 1375 = .ok (.goto 4, 3) := sorry
theorem dL_law_1378 : decode cL_law 1378 = .ok (.iconst 0, 1) := sorry
theorem dL_law_1379 : decode cL_law 1379 = .ok (.invokevirtual 198, 3) := sorry
theorem dL_law_1382 : decode cL_law 1382 = .ok (.aload_n 2, 1) := sorry
theorem dL_law_1383 : decode cL_law 1383 = .ok (.aload_n 0, 1) := sorry
theorem dL_law_1384 : decode cL_law 1384 = .ok (.iload 5, 2) := sorry
theorem dL_law_1386 : decode cL_law 1386 = .ok (.iconst 1, 1) := sorry
theorem dL_law_1387 : decode cL_law 1387 = .ok (.iadd, 1) := sorry
theorem dL_law_1388 : decode cL_law 1388 = .ok (.iaload, 1) := sorry
theorem dL_law_1389 : decode cL_law 1389 = .ok (.ifCond .eq 7, 3) := sorry
theorem dL_law_1392 : decode cL_law 1392 = .ok (.iconst 1, 1) := sorry
theorem dL_law_1393 : decode cL_law 1393 = .ok (.goto 4, 3) := sorry
theorem dL_law_1396 : decode cL_law 1396 = .ok (.iconst 0, 1) := sorry
theorem dL_law_1397 : decode cL_law 1397 = .ok (.invokevirtual 201, 3) := sorry
theorem dL_law_1400 : decode cL_law 1400 = .ok (.if_icmp .eq 806, 3) := sorry
theorem dL_law_1403 : decode cL_law 1403 = .ok (.iconst 0, 1) := sorry
theorem dL_law_1404 : decode cL_law 1404 = .ok (.ireturn, 1) := sorry
theorem dL_law_1405 : decode cL_law 1405 = .ok (.aload_n 1, 1) := sorry
theorem dL_law_1406 : decode cL_law 1406 = .ok (.invokevirtual 202, 3) := sorry
theorem dL_law_1409 : decode cL_law 1409 = .ok (.aload_n 2, 1) := sorry
theorem dL_law_1410 : decode cL_law 1410 = .ok (.invokevirtual 205, 3) := sorry
theorem dL_law_1413 : decode cL_law 1413 = .ok (.if_icmp .eq 793, 3) := sorry
theorem dL_law_1416 : decode cL_law 1416 = .ok (.iconst 0, 1) := sorry
theorem dL_law_1417 : decode cL_law 1417 = .ok (.ireturn, 1) := sorry
theorem dL_law_1418 : decode cL_law 1418 = .ok (.aload_n 1, 1) := sorry
theorem dL_law_1419 : decode cL_law 1419 = .ok (.aload_n 0, 1) := sorry
theorem dL_law_1420 : decode cL_law 1420 = .ok (.iload 5, 2) := sorry
theorem dL_law_1422 : decode cL_law 1422 = .ok (.iconst 1, 1) := sorry
theorem dL_law_1423 : decode cL_law 1423 = .ok (.iadd, 1) := sorry
theorem dL_law_1424 : decode cL_law 1424 = .ok (.iaload, 1) := sorry
theorem dL_law_1425 : decode cL_law 1425 = .ok (.aload_n 3, 1) := sorry
theorem dL_law_1426 : decode cL_law 1426 = .ok (.invokestatic 206, 3) := sorry
theorem dL_law_1429 : decode cL_law 1429 = .ok (.istore 6, 2) := sorry
theorem dL_law_1431 : decode cL_law 1431 = .ok (.aload_n 2, 1) := sorry
theorem dL_law_1432 : decode cL_law 1432 = .ok (.aload_n 0, 1) := sorry
theorem dL_law_1433 : decode cL_law 1433 = .ok (.iload 5, 2) := sorry
theorem dL_law_1435 : decode cL_law 1435 = .ok (.iconst 1, 1) := sorry
theorem dL_law_1436 : decode cL_law 1436 = .ok (.iadd, 1) := sorry
theorem dL_law_1437 : decode cL_law 1437 = .ok (.iaload, 1) := sorry
theorem dL_law_1438 : decode cL_law 1438 = .ok (.invokevirtual 208, 3) := sorry
theorem dL_law_1441 : decode cL_law 1441 = .ok (.istore 7, 2) := sorry
theorem dL_law_1443 : decode cL_law 1443 = .ok (.aload_n 2, 1) := sorry
theorem dL_law_1444 : decode cL_law 1444 = .ok (.invokevirtual 136, 3) := sorry
theorem dL_law_1447 : decode cL_law 1447 = .ok (.iload 6, 2) := sorry
theorem dL_law_1449 : decode cL_law 1449 = .ok (.if_icmp .eq 5, 3) := sorry
theorem dL_law_1452 : decode cL_law 1452 = .ok (.iconst 0, 1) := sorry
theorem dL_law_1453 : decode cL_law 1453 = .ok (.ireturn, 1) := sorry
theorem dL_law_1454 : decode cL_law 1454 = .ok (.iload 6, 2) := sorry
theorem dL_law_1456 : decode cL_law 1456 = .ok (.ifCond .ne 22, 3) := sorry
theorem dL_law_1459 : decode cL_law 1459 = .ok (.aload_n 3, 1) := sorry
theorem dL_law_1460 : decode cL_law 1460 = .ok (.iconst 0, 1) := sorry
theorem dL_law_1461 : decode cL_law 1461 = .ok (.laload, 1) := sorry
theorem dL_law_1462 : decode cL_law 1462 = .ok (.iload 7, 2) := sorry
theorem dL_law_1464 : decode cL_law 1464 = .ok (.ifCond .eq 7, 3) := sorry
theorem dL_law_1467 : decode cL_law 1467 = .ok (.lconst 1, 1) := sorry
theorem dL_law_1468 : decode cL_law 1468 = .ok (.goto 4, 3) := sorry
theorem dL_law_1471 : decode cL_law 1471 = .ok (.lconst 0, 1) := sorry
theorem dL_law_1472 : decode cL_law 1472 = .ok (.lcmp, 1) := sorry
theorem dL_law_1473 : decode cL_law 1473 = .ok (.ifCond .eq 5, 3) := sorry
theorem dL_law_1476 : decode cL_law 1476 = .ok (.iconst 0, 1) := sorry
theorem dL_law_1477 : decode cL_law 1477 = .ok (.ireturn, 1) := sorry
theorem dL_law_1478 : decode cL_law 1478 = .ok (.goto 728, 3) := sorry
theorem dL_law_1481 : decode cL_law 1481 = .ok (.aload_n 1, 1) := sorry
theorem dL_law_1482 : decode cL_law 1482 = .ok (.aload_n 0, 1) := sorry
theorem dL_law_1483 : decode cL_law 1483 = .ok (.iload 5, 2) := sorry
theorem dL_law_1485 : decode cL_law 1485 = .ok (.iconst 1, 1) := sorry
theorem dL_law_1486 : decode cL_law 1486 = .ok (.iadd, 1) := sorry
theorem dL_law_1487 : decode cL_law 1487 = .ok (.iaload, 1) := sorry
theorem dL_law_1488 : decode cL_law 1488 = .ok (.aload_n 3, 1) := sorry
theorem dL_law_1489 : decode cL_law 1489 = .ok (.invokestatic 209, 3) := sorry
theorem dL_law_1492 : decode cL_law 1492 = .ok (.istore 6, 2) := sorry
theorem dL_law_1494 : decode cL_law 1494 = .ok (.aload_n 2, 1) := sorry
theorem dL_law_1495 : decode cL_law 1495 = .ok (.aload_n 0, 1) := sorry
theorem dL_law_1496 : decode cL_law 1496 = .ok (.iload 5, 2) := sorry
theorem dL_law_1498 : decode cL_law 1498 = .ok (.iconst 1, 1) := sorry
theorem dL_law_1499 : decode cL_law 1499 = .ok (.iadd, 1) := sorry
theorem dL_law_1500 : decode cL_law 1500 = .ok (.iaload, 1) := sorry
theorem dL_law_1501 : decode cL_law 1501 = .ok (.invokevirtual 211, 3) := sorry
theorem dL_law_1504 : decode cL_law 1504 = .ok (.istore 7, 2) := sorry
theorem dL_law_1506 : decode cL_law 1506 = .ok (.aload_n 2, 1) := sorry
theorem dL_law_1507 : decode cL_law 1507 = .ok (.invokevirtual 136, 3) := sorry
theorem dL_law_1510 : decode cL_law 1510 = .ok (.iload 6, 2) := sorry
theorem dL_law_1512 : decode cL_law 1512 = .ok (.if_icmp .eq 5, 3) := sorry
theorem dL_law_1515 : decode cL_law 1515 = .ok (.iconst 0, 1) := sorry
theorem dL_law_1516 : decode cL_law 1516 = .ok (.ireturn, 1) := sorry
theorem dL_law_1517 : decode cL_law 1517 = .ok (.iload 6, 2) := sorry
theorem dL_law_1519 : decode cL_law 1519 = .ok (.ifCond .ne 15, 3) := sorry
theorem dL_law_1522 : decode cL_law 1522 = .ok (.aload_n 3, 1) := sorry
theorem dL_law_1523 : decode cL_law 1523 = .ok (.iconst 0, 1) := sorry
theorem dL_law_1524 : decode cL_law 1524 = .ok (.laload, 1) := sorry
theorem dL_law_1525 : decode cL_law 1525 = .ok (.iload 7, 2) := sorry
theorem dL_law_1527 : decode cL_law 1527 = .ok (.i2l, 1) := sorry
theorem dL_law_1528 : decode cL_law 1528 = .ok (.lcmp, 1) := sorry
theorem dL_law_1529 : decode cL_law 1529 = .ok (.ifCond .eq 5, 3) := sorry
theorem dL_law_1532 : decode cL_law 1532 = .ok (.iconst 0, 1) := sorry
theorem dL_law_1533 : decode cL_law 1533 = .ok (.ireturn, 1) := sorry
theorem dL_law_1534 : decode cL_law 1534 = .ok (.goto 672, 3) := sorry
theorem dL_law_1537 : decode cL_law 1537 = .ok (.aload_n 1, 1) := sorry
theorem dL_law_1538 : decode cL_law 1538 = .ok (.aload_n 0, 1) := sorry
theorem dL_law_1539 : decode cL_law 1539 = .ok (.iload 5, 2) := sorry
theorem dL_law_1541 : decode cL_law 1541 = .ok (.iconst 1, 1) := sorry
theorem dL_law_1542 : decode cL_law 1542 = .ok (.iadd, 1) := sorry
theorem dL_law_1543 : decode cL_law 1543 = .ok (.iaload, 1) := sorry
theorem dL_law_1544 : decode cL_law 1544 = .ok (.aload_n 3, 1) := sorry
theorem dL_law_1545 : decode cL_law 1545 = .ok (.invokestatic 212, 3) := sorry
theorem dL_law_1548 : decode cL_law 1548 = .ok (.istore 6, 2) := sorry
theorem dL_law_1550 : decode cL_law 1550 = .ok (.aload_n 2, 1) := sorry
theorem dL_law_1551 : decode cL_law 1551 = .ok (.aload_n 0, 1) := sorry
theorem dL_law_1552 : decode cL_law 1552 = .ok (.iload 5, 2) := sorry
theorem dL_law_1554 : decode cL_law 1554 = .ok (.iconst 1, 1) := sorry
theorem dL_law_1555 : decode cL_law 1555 = .ok (.iadd, 1) := sorry
theorem dL_law_1556 : decode cL_law 1556 = .ok (.iaload, 1) := sorry
theorem dL_law_1557 : decode cL_law 1557 = .ok (.invokevirtual 214, 3) := sorry
theorem dL_law_1560 : decode cL_law 1560 = .ok (.istore 7, 2) := sorry
theorem dL_law_1562 : decode cL_law 1562 = .ok (.aload_n 2, 1) := sorry
theorem dL_law_1563 : decode cL_law 1563 = .ok (.invokevirtual 136, 3) := sorry
theorem dL_law_1566 : decode cL_law 1566 = .ok (.iload 6, 2) := sorry
theorem dL_law_1568 : decode cL_law 1568 = .ok (.if_icmp .eq 5, 3) := sorry
theorem dL_law_1571 : decode cL_law 1571 = .ok (.iconst 0, 1) := sorry
theorem dL_law_1572 : decode cL_law 1572 = .ok (.ireturn, 1) := sorry
theorem dL_law_1573 : decode cL_law 1573 = .ok (.iload 6, 2) := sorry
theorem dL_law_1575 : decode cL_law 1575 = .ok (.ifCond .ne 15, 3) := sorry
theorem dL_law_1578 : decode cL_law 1578 = .ok (.aload_n 3, 1) := sorry
theorem dL_law_1579 : decode cL_law 1579 = .ok (.iconst 0, 1) := sorry
theorem dL_law_1580 : decode cL_law 1580 = .ok (.laload, 1) := sorry
theorem dL_law_1581 : decode cL_law 1581 = .ok (.iload 7, 2) := sorry
theorem dL_law_1583 : decode cL_law 1583 = .ok (.i2l, 1) := sorry
theorem dL_law_1584 : decode cL_law 1584 = .ok (.lcmp, 1) := sorry
theorem dL_law_1585 : decode cL_law 1585 = .ok (.ifCond .eq 5, 3) := sorry
theorem dL_law_1588 : decode cL_law 1588 = .ok (.iconst 0, 1) := sorry
theorem dL_law_1589 : decode cL_law 1589 = .ok (.ireturn, 1) := sorry
theorem dL_law_1590 : decode cL_law 1590 = .ok (.goto 616, 3) := sorry
theorem dL_law_1593 : decode cL_law 1593 = .ok (.aload_n 1, 1) := sorry
theorem dL_law_1594 : decode cL_law 1594 = .ok (.aload_n 0, 1) := sorry
theorem dL_law_1595 : decode cL_law 1595 = .ok (.iload 5, 2) := sorry
theorem dL_law_1597 : decode cL_law 1597 = .ok (.iconst 1, 1) := sorry
theorem dL_law_1598 : decode cL_law 1598 = .ok (.iadd, 1) := sorry
theorem dL_law_1599 : decode cL_law 1599 = .ok (.iaload, 1) := sorry
theorem dL_law_1600 : decode cL_law 1600 = .ok (.aload_n 3, 1) := sorry
theorem dL_law_1601 : decode cL_law 1601 = .ok (.invokestatic 215, 3) := sorry
theorem dL_law_1604 : decode cL_law 1604 = .ok (.istore 6, 2) := sorry
theorem dL_law_1606 : decode cL_law 1606 = .ok (.aload_n 2, 1) := sorry
theorem dL_law_1607 : decode cL_law 1607 = .ok (.aload_n 0, 1) := sorry
theorem dL_law_1608 : decode cL_law 1608 = .ok (.iload 5, 2) := sorry
theorem dL_law_1610 : decode cL_law 1610 = .ok (.iconst 1, 1) := sorry
theorem dL_law_1611 : decode cL_law 1611 = .ok (.iadd, 1) := sorry
theorem dL_law_1612 : decode cL_law 1612 = .ok (.iaload, 1) := sorry
theorem dL_law_1613 : decode cL_law 1613 = .ok (.invokevirtual 217, 3) := sorry
theorem dL_law_1616 : decode cL_law 1616 = .ok (.istore 7, 2) := sorry
theorem dL_law_1618 : decode cL_law 1618 = .ok (.aload_n 2, 1) := sorry
theorem dL_law_1619 : decode cL_law 1619 = .ok (.invokevirtual 136, 3) := sorry
theorem dL_law_1622 : decode cL_law 1622 = .ok (.iload 6, 2) := sorry
theorem dL_law_1624 : decode cL_law 1624 = .ok (.if_icmp .eq 5, 3) := sorry
theorem dL_law_1627 : decode cL_law 1627 = .ok (.iconst 0, 1) := sorry
theorem dL_law_1628 : decode cL_law 1628 = .ok (.ireturn, 1) := sorry
theorem dL_law_1629 : decode cL_law 1629 = .ok (.iload 6, 2) := sorry
theorem dL_law_1631 : decode cL_law 1631 = .ok (.ifCond .ne 15, 3) := sorry
theorem dL_law_1634 : decode cL_law 1634 = .ok (.aload_n 3, 1) := sorry
theorem dL_law_1635 : decode cL_law 1635 = .ok (.iconst 0, 1) := sorry
theorem dL_law_1636 : decode cL_law 1636 = .ok (.laload, 1) := sorry
theorem dL_law_1637 : decode cL_law 1637 = .ok (.iload 7, 2) := sorry
theorem dL_law_1639 : decode cL_law 1639 = .ok (.i2l, 1) := sorry
theorem dL_law_1640 : decode cL_law 1640 = .ok (.lcmp, 1) := sorry
theorem dL_law_1641 : decode cL_law 1641 = .ok (.ifCond .eq 5, 3) := sorry
theorem dL_law_1644 : decode cL_law 1644 = .ok (.iconst 0, 1) := sorry
theorem dL_law_1645 : decode cL_law 1645 = .ok (.ireturn, 1) := sorry
theorem dL_law_1646 : decode cL_law 1646 = .ok (.goto 560, 3) := sorry
theorem dL_law_1649 : decode cL_law 1649 = .ok (.aload_n 1, 1) := sorry
theorem dL_law_1650 : decode cL_law 1650 = .ok (.invokevirtual 218, 3) := sorry
theorem dL_law_1653 : decode cL_law 1653 = .ok (.aload_n 2, 1) := sorry
theorem dL_law_1654 : decode cL_law 1654 = .ok (.invokevirtual 221, 3) := sorry
theorem dL_law_1657 : decode cL_law 1657 = .ok (.if_icmp .eq 549, 3) := sorry
theorem dL_law_1660 : decode cL_law 1660 = .ok (.iconst 0, 1) := sorry
theorem dL_law_1661 : decode cL_law 1661 = .ok (.ireturn, 1) := sorry
theorem dL_law_1662 : decode cL_law 1662 = .ok (.aload_n 1, 1) := sorry
theorem dL_law_1663 : decode cL_law 1663 = .ok (.aload_n 0, 1) := sorry
theorem dL_law_1664 : decode cL_law 1664 = .ok (.iload 5, 2) := sorry
theorem dL_law_1666 : decode cL_law 1666 = .ok (.iconst 1, 1) := sorry
theorem dL_law_1667 : decode cL_law 1667 = .ok (.iadd, 1) := sorry
theorem dL_law_1668 : decode cL_law 1668 = .ok (.iaload, 1) := sorry
theorem dL_law_1669 : decode cL_law 1669 = .ok (.aload_n 3, 1) := sorry
theorem dL_law_1670 : decode cL_law 1670 = .ok (.invokestatic 222, 3) := sorry
theorem dL_law_1673 : decode cL_law 1673 = .ok (.istore 6, 2) := sorry
theorem dL_law_1675 : decode cL_law 1675 = .ok (.aload_n 2, 1) := sorry
theorem dL_law_1676 : decode cL_law 1676 = .ok (.aload_n 0, 1) := sorry
theorem dL_law_1677 : decode cL_law 1677 = .ok (.iload 5, 2) := sorry
theorem dL_law_1679 : decode cL_law 1679 = .ok (.iconst 1, 1) := sorry
theorem dL_law_1680 : decode cL_law 1680 = .ok (.iadd, 1) := sorry
theorem dL_law_1681 : decode cL_law 1681 = .ok (.iaload, 1) := sorry
theorem dL_law_1682 : decode cL_law 1682 = .ok (.invokevirtual 224, 3) := sorry
theorem dL_law_1685 : decode cL_law 1685 = .ok (.istore 7, 2) := sorry
theorem dL_law_1687 : decode cL_law 1687 = .ok (.aload_n 2, 1) := sorry
theorem dL_law_1688 : decode cL_law 1688 = .ok (.invokevirtual 136, 3) := sorry
theorem dL_law_1691 : decode cL_law 1691 = .ok (.iload 6, 2) := sorry
theorem dL_law_1693 : decode cL_law 1693 = .ok (.if_icmp .eq 5, 3) := sorry
theorem dL_law_1696 : decode cL_law 1696 = .ok (.iconst 0, 1) := sorry
theorem dL_law_1697 : decode cL_law 1697 = .ok (.ireturn, 1) := sorry
theorem dL_law_1698 : decode cL_law 1698 = .ok (.iload 6, 2) := sorry
theorem dL_law_1700 : decode cL_law 1700 = .ok (.ifCond .ne 15, 3) := sorry
theorem dL_law_1703 : decode cL_law 1703 = .ok (.aload_n 3, 1) := sorry
theorem dL_law_1704 : decode cL_law 1704 = .ok (.iconst 0, 1) := sorry
theorem dL_law_1705 : decode cL_law 1705 = .ok (.laload, 1) := sorry
theorem dL_law_1706 : decode cL_law 1706 = .ok (.iload 7, 2) := sorry
theorem dL_law_1708 : decode cL_law 1708 = .ok (.i2l, 1) := sorry
theorem dL_law_1709 : decode cL_law 1709 = .ok (.lcmp, 1) := sorry
theorem dL_law_1710 : decode cL_law 1710 = .ok (.ifCond .eq 5, 3) := sorry
theorem dL_law_1713 : decode cL_law 1713 = .ok (.iconst 0, 1) := sorry
theorem dL_law_1714 : decode cL_law 1714 = .ok (.ireturn, 1) := sorry
theorem dL_law_1715 : decode cL_law 1715 = .ok (.goto 491, 3) := sorry
theorem dL_law_1718 : decode cL_law 1718 = .ok (.aload_n 1, 1) := sorry
theorem dL_law_1719 : decode cL_law 1719 = .ok (.aload_n 0, 1) := sorry
theorem dL_law_1720 : decode cL_law 1720 = .ok (.iload 5, 2) := sorry
theorem dL_law_1722 : decode cL_law 1722 = .ok (.iconst 1, 1) := sorry
theorem dL_law_1723 : decode cL_law 1723 = .ok (.iadd, 1) := sorry
theorem dL_law_1724 : decode cL_law 1724 = .ok (.iaload, 1) := sorry
theorem dL_law_1725 : decode cL_law 1725 = .ok (.i2c, 1) := sorry
theorem dL_law_1726 : decode cL_law 1726 = .ok (.aload_n 3, 1) := sorry
theorem dL_law_1727 : decode cL_law 1727 = .ok (.invokestatic 225, 3) := sorry
theorem dL_law_1730 : decode cL_law 1730 = .ok (.istore 6, 2) := sorry
theorem dL_law_1732 : decode cL_law 1732 = .ok (.aload_n 2, 1) := sorry
theorem dL_law_1733 : decode cL_law 1733 = .ok (.aload_n 0, 1) := sorry
theorem dL_law_1734 : decode cL_law 1734 = .ok (.iload 5, 2) := sorry
theorem dL_law_1736 : decode cL_law 1736 = .ok (.iconst 1, 1) := sorry
theorem dL_law_1737 : decode cL_law 1737 = .ok (.iadd, 1) := sorry
theorem dL_law_1738 : decode cL_law 1738 = .ok (.iaload, 1) := sorry
theorem dL_law_1739 : decode cL_law 1739 = .ok (.i2c, 1) := sorry
theorem dL_law_1740 : decode cL_law 1740 = .ok (.invokevirtual 228, 3) := sorry
theorem dL_law_1743 : decode cL_law 1743 = .ok (.istore 7, 2) := sorry
theorem dL_law_1745 : decode cL_law 1745 = .ok (.aload_n 2, 1) := sorry
theorem dL_law_1746 : decode cL_law 1746 = .ok (.invokevirtual 136, 3) := sorry
theorem dL_law_1749 : decode cL_law 1749 = .ok (.iload 6, 2) := sorry
theorem dL_law_1751 : decode cL_law 1751 = .ok (.if_icmp .eq 5, 3) := sorry
theorem dL_law_1754 : decode cL_law 1754 = .ok (.iconst 0, 1) := sorry
theorem dL_law_1755 : decode cL_law 1755 = .ok (.ireturn, 1) := sorry
theorem dL_law_1756 : decode cL_law 1756 = .ok (.iload 6, 2) := sorry
theorem dL_law_1758 : decode cL_law 1758 = .ok (.ifCond .ne 15, 3) := sorry
theorem dL_law_1761 : decode cL_law 1761 = .ok (.aload_n 3, 1) := sorry
theorem dL_law_1762 : decode cL_law 1762 = .ok (.iconst 0, 1) := sorry
theorem dL_law_1763 : decode cL_law 1763 = .ok (.laload, 1) := sorry
theorem dL_law_1764 : decode cL_law 1764 = .ok (.iload 7, 2) := sorry
theorem dL_law_1766 : decode cL_law 1766 = .ok (.i2l, 1) := sorry
theorem dL_law_1767 : decode cL_law 1767 = .ok (.lcmp, 1) := sorry
theorem dL_law_1768 : decode cL_law 1768 = .ok (.ifCond .eq 5, 3) := sorry
theorem dL_law_1771 : decode cL_law 1771 = .ok (.iconst 0, 1) := sorry
theorem dL_law_1772 : decode cL_law 1772 = .ok (.ireturn, 1) := sorry
theorem dL_law_1773 : decode cL_law 1773 = .ok (.goto 433, 3) := sorry
theorem dL_law_1776 : decode cL_law 1776 = .ok (.aload_n 1, 1) := sorry
theorem dL_law_1777 : decode cL_law 1777 = .ok (.aload_n 3, 1) := sorry
theorem dL_law_1778 : decode cL_law 1778 = .ok (.invokestatic 229, 3) := sorry
theorem dL_law_1781 : decode cL_law 1781 = .ok (.istore 6, 2) := sorry
theorem dL_law_1783 : decode cL_law 1783 = .ok (.aload_n 2, 1) := sorry
theorem dL_law_1784 : decode cL_law 1784 = .ok (.invokevirtual 231, 3) := sorry
theorem dL_law_1787 : decode cL_law 1787 = .ok (.istore 7, 2) := sorry
theorem dL_law_1789 : decode cL_law 1789 = .ok (.aload_n 2, 1) := sorry
theorem dL_law_1790 : decode cL_law 1790 = .ok (.invokevirtual 136, 3) := sorry
theorem dL_law_1793 : decode cL_law 1793 = .ok (.iload 6, 2) := sorry
theorem dL_law_1795 : decode cL_law 1795 = .ok (.if_icmp .eq 5, 3) := sorry
theorem dL_law_1798 : decode cL_law 1798 = .ok (.iconst 0, 1) := sorry
theorem dL_law_1799 : decode cL_law 1799 = .ok (.ireturn, 1) := sorry
theorem dL_law_1800 : decode cL_law 1800 = .ok (.iload 6, 2) := sorry
theorem dL_law_1802 : decode cL_law 1802 = .ok (.ifCond .ne 15, 3) := sorry
theorem dL_law_1805 : decode cL_law 1805 = .ok (.aload_n 3, 1) := sorry
theorem dL_law_1806 : decode cL_law 1806 = .ok (.iconst 0, 1) := sorry
theorem dL_law_1807 : decode cL_law 1807 = .ok (.laload, 1) := sorry
theorem dL_law_1808 : decode cL_law 1808 = .ok (.iload 7, 2) := sorry
theorem dL_law_1810 : decode cL_law 1810 = .ok (.i2l, 1) := sorry
theorem dL_law_1811 : decode cL_law 1811 = .ok (.lcmp, 1) := sorry
theorem dL_law_1812 : decode cL_law 1812 = .ok (.ifCond .eq 5, 3) := sorry
theorem dL_law_1815 : decode cL_law 1815 = .ok (.iconst 0, 1) := sorry
theorem dL_law_1816 : decode cL_law 1816 = .ok (.ireturn, 1) := sorry
theorem dL_law_1817 : decode cL_law 1817 = .ok (.goto 389, 3) := sorry
theorem dL_law_1820 : decode cL_law 1820 = .ok (.aload_n 1, 1) := sorry
theorem dL_law_1821 : decode cL_law 1821 = .ok (.invokevirtual 232, 3) := sorry
theorem dL_law_1824 : decode cL_law 1824 = .ok (.aload_n 2, 1) := sorry
theorem dL_law_1825 : decode cL_law 1825 = .ok (.invokevirtual 235, 3) := sorry
theorem dL_law_1828 : decode cL_law 1828 = .ok (.if_icmp .eq 378, 3) := sorry
theorem dL_law_1831 : decode cL_law 1831 = .ok (.iconst 0, 1) := sorry
theorem dL_law_1832 : decode cL_law 1832 = .ok (.ireturn, 1) := sorry
theorem dL_law_1833 : decode cL_law 1833 = .ok (.aload_n 1, 1) := sorry
theorem dL_law_1834 : decode cL_law 1834 = .ok (.aload_n 0, 1) := sorry
theorem dL_law_1835 : decode cL_law 1835 = .ok (.iload 5, 2) := sorry
theorem dL_law_1837 : decode cL_law 1837 = .ok (.iconst 1, 1) := sorry
theorem dL_law_1838 : decode cL_law 1838 = .ok (.iadd, 1) := sorry
theorem dL_law_1839 : decode cL_law 1839 = .ok (.iaload, 1) := sorry
theorem dL_law_1840 : decode cL_law 1840 = .ok (.ifCond .eq 7, 3) := sorry
theorem dL_law_1843 : decode cL_law 1843 = .ok (.iconst 1, 1) := sorry
theorem dL_law_1844 : decode cL_law 1844 = .ok (.goto 4, 3) := sorry
theorem dL_law_1847 : decode cL_law 1847 = .ok (.iconst 0, 1) := sorry
theorem dL_law_1848 : decode cL_law 1848 = .ok (.aload_n 3, 1) := sorry
theorem dL_law_1849 : decode cL_law 1849 = .ok (.invokestatic 236, 3) := sorry
theorem dL_law_1852 : decode cL_law 1852 = .ok (.istore 6, 2) := sorry
theorem dL_law_1854 : decode cL_law 1854 = .ok (.aload_n 2, 1) := sorry
theorem dL_law_1855 : decode cL_law 1855 = .ok (.aload_n 0, 1) := sorry
theorem dL_law_1856 : decode cL_law 1856 = .ok (.iload 5, 2) := sorry
theorem dL_law_1858 : decode cL_law 1858 = .ok (.iconst 1, 1) := sorry
theorem dL_law_1859 : decode cL_law 1859 = .ok (.iadd, 1) := sorry
theorem dL_law_1860 : decode cL_law 1860 = .ok (.iaload, 1) := sorry
theorem dL_law_1861 : decode cL_law 1861 = .ok (.ifCond .eq 7, 3) := sorry
theorem dL_law_1864 : decode cL_law 1864 = .ok (.iconst 1, 1) := sorry
theorem dL_law_1865 : decode cL_law 1865 = .ok (.goto 4, 3) := sorry
theorem dL_law_1868 : decode cL_law 1868 = .ok (.iconst 0, 1) := sorry
theorem dL_law_1869 : decode cL_law 1869 = .ok (.invokevirtual 239, 3) := sorry
theorem dL_law_1872 : decode cL_law 1872 = .ok (.istore 7, 2) := sorry
theorem dL_law_1874 : decode cL_law 1874 = .ok (.aload_n 2, 1) := sorry
theorem dL_law_1875 : decode cL_law 1875 = .ok (.invokevirtual 136, 3) := sorry
theorem dL_law_1878 : decode cL_law 1878 = .ok (.iload 6, 2) := sorry
theorem dL_law_1880 : decode cL_law 1880 = .ok (.if_icmp .eq 5, 3) := sorry
theorem dL_law_1883 : decode cL_law 1883 = .ok (.iconst 0, 1) := sorry
theorem dL_law_1884 : decode cL_law 1884 = .ok (.ireturn, 1) := sorry
theorem dL_law_1885 : decode cL_law 1885 = .ok (.iload 6, 2) := sorry
theorem dL_law_1887 : decode cL_law 1887 = .ok (.ifCond .ne 15, 3) := sorry
theorem dL_law_1890 : decode cL_law 1890 = .ok (.aload_n 3, 1) := sorry
theorem dL_law_1891 : decode cL_law 1891 = .ok (.iconst 0, 1) := sorry
theorem dL_law_1892 : decode cL_law 1892 = .ok (.laload, 1) := sorry
theorem dL_law_1893 : decode cL_law 1893 = .ok (.iload 7, 2) := sorry
theorem dL_law_1895 : decode cL_law 1895 = .ok (.i2l, 1) := sorry
theorem dL_law_1896 : decode cL_law 1896 = .ok (.lcmp, 1) := sorry
theorem dL_law_1897 : decode cL_law 1897 = .ok (.ifCond .eq 5, 3) := sorry
theorem dL_law_1900 : decode cL_law 1900 = .ok (.iconst 0, 1) := sorry
theorem dL_law_1901 : decode cL_law 1901 = .ok (.ireturn, 1) := sorry
theorem dL_law_1902 : decode cL_law 1902 = .ok (.goto 304, 3) := sorry
theorem dL_law_1905 : decode cL_law 1905 = .ok (.aload_n 1, 1) := sorry
theorem dL_law_1906 : decode cL_law 1906 = .ok (.aload_n 0, 1) := sorry
theorem dL_law_1907 : decode cL_law 1907 = .ok (.iload 5, 2) := sorry
theorem dL_law_1909 : decode cL_law 1909 = .ok (.iconst 1, 1) := sorry
theorem dL_law_1910 : decode cL_law 1910 = .ok (.iadd, 1) := sorry
theorem dL_law_1911 : decode cL_law 1911 = .ok (.iaload, 1) := sorry
theorem dL_law_1912 : decode cL_law 1912 = .ok (.aload_n 3, 1) := sorry
theorem dL_law_1913 : decode cL_law 1913 = .ok (.invokestatic 240, 3) := sorry
theorem dL_law_1916 : decode cL_law 1916 = .ok (.istore 6, 2) := sorry
theorem dL_law_1918 : decode cL_law 1918 = .ok (.aload_n 2, 1) := sorry
theorem dL_law_1919 : decode cL_law 1919 = .ok (.aload_n 0, 1) := sorry
theorem dL_law_1920 : decode cL_law 1920 = .ok (.iload 5, 2) := sorry
theorem dL_law_1922 : decode cL_law 1922 = .ok (.iconst 1, 1) := sorry
theorem dL_law_1923 : decode cL_law 1923 = .ok (.iadd, 1) := sorry
theorem dL_law_1924 : decode cL_law 1924 = .ok (.iaload, 1) := sorry
theorem dL_law_1925 : decode cL_law 1925 = .ok (.invokevirtual 242, 3) := sorry
theorem dL_law_1928 : decode cL_law 1928 = .ok (.istore 7, 2) := sorry
theorem dL_law_1930 : decode cL_law 1930 = .ok (.aload_n 2, 1) := sorry
theorem dL_law_1931 : decode cL_law 1931 = .ok (.invokevirtual 136, 3) := sorry
theorem dL_law_1934 : decode cL_law 1934 = .ok (.iload 6, 2) := sorry
theorem dL_law_1936 : decode cL_law 1936 = .ok (.if_icmp .eq 5, 3) := sorry
theorem dL_law_1939 : decode cL_law 1939 = .ok (.iconst 0, 1) := sorry
theorem dL_law_1940 : decode cL_law 1940 = .ok (.ireturn, 1) := sorry
theorem dL_law_1941 : decode cL_law 1941 = .ok (.iload 6, 2) := sorry
theorem dL_law_1943 : decode cL_law 1943 = .ok (.ifCond .ne 15, 3) := sorry
theorem dL_law_1946 : decode cL_law 1946 = .ok (.aload_n 3, 1) := sorry
theorem dL_law_1947 : decode cL_law 1947 = .ok (.iconst 0, 1) := sorry
theorem dL_law_1948 : decode cL_law 1948 = .ok (.laload, 1) := sorry
theorem dL_law_1949 : decode cL_law 1949 = .ok (.iload 7, 2) := sorry
theorem dL_law_1951 : decode cL_law 1951 = .ok (.i2l, 1) := sorry
theorem dL_law_1952 : decode cL_law 1952 = .ok (.lcmp, 1) := sorry
theorem dL_law_1953 : decode cL_law 1953 = .ok (.ifCond .eq 5, 3) := sorry
theorem dL_law_1956 : decode cL_law 1956 = .ok (.iconst 0, 1) := sorry
theorem dL_law_1957 : decode cL_law 1957 = .ok (.ireturn, 1) := sorry
theorem dL_law_1958 : decode cL_law 1958 = .ok (.goto 248, 3) := sorry
theorem dL_law_1961 : decode cL_law 1961 = .ok (.aload_n 1, 1) := sorry
theorem dL_law_1962 : decode cL_law 1962 = .ok (.invokevirtual 243, 3) := sorry
theorem dL_law_1965 : decode cL_law 1965 = .ok (.aload_n 2, 1) := sorry
theorem dL_law_1966 : decode cL_law 1966 = .ok (.invokevirtual 247, 3) := sorry
theorem dL_law_1969 : decode cL_law 1969 = .ok (.if_icmp .eq 237, 3) := sorry
theorem dL_law_1972 : decode cL_law 1972 = .ok (.iconst 0, 1) := sorry
theorem dL_law_1973 : decode cL_law 1973 = .ok (.ireturn, 1) := sorry
theorem dL_law_1974 : decode cL_law 1974 = .ok (.aload_n 1, 1) := sorry
theorem dL_law_1975 : decode cL_law 1975 = .ok (.aload 4, 2) := sorry
theorem dL_law_1977 : decode cL_law 1977 = .ok (.invokestatic 248, 3) := sorry
theorem dL_law_1980 : decode cL_law 1980 = .ok (.istore 6, 2) := sorry
theorem dL_law_1982 : decode cL_law 1982 = .ok (.aload_n 2, 1) := sorry
theorem dL_law_1983 : decode cL_law 1983 = .ok (.invokevirtual 251, 3) := sorry
theorem dL_law_1986 : decode cL_law 1986 = .ok (.dstore 7, 2) := sorry
theorem dL_law_1988 : decode cL_law 1988 = .ok (.aload_n 2, 1) := sorry
theorem dL_law_1989 : decode cL_law 1989 = .ok (.invokevirtual 136, 3) := sorry
theorem dL_law_1992 : decode cL_law 1992 = .ok (.iload 6, 2) := sorry
theorem dL_law_1994 : decode cL_law 1994 = .ok (.if_icmp .eq 5, 3) := sorry
theorem dL_law_1997 : decode cL_law 1997 = .ok (.iconst 0, 1) := sorry
theorem dL_law_1998 : decode cL_law 1998 = .ok (.ireturn, 1) := sorry
theorem dL_law_1999 : decode cL_law 1999 = .ok (.iload 6, 2) := sorry
theorem dL_law_2001 : decode cL_law 2001 = .ok (.ifCond .ne 35, 3) := sorry
theorem dL_law_2004 : decode cL_law 2004 = .ok (.aload 4, 2) := sorry
theorem dL_law_2006 : decode cL_law 2006 = .ok (.iconst 0, 1) := sorry
theorem dL_law_2007 : decode cL_law 2007 = .ok (.daload, 1) := sorry
theorem dL_law_2008 : decode cL_law 2008 = .ok (.dload 7, 2) := sorry
theorem dL_law_2010 : decode cL_law 2010 = .ok (.dcmp .l, 1) := sorry
theorem dL_law_2011 : decode cL_law 2011 = .ok (.ifCond .eq 25, 3) := sorry
theorem dL_law_2014 : decode cL_law 2014 = .ok (.aload 4, 2) := sorry
theorem dL_law_2016 : decode cL_law 2016 = .ok (.iconst 0, 1) := sorry
theorem dL_law_2017 : decode cL_law 2017 = .ok (.daload, 1) := sorry
theorem dL_law_2018 : decode cL_law 2018 = .ok (.aload 4, 2) := sorry
theorem dL_law_2020 : decode cL_law 2020 = .ok (.iconst 0, 1) := sorry
theorem dL_law_2021 : decode cL_law 2021 = .ok (.daload, 1) := sorry
theorem dL_law_2022 : decode cL_law 2022 = .ok (.dcmp .l, 1) := sorry
theorem dL_law_2023 : decode cL_law 2023 = .ok (.ifCond .eq 11, 3) := sorry
theorem dL_law_2026 : decode cL_law 2026 = .ok (.dload 7, 2) := sorry
theorem dL_law_2028 : decode cL_law 2028 = .ok (.dload 7, 2) := sorry
theorem dL_law_2030 : decode cL_law 2030 = .ok (.dcmp .l, 1) := sorry
theorem dL_law_2031 : decode cL_law 2031 = .ok (.ifCond .ne 5, 3) := sorry
theorem dL_law_2034 : decode cL_law 2034 = .ok (.iconst 0, 1) := sorry
theorem dL_law_2035 : decode cL_law 2035 = .ok (.ireturn, 1) := sorry
theorem dL_law_2036 : decode cL_law 2036 = .ok (.goto 170, 3) := sorry
theorem dL_law_2039 : decode cL_law 2039 = .ok (.aload_n 1, 1) := sorry
theorem dL_law_2040 : decode cL_law 2040 = .ok (.aload 4, 2) := sorry
theorem dL_law_2042 : decode cL_law 2042 = .ok (.invokestatic 252, 3) := sorry
theorem dL_law_2045 : decode cL_law 2045 = .ok (.istore 6, 2) := sorry
theorem dL_law_2047 : decode cL_law 2047 = .ok (.aload_n 2, 1) := sorry
theorem dL_law_2048 : decode cL_law 2048 = .ok (.invokevirtual 254, 3) := sorry
theorem dL_law_2051 : decode cL_law 2051 = .ok (.fstore 7, 2) := sorry
theorem dL_law_2053 : decode cL_law 2053 = .ok (.aload_n 2, 1) := sorry
theorem dL_law_2054 : decode cL_law 2054 = .ok (.invokevirtual 136, 3) := sorry
theorem dL_law_2057 : decode cL_law 2057 = .ok (.iload 6, 2) := sorry
theorem dL_law_2059 : decode cL_law 2059 = .ok (.if_icmp .eq 5, 3) := sorry
theorem dL_law_2062 : decode cL_law 2062 = .ok (.iconst 0, 1) := sorry
theorem dL_law_2063 : decode cL_law 2063 = .ok (.ireturn, 1) := sorry
theorem dL_law_2064 : decode cL_law 2064 = .ok (.iload 6, 2) := sorry
theorem dL_law_2066 : decode cL_law 2066 = .ok (.ifCond .ne 36, 3) := sorry
theorem dL_law_2069 : decode cL_law 2069 = .ok (.aload 4, 2) := sorry
theorem dL_law_2071 : decode cL_law 2071 = .ok (.iconst 0, 1) := sorry
theorem dL_law_2072 : decode cL_law 2072 = .ok (.daload, 1) := sorry
theorem dL_law_2073 : decode cL_law 2073 = .ok (.fload 7, 2) := sorry
theorem dL_law_2075 : decode cL_law 2075 = .ok (.f2d, 1) := sorry
theorem dL_law_2076 : decode cL_law 2076 = .ok (.dcmp .l, 1) := sorry
theorem dL_law_2077 : decode cL_law 2077 = .ok (.ifCond .eq 25, 3) := sorry
theorem dL_law_2080 : decode cL_law 2080 = .ok (.aload 4, 2) := sorry
theorem dL_law_2082 : decode cL_law 2082 = .ok (.iconst 0, 1) := sorry
theorem dL_law_2083 : decode cL_law 2083 = .ok (.daload, 1) := sorry
theorem dL_law_2084 : decode cL_law 2084 = .ok (.aload 4, 2) := sorry
theorem dL_law_2086 : decode cL_law 2086 = .ok (.iconst 0, 1) := sorry
theorem dL_law_2087 : decode cL_law 2087 = .ok (.daload, 1) := sorry
theorem dL_law_2088 : decode cL_law 2088 = .ok (.dcmp .l, 1) := sorry
theorem dL_law_2089 : decode cL_law 2089 = .ok (.ifCond .eq 11, 3) := sorry
theorem dL_law_2092 : decode cL_law 2092 = .ok (.fload 7, 2) := sorry
theorem dL_law_2094 : decode cL_law 2094 = .ok (.fload 7, 2) := sorry
theorem dL_law_2096 : decode cL_law 2096 = .ok (.fcmp .l, 1) := sorry
theorem dL_law_2097 : decode cL_law 2097 = .ok (.ifCond .ne 5, 3) := sorry
theorem dL_law_2100 : decode cL_law 2100 = .ok (.iconst 0, 1) := sorry
theorem dL_law_2101 : decode cL_law 2101 = .ok (.ireturn, 1) := sorry
theorem dL_law_2102 : decode cL_law 2102 = .ok (.goto 104, 3) := sorry
theorem dL_law_2105 : decode cL_law 2105 = .ok (.aload_n 1, 1) := sorry
theorem dL_law_2106 : decode cL_law 2106 = .ok (.aload_n 3, 1) := sorry
theorem dL_law_2107 : decode cL_law 2107 = .ok (.invokestatic 255, 3) := sorry
theorem dL_law_2110 : decode cL_law 2110 = .ok (.istore 6, 2) := sorry
theorem dL_law_2112 : decode cL_law 2112 = .ok (.aload_n 2, 1) := sorry
theorem dL_law_2113 : decode cL_law 2113 = .ok (.invokevirtual 257, 3) := sorry
theorem dL_law_2116 : decode cL_law 2116 = .ok (.istore 7, 2) := sorry
theorem dL_law_2118 : decode cL_law 2118 = .ok (.aload_n 2, 1) := sorry
theorem dL_law_2119 : decode cL_law 2119 = .ok (.invokevirtual 136, 3) := sorry
theorem dL_law_2122 : decode cL_law 2122 = .ok (.iload 6, 2) := sorry
theorem dL_law_2124 : decode cL_law 2124 = .ok (.if_icmp .eq 5, 3) := sorry
theorem dL_law_2127 : decode cL_law 2127 = .ok (.iconst 0, 1) := sorry
theorem dL_law_2128 : decode cL_law 2128 = .ok (.ireturn, 1) := sorry
theorem dL_law_2129 : decode cL_law 2129 = .ok (.iload 6, 2) := sorry
theorem dL_law_2131 : decode cL_law 2131 = .ok (.ifCond .ne 15, 3) := sorry
theorem dL_law_2134 : decode cL_law 2134 = .ok (.aload_n 3, 1) := sorry
theorem dL_law_2135 : decode cL_law 2135 = .ok (.iconst 0, 1) := sorry
theorem dL_law_2136 : decode cL_law 2136 = .ok (.laload, 1) := sorry
theorem dL_law_2137 : decode cL_law 2137 = .ok (.iload 7, 2) := sorry
theorem dL_law_2139 : decode cL_law 2139 = .ok (.i2l, 1) := sorry
theorem dL_law_2140 : decode cL_law 2140 = .ok (.lcmp, 1) := sorry
theorem dL_law_2141 : decode cL_law 2141 = .ok (.ifCond .eq 5, 3) := sorry
theorem dL_law_2144 : decode cL_law 2144 = .ok (.iconst 0, 1) := sorry
theorem dL_law_2145 : decode cL_law 2145 = .ok (.ireturn, 1) := sorry
theorem dL_law_2146 : decode cL_law 2146 = .ok (.goto 60, 3) := sorry
theorem dL_law_2149 : decode cL_law 2149 = .ok (.aload_n 1, 1) := sorry
theorem dL_law_2150 : decode cL_law 2150 = .ok (.invokevirtual 258, 3) := sorry
theorem dL_law_2153 : decode cL_law 2153 = .ok (.aload_n 2, 1) := sorry
theorem dL_law_2154 : decode cL_law 2154 = .ok (.invokevirtual 261, 3) := sorry
theorem dL_law_2157 : decode cL_law 2157 = .ok (.if_icmp .eq 49, 3) := sorry
theorem dL_law_2160 : decode cL_law 2160 = .ok (.iconst 0, 1) := sorry
theorem dL_law_2161 : decode cL_law 2161 = .ok (.ireturn, 1) := sorry
theorem dL_law_2162 : decode cL_law 2162 = .ok (.aload_n 1, 1) := sorry
theorem dL_law_2163 : decode cL_law 2163 = .ok (.aload_n 3, 1) := sorry
theorem dL_law_2164 : decode cL_law 2164 = .ok (.invokestatic 262, 3) := sorry
theorem dL_law_2167 : decode cL_law 2167 = .ok (.istore 6, 2) := sorry
theorem dL_law_2169 : decode cL_law 2169 = .ok (.aload_n 2, 1) := sorry
theorem dL_law_2170 : decode cL_law 2170 = .ok (.invokevirtual 264, 3) := sorry
theorem dL_law_2173 : decode cL_law 2173 = .ok (.istore 7, 2) := sorry
theorem dL_law_2175 : decode cL_law 2175 = .ok (.aload_n 2, 1) := sorry
theorem dL_law_2176 : decode cL_law 2176 = .ok (.invokevirtual 136, 3) := sorry
theorem dL_law_2179 : decode cL_law 2179 = .ok (.iload 6, 2) := sorry
theorem dL_law_2181 : decode cL_law 2181 = .ok (.if_icmp .eq 5, 3) := sorry
theorem dL_law_2184 : decode cL_law 2184 = .ok (.iconst 0, 1) := sorry
theorem dL_law_2185 : decode cL_law 2185 = .ok (.ireturn, 1) := sorry
theorem dL_law_2186 : decode cL_law 2186 = .ok (.iload 6, 2) := sorry
theorem dL_law_2188 : decode cL_law 2188 = .ok (.ifCond .ne 15, 3) := sorry
theorem dL_law_2191 : decode cL_law 2191 = .ok (.aload_n 3, 1) := sorry
theorem dL_law_2192 : decode cL_law 2192 = .ok (.iconst 0, 1) := sorry
theorem dL_law_2193 : decode cL_law 2193 = .ok (.laload, 1) := sorry
theorem dL_law_2194 : decode cL_law 2194 = .ok (.iload 7, 2) := sorry
theorem dL_law_2196 : decode cL_law 2196 = .ok (.i2l, 1) := sorry
theorem dL_law_2197 : decode cL_law 2197 = .ok (.lcmp, 1) := sorry
theorem dL_law_2198 : decode cL_law 2198 = .ok (.ifCond .eq 5, 3) := sorry
theorem dL_law_2201 : decode cL_law 2201 = .ok (.iconst 0, 1) := sorry
theorem dL_law_2202 : decode cL_law 2202 = .ok (.ireturn, 1) := sorry
theorem dL_law_2203 : decode cL_law 2203 = .ok (.goto 3, 3) := sorry
theorem dL_law_2206 : decode cL_law 2206 = .ok (.iinc 5 4, 3) := sorry
theorem dL_law_2209 : decode cL_law 2209 = .ok (.goto (-2181), 3) := sorry
theorem dL_law_2212 : decode cL_law 2212 = .ok (.iconst 1, 1) := sorry
theorem dL_law_2213 : decode cL_law 2213 = .ok (.ireturn, 1) := sorry
