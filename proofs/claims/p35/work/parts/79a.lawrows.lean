theorem dL_law_0 : decode cL_law 0 = .ok (.new 7, 3) := dq_187 dp_cL_law rfl
theorem dL_law_3 : decode cL_law 3 = .ok (.dup, 1) := dq_89 dp_cL_law rfl
theorem dL_law_4 : decode cL_law 4 = .ok (.invokespecial 9, 3) := dq_183 dp_cL_law rfl
theorem dL_law_7 : decode cL_law 7 = .ok (.astore_n 1, 1) := dq_76 dp_cL_law rfl
theorem dL_law_8 : decode cL_law 8 = .ok (.new 10, 3) := dq_187 dp_cL_law rfl
theorem dL_law_11 : decode cL_law 11 = .ok (.dup, 1) := dq_89 dp_cL_law rfl
theorem dL_law_12 : decode cL_law 12 = .ok (.invokespecial 12, 3) := dq_183 dp_cL_law rfl
theorem dL_law_15 : decode cL_law 15 = .ok (.astore_n 2, 1) := dq_77 dp_cL_law rfl
theorem dL_law_16 : decode cL_law 16 = .ok (.iconst 0, 1) := dq_3 dp_cL_law rfl
theorem dL_law_17 : decode cL_law 17 = .ok (.istore_n 3, 1) := dq_62 dp_cL_law rfl
theorem dL_law_18 : decode cL_law 18 = .ok (.iload_n 3, 1) := dq_29 dp_cL_law rfl
theorem dL_law_19 : decode cL_law 19 = .ok (.aload_n 0, 1) := dq_42 dp_cL_law rfl
theorem dL_law_20 : decode cL_law 20 = .ok (.arraylength, 1) := dq_190 dp_cL_law rfl
theorem dL_law_21 : decode cL_law 21 = .ok (.bipush 6, 2) := dq_16 (v := 6) dp_cL_law rfl rfl
theorem dL_law_23 : decode cL_law 23 = .ok (.isub, 1) := dq_100 dp_cL_law rfl
theorem dL_law_24 : decode cL_law 24 = .ok (.if_icmp .gt 1352, 3) := dq_163 (v := 1352) dp_cL_law rfl rfl
theorem dL_law_27 : decode cL_law 27 = .ok (.aload_n 0, 1) := dq_42 dp_cL_law rfl
theorem dL_law_28 : decode cL_law 28 = .ok (.iload_n 3, 1) := dq_29 dp_cL_law rfl
theorem dL_law_29 : decode cL_law 29 = .ok (.iaload, 1) := dq_46 dp_cL_law rfl
theorem dL_law_30 : decode cL_law 30 = .ok (.bipush 63, 2) := dq_16 (v := 63) dp_cL_law rfl rfl
theorem dL_law_32 : decode cL_law 32 = .ok (.iand, 1) := dq_126 dp_cL_law rfl
theorem dL_law_33 : decode cL_law 33 = .ok (.tableswitch 1337 0 37 #[167, 210, 283, 346, 379, 412, 435, 468, 511, 544, 567, 616, 649, 682, 705, 718, 761, 794, 827, 860, 893, 916, 959, 982, 1005, 1028, 1061, 1104, 1117, 1140, 1153, 1176, 1199, 1222, 1265, 1288, 1301, 1314], 167) := by decide +kernel
theorem dL_law_200 : decode cL_law 200 = .ok (.aload_n 1, 1) := dq_43 dp_cL_law rfl
theorem dL_law_201 : decode cL_law 201 = .ok (.aload_n 0, 1) := dq_42 dp_cL_law rfl
theorem dL_law_202 : decode cL_law 202 = .ok (.iload_n 3, 1) := dq_29 dp_cL_law rfl
theorem dL_law_203 : decode cL_law 203 = .ok (.iconst 1, 1) := dq_4 dp_cL_law rfl
theorem dL_law_204 : decode cL_law 204 = .ok (.iadd, 1) := dq_96 dp_cL_law rfl
theorem dL_law_205 : decode cL_law 205 = .ok (.iaload, 1) := dq_46 dp_cL_law rfl
theorem dL_law_206 : decode cL_law 206 = .ok (.aload_n 0, 1) := dq_42 dp_cL_law rfl
theorem dL_law_207 : decode cL_law 207 = .ok (.iload_n 3, 1) := dq_29 dp_cL_law rfl
theorem dL_law_208 : decode cL_law 208 = .ok (.iconst 2, 1) := dq_5 dp_cL_law rfl
theorem dL_law_209 : decode cL_law 209 = .ok (.iadd, 1) := dq_96 dp_cL_law rfl
theorem dL_law_210 : decode cL_law 210 = .ok (.iaload, 1) := dq_46 dp_cL_law rfl
theorem dL_law_211 : decode cL_law 211 = .ok (.aload_n 0, 1) := dq_42 dp_cL_law rfl
theorem dL_law_212 : decode cL_law 212 = .ok (.iload_n 3, 1) := dq_29 dp_cL_law rfl
theorem dL_law_213 : decode cL_law 213 = .ok (.iconst 3, 1) := dq_6 dp_cL_law rfl
theorem dL_law_214 : decode cL_law 214 = .ok (.iadd, 1) := dq_96 dp_cL_law rfl
theorem dL_law_215 : decode cL_law 215 = .ok (.iaload, 1) := dq_46 dp_cL_law rfl
theorem dL_law_216 : decode cL_law 216 = .ok (.invokevirtual 13, 3) := dq_182 dp_cL_law rfl
theorem dL_law_219 : decode cL_law 219 = .ok (.pop, 1) := dq_87 dp_cL_law rfl
theorem dL_law_220 : decode cL_law 220 = .ok (.aload_n 2, 1) := dq_44 dp_cL_law rfl
theorem dL_law_221 : decode cL_law 221 = .ok (.aload_n 0, 1) := dq_42 dp_cL_law rfl
theorem dL_law_222 : decode cL_law 222 = .ok (.iload_n 3, 1) := dq_29 dp_cL_law rfl
theorem dL_law_223 : decode cL_law 223 = .ok (.iconst 1, 1) := dq_4 dp_cL_law rfl
theorem dL_law_224 : decode cL_law 224 = .ok (.iadd, 1) := dq_96 dp_cL_law rfl
theorem dL_law_225 : decode cL_law 225 = .ok (.iaload, 1) := dq_46 dp_cL_law rfl
theorem dL_law_226 : decode cL_law 226 = .ok (.aload_n 0, 1) := dq_42 dp_cL_law rfl
theorem dL_law_227 : decode cL_law 227 = .ok (.iload_n 3, 1) := dq_29 dp_cL_law rfl
theorem dL_law_228 : decode cL_law 228 = .ok (.iconst 2, 1) := dq_5 dp_cL_law rfl
theorem dL_law_229 : decode cL_law 229 = .ok (.iadd, 1) := dq_96 dp_cL_law rfl
theorem dL_law_230 : decode cL_law 230 = .ok (.iaload, 1) := dq_46 dp_cL_law rfl
theorem dL_law_231 : decode cL_law 231 = .ok (.aload_n 0, 1) := dq_42 dp_cL_law rfl
theorem dL_law_232 : decode cL_law 232 = .ok (.iload_n 3, 1) := dq_29 dp_cL_law rfl
theorem dL_law_233 : decode cL_law 233 = .ok (.iconst 3, 1) := dq_6 dp_cL_law rfl
theorem dL_law_234 : decode cL_law 234 = .ok (.iadd, 1) := dq_96 dp_cL_law rfl
theorem dL_law_235 : decode cL_law 235 = .ok (.iaload, 1) := dq_46 dp_cL_law rfl
theorem dL_law_236 : decode cL_law 236 = .ok (.invokevirtual 17, 3) := dq_182 dp_cL_law rfl
theorem dL_law_239 : decode cL_law 239 = .ok (.pop, 1) := dq_87 dp_cL_law rfl
theorem dL_law_240 : decode cL_law 240 = .ok (.goto 1130, 3) := dq_167 (v := 1130) dp_cL_law rfl rfl
theorem dL_law_243 : decode cL_law 243 = .ok (.aload_n 1, 1) := dq_43 dp_cL_law rfl
theorem dL_law_244 : decode cL_law 244 = .ok (.aload_n 0, 1) := dq_42 dp_cL_law rfl
theorem dL_law_245 : decode cL_law 245 = .ok (.iload_n 3, 1) := dq_29 dp_cL_law rfl
theorem dL_law_246 : decode cL_law 246 = .ok (.iconst 1, 1) := dq_4 dp_cL_law rfl
theorem dL_law_247 : decode cL_law 247 = .ok (.iadd, 1) := dq_96 dp_cL_law rfl
theorem dL_law_248 : decode cL_law 248 = .ok (.iaload, 1) := dq_46 dp_cL_law rfl
theorem dL_law_249 : decode cL_law 249 = .ok (.aload_n 0, 1) := dq_42 dp_cL_law rfl
theorem dL_law_250 : decode cL_law 250 = .ok (.iload_n 3, 1) := dq_29 dp_cL_law rfl
theorem dL_law_251 : decode cL_law 251 = .ok (.iconst 2, 1) := dq_5 dp_cL_law rfl
theorem dL_law_252 : decode cL_law 252 = .ok (.iadd, 1) := dq_96 dp_cL_law rfl
theorem dL_law_253 : decode cL_law 253 = .ok (.iaload, 1) := dq_46 dp_cL_law rfl
theorem dL_law_254 : decode cL_law 254 = .ok (.aload_n 0, 1) := dq_42 dp_cL_law rfl
theorem dL_law_255 : decode cL_law 255 = .ok (.iload_n 3, 1) := dq_29 dp_cL_law rfl
theorem dL_law_256 : decode cL_law 256 = .ok (.iconst 3, 1) := dq_6 dp_cL_law rfl
theorem dL_law_257 : decode cL_law 257 = .ok (.iadd, 1) := dq_96 dp_cL_law rfl
theorem dL_law_258 : decode cL_law 258 = .ok (.iaload, 1) := dq_46 dp_cL_law rfl
theorem dL_law_259 : decode cL_law 259 = .ok (.i2l, 1) := dq_133 dp_cL_law rfl
theorem dL_law_260 : decode cL_law 260 = .ok (.bipush 32, 2) := dq_16 (v := 32) dp_cL_law rfl rfl
theorem dL_law_262 : decode cL_law 262 = .ok (.lshl, 1) := dq_121 dp_cL_law rfl
theorem dL_law_263 : decode cL_law 263 = .ok (.aload_n 0, 1) := dq_42 dp_cL_law rfl
theorem dL_law_264 : decode cL_law 264 = .ok (.iload_n 3, 1) := dq_29 dp_cL_law rfl
theorem dL_law_265 : decode cL_law 265 = .ok (.iconst 4, 1) := dq_7 dp_cL_law rfl
theorem dL_law_266 : decode cL_law 266 = .ok (.iadd, 1) := dq_96 dp_cL_law rfl
theorem dL_law_267 : decode cL_law 267 = .ok (.iaload, 1) := dq_46 dp_cL_law rfl
theorem dL_law_268 : decode cL_law 268 = .ok (.i2l, 1) := dq_133 dp_cL_law rfl
theorem dL_law_269 : decode cL_law 269 = .ok (.ldc2_w 18, 3) := dq_20 dp_cL_law rfl
theorem dL_law_272 : decode cL_law 272 = .ok (.land, 1) := dq_127 dp_cL_law rfl
theorem dL_law_273 : decode cL_law 273 = .ok (.lor, 1) := dq_129 dp_cL_law rfl
theorem dL_law_274 : decode cL_law 274 = .ok (.invokevirtual 20, 3) := dq_182 dp_cL_law rfl
theorem dL_law_277 : decode cL_law 277 = .ok (.pop, 1) := dq_87 dp_cL_law rfl
theorem dL_law_278 : decode cL_law 278 = .ok (.aload_n 2, 1) := dq_44 dp_cL_law rfl
theorem dL_law_279 : decode cL_law 279 = .ok (.aload_n 0, 1) := dq_42 dp_cL_law rfl
theorem dL_law_280 : decode cL_law 280 = .ok (.iload_n 3, 1) := dq_29 dp_cL_law rfl
theorem dL_law_281 : decode cL_law 281 = .ok (.iconst 1, 1) := dq_4 dp_cL_law rfl
theorem dL_law_282 : decode cL_law 282 = .ok (.iadd, 1) := dq_96 dp_cL_law rfl
theorem dL_law_283 : decode cL_law 283 = .ok (.iaload, 1) := dq_46 dp_cL_law rfl
theorem dL_law_284 : decode cL_law 284 = .ok (.aload_n 0, 1) := dq_42 dp_cL_law rfl
theorem dL_law_285 : decode cL_law 285 = .ok (.iload_n 3, 1) := dq_29 dp_cL_law rfl
theorem dL_law_286 : decode cL_law 286 = .ok (.iconst 2, 1) := dq_5 dp_cL_law rfl
theorem dL_law_287 : decode cL_law 287 = .ok (.iadd, 1) := dq_96 dp_cL_law rfl
theorem dL_law_288 : decode cL_law 288 = .ok (.iaload, 1) := dq_46 dp_cL_law rfl
theorem dL_law_289 : decode cL_law 289 = .ok (.aload_n 0, 1) := dq_42 dp_cL_law rfl
theorem dL_law_290 : decode cL_law 290 = .ok (.iload_n 3, 1) := dq_29 dp_cL_law rfl
theorem dL_law_291 : decode cL_law 291 = .ok (.iconst 3, 1) := dq_6 dp_cL_law rfl
theorem dL_law_292 : decode cL_law 292 = .ok (.iadd, 1) := dq_96 dp_cL_law rfl
theorem dL_law_293 : decode cL_law 293 = .ok (.iaload, 1) := dq_46 dp_cL_law rfl
theorem dL_law_294 : decode cL_law 294 = .ok (.i2l, 1) := dq_133 dp_cL_law rfl
theorem dL_law_295 : decode cL_law 295 = .ok (.bipush 32, 2) := dq_16 (v := 32) dp_cL_law rfl rfl
theorem dL_law_297 : decode cL_law 297 = .ok (.lshl, 1) := dq_121 dp_cL_law rfl
theorem dL_law_298 : decode cL_law 298 = .ok (.aload_n 0, 1) := dq_42 dp_cL_law rfl
theorem dL_law_299 : decode cL_law 299 = .ok (.iload_n 3, 1) := dq_29 dp_cL_law rfl
theorem dL_law_300 : decode cL_law 300 = .ok (.iconst 4, 1) := dq_7 dp_cL_law rfl
theorem dL_law_301 : decode cL_law 301 = .ok (.iadd, 1) := dq_96 dp_cL_law rfl
theorem dL_law_302 : decode cL_law 302 = .ok (.iaload, 1) := dq_46 dp_cL_law rfl
theorem dL_law_303 : decode cL_law 303 = .ok (.i2l, 1) := dq_133 dp_cL_law rfl
theorem dL_law_304 : decode cL_law 304 = .ok (.ldc2_w 18, 3) := dq_20 dp_cL_law rfl
theorem dL_law_307 : decode cL_law 307 = .ok (.land, 1) := dq_127 dp_cL_law rfl
theorem dL_law_308 : decode cL_law 308 = .ok (.lor, 1) := dq_129 dp_cL_law rfl
theorem dL_law_309 : decode cL_law 309 = .ok (.invokevirtual 24, 3) := dq_182 dp_cL_law rfl
theorem dL_law_312 : decode cL_law 312 = .ok (.pop, 1) := dq_87 dp_cL_law rfl
theorem dL_law_313 : decode cL_law 313 = .ok (.goto 1057, 3) := dq_167 (v := 1057) dp_cL_law rfl rfl
theorem dL_law_316 : decode cL_law 316 = .ok (.aload_n 1, 1) := dq_43 dp_cL_law rfl
theorem dL_law_317 : decode cL_law 317 = .ok (.aload_n 0, 1) := dq_42 dp_cL_law rfl
theorem dL_law_318 : decode cL_law 318 = .ok (.iload_n 3, 1) := dq_29 dp_cL_law rfl
theorem dL_law_319 : decode cL_law 319 = .ok (.iconst 1, 1) := dq_4 dp_cL_law rfl
theorem dL_law_320 : decode cL_law 320 = .ok (.iadd, 1) := dq_96 dp_cL_law rfl
theorem dL_law_321 : decode cL_law 321 = .ok (.iaload, 1) := dq_46 dp_cL_law rfl
theorem dL_law_322 : decode cL_law 322 = .ok (.aload_n 0, 1) := dq_42 dp_cL_law rfl
theorem dL_law_323 : decode cL_law 323 = .ok (.iload_n 3, 1) := dq_29 dp_cL_law rfl
theorem dL_law_324 : decode cL_law 324 = .ok (.iconst 2, 1) := dq_5 dp_cL_law rfl
theorem dL_law_325 : decode cL_law 325 = .ok (.iadd, 1) := dq_96 dp_cL_law rfl
theorem dL_law_326 : decode cL_law 326 = .ok (.iaload, 1) := dq_46 dp_cL_law rfl
theorem dL_law_327 : decode cL_law 327 = .ok (.aload_n 0, 1) := dq_42 dp_cL_law rfl
theorem dL_law_328 : decode cL_law 328 = .ok (.iload_n 3, 1) := dq_29 dp_cL_law rfl
theorem dL_law_329 : decode cL_law 329 = .ok (.iconst 3, 1) := dq_6 dp_cL_law rfl
theorem dL_law_330 : decode cL_law 330 = .ok (.iadd, 1) := dq_96 dp_cL_law rfl
theorem dL_law_331 : decode cL_law 331 = .ok (.iaload, 1) := dq_46 dp_cL_law rfl
theorem dL_law_332 : decode cL_law 332 = .ok (.aload_n 0, 1) := dq_42 dp_cL_law rfl
theorem dL_law_333 : decode cL_law 333 = .ok (.iload_n 3, 1) := dq_29 dp_cL_law rfl
theorem dL_law_334 : decode cL_law 334 = .ok (.iconst 4, 1) := dq_7 dp_cL_law rfl
theorem dL_law_335 : decode cL_law 335 = .ok (.iadd, 1) := dq_96 dp_cL_law rfl
theorem dL_law_336 : decode cL_law 336 = .ok (.iaload, 1) := dq_46 dp_cL_law rfl
theorem dL_law_337 : decode cL_law 337 = .ok (.aload_n 0, 1) := dq_42 dp_cL_law rfl
theorem dL_law_338 : decode cL_law 338 = .ok (.iload_n 3, 1) := dq_29 dp_cL_law rfl
theorem dL_law_339 : decode cL_law 339 = .ok (.iconst 5, 1) := dq_8 dp_cL_law rfl
theorem dL_law_340 : decode cL_law 340 = .ok (.iadd, 1) := dq_96 dp_cL_law rfl
theorem dL_law_341 : decode cL_law 341 = .ok (.iaload, 1) := dq_46 dp_cL_law rfl
theorem dL_law_342 : decode cL_law 342 = .ok (.invokevirtual 25, 3) := dq_182 dp_cL_law rfl
theorem dL_law_345 : decode cL_law 345 = .ok (.pop, 1) := dq_87 dp_cL_law rfl
theorem dL_law_346 : decode cL_law 346 = .ok (.aload_n 2, 1) := dq_44 dp_cL_law rfl
theorem dL_law_347 : decode cL_law 347 = .ok (.aload_n 0, 1) := dq_42 dp_cL_law rfl
theorem dL_law_348 : decode cL_law 348 = .ok (.iload_n 3, 1) := dq_29 dp_cL_law rfl
theorem dL_law_349 : decode cL_law 349 = .ok (.iconst 1, 1) := dq_4 dp_cL_law rfl
theorem dL_law_350 : decode cL_law 350 = .ok (.iadd, 1) := dq_96 dp_cL_law rfl
theorem dL_law_351 : decode cL_law 351 = .ok (.iaload, 1) := dq_46 dp_cL_law rfl
theorem dL_law_352 : decode cL_law 352 = .ok (.aload_n 0, 1) := dq_42 dp_cL_law rfl
theorem dL_law_353 : decode cL_law 353 = .ok (.iload_n 3, 1) := dq_29 dp_cL_law rfl
theorem dL_law_354 : decode cL_law 354 = .ok (.iconst 2, 1) := dq_5 dp_cL_law rfl
theorem dL_law_355 : decode cL_law 355 = .ok (.iadd, 1) := dq_96 dp_cL_law rfl
theorem dL_law_356 : decode cL_law 356 = .ok (.iaload, 1) := dq_46 dp_cL_law rfl
theorem dL_law_357 : decode cL_law 357 = .ok (.aload_n 0, 1) := dq_42 dp_cL_law rfl
theorem dL_law_358 : decode cL_law 358 = .ok (.iload_n 3, 1) := dq_29 dp_cL_law rfl
theorem dL_law_359 : decode cL_law 359 = .ok (.iconst 3, 1) := dq_6 dp_cL_law rfl
theorem dL_law_360 : decode cL_law 360 = .ok (.iadd, 1) := dq_96 dp_cL_law rfl
theorem dL_law_361 : decode cL_law 361 = .ok (.iaload, 1) := dq_46 dp_cL_law rfl
theorem dL_law_362 : decode cL_law 362 = .ok (.aload_n 0, 1) := dq_42 dp_cL_law rfl
theorem dL_law_363 : decode cL_law 363 = .ok (.iload_n 3, 1) := dq_29 dp_cL_law rfl
theorem dL_law_364 : decode cL_law 364 = .ok (.iconst 4, 1) := dq_7 dp_cL_law rfl
theorem dL_law_365 : decode cL_law 365 = .ok (.iadd, 1) := dq_96 dp_cL_law rfl
theorem dL_law_366 : decode cL_law 366 = .ok (.iaload, 1) := dq_46 dp_cL_law rfl
theorem dL_law_367 : decode cL_law 367 = .ok (.aload_n 0, 1) := dq_42 dp_cL_law rfl
theorem dL_law_368 : decode cL_law 368 = .ok (.iload_n 3, 1) := dq_29 dp_cL_law rfl
theorem dL_law_369 : decode cL_law 369 = .ok (.iconst 5, 1) := dq_8 dp_cL_law rfl
theorem dL_law_370 : decode cL_law 370 = .ok (.iadd, 1) := dq_96 dp_cL_law rfl
theorem dL_law_371 : decode cL_law 371 = .ok (.iaload, 1) := dq_46 dp_cL_law rfl
theorem dL_law_372 : decode cL_law 372 = .ok (.invokevirtual 29, 3) := dq_182 dp_cL_law rfl
theorem dL_law_375 : decode cL_law 375 = .ok (.pop, 1) := dq_87 dp_cL_law rfl
theorem dL_law_376 : decode cL_law 376 = .ok (.goto 994, 3) := dq_167 (v := 994) dp_cL_law rfl rfl
theorem dL_law_379 : decode cL_law 379 = .ok (.aload_n 1, 1) := dq_43 dp_cL_law rfl
theorem dL_law_380 : decode cL_law 380 = .ok (.aload_n 0, 1) := dq_42 dp_cL_law rfl
theorem dL_law_381 : decode cL_law 381 = .ok (.iload_n 3, 1) := dq_29 dp_cL_law rfl
theorem dL_law_382 : decode cL_law 382 = .ok (.iconst 1, 1) := dq_4 dp_cL_law rfl
theorem dL_law_383 : decode cL_law 383 = .ok (.iadd, 1) := dq_96 dp_cL_law rfl
theorem dL_law_384 : decode cL_law 384 = .ok (.iaload, 1) := dq_46 dp_cL_law rfl
theorem dL_law_385 : decode cL_law 385 = .ok (.aload_n 0, 1) := dq_42 dp_cL_law rfl
theorem dL_law_386 : decode cL_law 386 = .ok (.iload_n 3, 1) := dq_29 dp_cL_law rfl
theorem dL_law_387 : decode cL_law 387 = .ok (.iconst 2, 1) := dq_5 dp_cL_law rfl
theorem dL_law_388 : decode cL_law 388 = .ok (.iadd, 1) := dq_96 dp_cL_law rfl
theorem dL_law_389 : decode cL_law 389 = .ok (.iaload, 1) := dq_46 dp_cL_law rfl
theorem dL_law_390 : decode cL_law 390 = .ok (.invokevirtual 30, 3) := dq_182 dp_cL_law rfl
theorem dL_law_393 : decode cL_law 393 = .ok (.pop2, 1) := dq_88 dp_cL_law rfl
theorem dL_law_394 : decode cL_law 394 = .ok (.aload_n 2, 1) := dq_44 dp_cL_law rfl
theorem dL_law_395 : decode cL_law 395 = .ok (.aload_n 0, 1) := dq_42 dp_cL_law rfl
theorem dL_law_396 : decode cL_law 396 = .ok (.iload_n 3, 1) := dq_29 dp_cL_law rfl
theorem dL_law_397 : decode cL_law 397 = .ok (.iconst 1, 1) := dq_4 dp_cL_law rfl
theorem dL_law_398 : decode cL_law 398 = .ok (.iadd, 1) := dq_96 dp_cL_law rfl
theorem dL_law_399 : decode cL_law 399 = .ok (.iaload, 1) := dq_46 dp_cL_law rfl
theorem dL_law_400 : decode cL_law 400 = .ok (.aload_n 0, 1) := dq_42 dp_cL_law rfl
theorem dL_law_401 : decode cL_law 401 = .ok (.iload_n 3, 1) := dq_29 dp_cL_law rfl
theorem dL_law_402 : decode cL_law 402 = .ok (.iconst 2, 1) := dq_5 dp_cL_law rfl
theorem dL_law_403 : decode cL_law 403 = .ok (.iadd, 1) := dq_96 dp_cL_law rfl
theorem dL_law_404 : decode cL_law 404 = .ok (.iaload, 1) := dq_46 dp_cL_law rfl
theorem dL_law_405 : decode cL_law 405 = .ok (.invokevirtual 34, 3) := dq_182 dp_cL_law rfl
theorem dL_law_408 : decode cL_law 408 = .ok (.pop2, 1) := dq_88 dp_cL_law rfl
theorem dL_law_409 : decode cL_law 409 = .ok (.goto 961, 3) := dq_167 (v := 961) dp_cL_law rfl rfl
theorem dL_law_412 : decode cL_law 412 = .ok (.aload_n 1, 1) := dq_43 dp_cL_law rfl
theorem dL_law_413 : decode cL_law 413 = .ok (.aload_n 0, 1) := dq_42 dp_cL_law rfl
theorem dL_law_414 : decode cL_law 414 = .ok (.iload_n 3, 1) := dq_29 dp_cL_law rfl
theorem dL_law_415 : decode cL_law 415 = .ok (.iconst 1, 1) := dq_4 dp_cL_law rfl
theorem dL_law_416 : decode cL_law 416 = .ok (.iadd, 1) := dq_96 dp_cL_law rfl
theorem dL_law_417 : decode cL_law 417 = .ok (.iaload, 1) := dq_46 dp_cL_law rfl
theorem dL_law_418 : decode cL_law 418 = .ok (.aload_n 0, 1) := dq_42 dp_cL_law rfl
theorem dL_law_419 : decode cL_law 419 = .ok (.iload_n 3, 1) := dq_29 dp_cL_law rfl
theorem dL_law_420 : decode cL_law 420 = .ok (.iconst 2, 1) := dq_5 dp_cL_law rfl
theorem dL_law_421 : decode cL_law 421 = .ok (.iadd, 1) := dq_96 dp_cL_law rfl
theorem dL_law_422 : decode cL_law 422 = .ok (.iaload, 1) := dq_46 dp_cL_law rfl
theorem dL_law_423 : decode cL_law 423 = .ok (.invokevirtual 35, 3) := dq_182 dp_cL_law rfl
theorem dL_law_426 : decode cL_law 426 = .ok (.pop, 1) := dq_87 dp_cL_law rfl
theorem dL_law_427 : decode cL_law 427 = .ok (.aload_n 2, 1) := dq_44 dp_cL_law rfl
theorem dL_law_428 : decode cL_law 428 = .ok (.aload_n 0, 1) := dq_42 dp_cL_law rfl
theorem dL_law_429 : decode cL_law 429 = .ok (.iload_n 3, 1) := dq_29 dp_cL_law rfl
theorem dL_law_430 : decode cL_law 430 = .ok (.iconst 1, 1) := dq_4 dp_cL_law rfl
theorem dL_law_431 : decode cL_law 431 = .ok (.iadd, 1) := dq_96 dp_cL_law rfl
theorem dL_law_432 : decode cL_law 432 = .ok (.iaload, 1) := dq_46 dp_cL_law rfl
theorem dL_law_433 : decode cL_law 433 = .ok (.aload_n 0, 1) := dq_42 dp_cL_law rfl
theorem dL_law_434 : decode cL_law 434 = .ok (.iload_n 3, 1) := dq_29 dp_cL_law rfl
theorem dL_law_435 : decode cL_law 435 = .ok (.iconst 2, 1) := dq_5 dp_cL_law rfl
theorem dL_law_436 : decode cL_law 436 = .ok (.iadd, 1) := dq_96 dp_cL_law rfl
theorem dL_law_437 : decode cL_law 437 = .ok (.iaload, 1) := dq_46 dp_cL_law rfl
theorem dL_law_438 : decode cL_law 438 = .ok (.invokevirtual 39, 3) := dq_182 dp_cL_law rfl
theorem dL_law_441 : decode cL_law 441 = .ok (.pop, 1) := dq_87 dp_cL_law rfl
theorem dL_law_442 : decode cL_law 442 = .ok (.goto 928, 3) := dq_167 (v := 928) dp_cL_law rfl rfl
theorem dL_law_445 : decode cL_law 445 = .ok (.aload_n 1, 1) := dq_43 dp_cL_law rfl
theorem dL_law_446 : decode cL_law 446 = .ok (.aload_n 0, 1) := dq_42 dp_cL_law rfl
theorem dL_law_447 : decode cL_law 447 = .ok (.iload_n 3, 1) := dq_29 dp_cL_law rfl
theorem dL_law_448 : decode cL_law 448 = .ok (.iconst 1, 1) := dq_4 dp_cL_law rfl
theorem dL_law_449 : decode cL_law 449 = .ok (.iadd, 1) := dq_96 dp_cL_law rfl
theorem dL_law_450 : decode cL_law 450 = .ok (.iaload, 1) := dq_46 dp_cL_law rfl
theorem dL_law_451 : decode cL_law 451 = .ok (.invokevirtual 40, 3) := dq_182 dp_cL_law rfl
theorem dL_law_454 : decode cL_law 454 = .ok (.pop, 1) := dq_87 dp_cL_law rfl

