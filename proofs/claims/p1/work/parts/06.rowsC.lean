theorem dX8_init_0 : decode cX8_init 0 = .ok (.aload_n 0, 1) := by decide +kernel
theorem dX8_init_1 : decode cX8_init 1 = .ok (.invokespecial 1, 3) := by decide +kernel
theorem dX8_init_4 : decode cX8_init 4 = .ok (.aload_n 0, 1) := by decide +kernel
theorem dX8_init_5 : decode cX8_init 5 = .ok (.bipush 20, 2) := by decide +kernel
theorem dX8_init_7 : decode cX8_init 7 = .ok (.putfield 7, 3) := by decide +kernel
theorem dX8_init_10 : decode cX8_init 10 = .ok (.aload_n 0, 1) := by decide +kernel
theorem dX8_init_11 : decode cX8_init 11 = .ok (.bipush 60, 2) := by decide +kernel
theorem dX8_init_13 : decode cX8_init 13 = .ok (.putfield 13, 3) := by decide +kernel
theorem dX8_init_16 : decode cX8_init 16 = .ok (.aload_n 0, 1) := by decide +kernel
theorem dX8_init_17 : decode cX8_init 17 = .ok (.iconst 3, 1) := by decide +kernel
theorem dX8_init_18 : decode cX8_init 18 = .ok (.putfield 16, 3) := by decide +kernel
theorem dX8_init_21 : decode cX8_init 21 = .ok (.aload_n 0, 1) := by decide +kernel
theorem dX8_init_22 : decode cX8_init 22 = .ok (.iconst 1, 1) := by decide +kernel
theorem dX8_init_23 : decode cX8_init 23 = .ok (.putfield 19, 3) := by decide +kernel
theorem dX8_init_26 : decode cX8_init 26 = .ok (.aload_n 0, 1) := by decide +kernel
theorem dX8_init_27 : decode cX8_init 27 = .ok (.iconst (-1), 1) := by decide +kernel
theorem dX8_init_28 : decode cX8_init 28 = .ok (.putfield 22, 3) := by decide +kernel
theorem dX8_init_31 : decode cX8_init 31 = .ok (.aload_n 0, 1) := by decide +kernel
theorem dX8_init_32 : decode cX8_init 32 = .ok (.bipush 8, 2) := by decide +kernel
theorem dX8_init_34 : decode cX8_init 34 = .ok (.newarray .int, 2) := by decide +kernel
theorem dX8_init_36 : decode cX8_init 36 = .ok (.putfield 25, 3) := by decide +kernel
theorem dX8_init_39 : decode cX8_init 39 = .ok (.aload_n 0, 1) := by decide +kernel
theorem dX8_init_40 : decode cX8_init 40 = .ok (.bipush 8, 2) := by decide +kernel
theorem dX8_init_42 : decode cX8_init 42 = .ok (.newarray .int, 2) := by decide +kernel
theorem dX8_init_44 : decode cX8_init 44 = .ok (.putfield 29, 3) := by decide +kernel
theorem dX8_init_47 : decode cX8_init 47 = .ok (.aload_n 0, 1) := by decide +kernel
theorem dX8_init_48 : decode cX8_init 48 = .ok (.bipush 8, 2) := by decide +kernel
theorem dX8_init_50 : decode cX8_init 50 = .ok (.newarray .int, 2) := by decide +kernel
theorem dX8_init_52 : decode cX8_init 52 = .ok (.putfield 32, 3) := by decide +kernel
theorem dX8_init_55 : decode cX8_init 55 = .ok (.aload_n 0, 1) := by decide +kernel
theorem dX8_init_56 : decode cX8_init 56 = .ok (.bipush 8, 2) := by decide +kernel
theorem dX8_init_58 : decode cX8_init 58 = .ok (.newarray .int, 2) := by decide +kernel
theorem dX8_init_60 : decode cX8_init 60 = .ok (.putfield 35, 3) := by decide +kernel
theorem dX8_init_63 : decode cX8_init 63 = .ok (.aload_n 0, 1) := by decide +kernel
theorem dX8_init_64 : decode cX8_init 64 = .ok (.bipush 40, 2) := by decide +kernel
theorem dX8_init_66 : decode cX8_init 66 = .ok (.newarray .int, 2) := by decide +kernel
theorem dX8_init_68 : decode cX8_init 68 = .ok (.putfield 38, 3) := by decide +kernel
theorem dX8_init_71 : decode cX8_init 71 = .ok (.aload_n 0, 1) := by decide +kernel
theorem dX8_init_72 : decode cX8_init 72 = .ok (.bipush 40, 2) := by decide +kernel
theorem dX8_init_74 : decode cX8_init 74 = .ok (.newarray .int, 2) := by decide +kernel
theorem dX8_init_76 : decode cX8_init 76 = .ok (.putfield 41, 3) := by decide +kernel
theorem dX8_init_79 : decode cX8_init 79 = .ok (.aload_n 0, 1) := by decide +kernel
theorem dX8_init_80 : decode cX8_init 80 = .ok (.iconst 3, 1) := by decide +kernel
theorem dX8_init_81 : decode cX8_init 81 = .ok (.newarray .int, 2) := by decide +kernel
theorem dX8_init_83 : decode cX8_init 83 = .ok (.dup, 1) := by decide +kernel
theorem dX8_init_84 : decode cX8_init 84 = .ok (.iconst 0, 1) := by decide +kernel
theorem dX8_init_85 : decode cX8_init 85 = .ok (.iconst 5, 1) := by decide +kernel
theorem dX8_init_86 : decode cX8_init 86 = .ok (.iastore, 1) := by decide +kernel
theorem dX8_init_87 : decode cX8_init 87 = .ok (.dup, 1) := by decide +kernel
theorem dX8_init_88 : decode cX8_init 88 = .ok (.iconst 1, 1) := by decide +kernel
theorem dX8_init_89 : decode cX8_init 89 = .ok (.bipush 10, 2) := by decide +kernel
theorem dX8_init_91 : decode cX8_init 91 = .ok (.iastore, 1) := by decide +kernel
theorem dX8_init_92 : decode cX8_init 92 = .ok (.dup, 1) := by decide +kernel
theorem dX8_init_93 : decode cX8_init 93 = .ok (.iconst 2, 1) := by decide +kernel
theorem dX8_init_94 : decode cX8_init 94 = .ok (.bipush 50, 2) := by decide +kernel
theorem dX8_init_96 : decode cX8_init 96 = .ok (.iastore, 1) := by decide +kernel
theorem dX8_init_97 : decode cX8_init 97 = .ok (.putfield 44, 3) := by decide +kernel
theorem dX8_init_100 : decode cX8_init 100 = .ok (.aload_n 0, 1) := by decide +kernel
theorem dX8_init_101 : decode cX8_init 101 = .ok (.bipush 8, 2) := by decide +kernel
theorem dX8_init_103 : decode cX8_init 103 = .ok (.newarray .int, 2) := by decide +kernel
theorem dX8_init_105 : decode cX8_init 105 = .ok (.putfield 47, 3) := by decide +kernel
theorem dX8_init_108 : decode cX8_init 108 = .ok (.aload_n 0, 1) := by decide +kernel
theorem dX8_init_109 : decode cX8_init 109 = .ok (.bipush 8, 2) := by decide +kernel
theorem dX8_init_111 : decode cX8_init 111 = .ok (.newarray .int, 2) := by decide +kernel
theorem dX8_init_113 : decode cX8_init 113 = .ok (.putfield 50, 3) := by decide +kernel
theorem dX8_init_116 : decode cX8_init 116 = .ok (.aload_n 0, 1) := by decide +kernel
theorem dX8_init_117 : decode cX8_init 117 = .ok (.bipush 8, 2) := by decide +kernel
theorem dX8_init_119 : decode cX8_init 119 = .ok (.newarray .int, 2) := by decide +kernel
theorem dX8_init_121 : decode cX8_init 121 = .ok (.putfield 53, 3) := by decide +kernel
theorem dX8_init_124 : decode cX8_init 124 = .ok (.aload_n 0, 1) := by decide +kernel
theorem dX8_init_125 : decode cX8_init 125 = .ok (.bipush 8, 2) := by decide +kernel
theorem dX8_init_127 : decode cX8_init 127 = .ok (.newarray .int, 2) := by decide +kernel
theorem dX8_init_129 : decode cX8_init 129 = .ok (.putfield 56, 3) := by decide +kernel
theorem dX8_init_132 : decode cX8_init 132 = .ok (.aload_n 0, 1) := by decide +kernel
theorem dX8_init_133 : decode cX8_init 133 = .ok (.sipush 1280, 3) := by decide +kernel
theorem dX8_init_136 : decode cX8_init 136 = .ok (.newarray .long, 2) := by decide +kernel
theorem dX8_init_138 : decode cX8_init 138 = .ok (.putfield 59, 3) := by decide +kernel
theorem dX8_init_141 : decode cX8_init 141 = .ok (.aload_n 0, 1) := by decide +kernel
theorem dX8_init_142 : decode cX8_init 142 = .ok (.sipush 160, 3) := by decide +kernel
theorem dX8_init_145 : decode cX8_init 145 = .ok (.newarray .long, 2) := by decide +kernel
theorem dX8_init_147 : decode cX8_init 147 = .ok (.putfield 63, 3) := by decide +kernel
theorem dX8_init_150 : decode cX8_init 150 = .ok (.aload_n 0, 1) := by decide +kernel
theorem dX8_init_151 : decode cX8_init 151 = .ok (.bipush 64, 2) := by decide +kernel
theorem dX8_init_153 : decode cX8_init 153 = .ok (.newarray .int, 2) := by decide +kernel
theorem dX8_init_155 : decode cX8_init 155 = .ok (.dup, 1) := by decide +kernel
theorem dX8_init_156 : decode cX8_init 156 = .ok (.iconst 0, 1) := by decide +kernel
theorem dX8_init_157 : decode cX8_init 157 = .ok (.bipush 116, 2) := by decide +kernel
theorem dX8_init_159 : decode cX8_init 159 = .ok (.iastore, 1) := by decide +kernel
theorem dX8_init_160 : decode cX8_init 160 = .ok (.dup, 1) := by decide +kernel
theorem dX8_init_161 : decode cX8_init 161 = .ok (.iconst 1, 1) := by decide +kernel
theorem dX8_init_162 : decode cX8_init 162 = .ok (.bipush 101, 2) := by decide +kernel
theorem dX8_init_164 : decode cX8_init 164 = .ok (.iastore, 1) := by decide +kernel
theorem dX8_init_165 : decode cX8_init 165 = .ok (.dup, 1) := by decide +kernel
theorem dX8_init_166 : decode cX8_init 166 = .ok (.iconst 2, 1) := by decide +kernel
theorem dX8_init_167 : decode cX8_init 167 = .ok (.bipush 101, 2) := by decide +kernel
theorem dX8_init_169 : decode cX8_init 169 = .ok (.iastore, 1) := by decide +kernel
theorem dX8_init_170 : decode cX8_init 170 = .ok (.dup, 1) := by decide +kernel
theorem dX8_init_171 : decode cX8_init 171 = .ok (.iconst 3, 1) := by decide +kernel
theorem dX8_init_172 : decode cX8_init 172 = .ok (.bipush 116, 2) := by decide +kernel
theorem dX8_init_174 : decode cX8_init 174 = .ok (.iastore, 1) := by decide +kernel
theorem dX8_init_175 : decode cX8_init 175 = .ok (.dup, 1) := by decide +kernel
theorem dX8_init_176 : decode cX8_init 176 = .ok (.iconst 4, 1) := by decide +kernel
theorem dX8_init_177 : decode cX8_init 177 = .ok (.bipush 104, 2) := by decide +kernel
theorem dX8_init_179 : decode cX8_init 179 = .ok (.iastore, 1) := by decide +kernel
theorem dX8_init_180 : decode cX8_init 180 = .ok (.dup, 1) := by decide +kernel
theorem dX8_init_181 : decode cX8_init 181 = .ok (.iconst 5, 1) := by decide +kernel
theorem dX8_init_182 : decode cX8_init 182 = .ok (.bipush 32, 2) := by decide +kernel
theorem dX8_init_184 : decode cX8_init 184 = .ok (.iastore, 1) := by decide +kernel
theorem dX8_init_185 : decode cX8_init 185 = .ok (.dup, 1) := by decide +kernel
theorem dX8_init_186 : decode cX8_init 186 = .ok (.bipush 6, 2) := by decide +kernel
theorem dX8_init_188 : decode cX8_init 188 = .ok (.iconst 0, 1) := by decide +kernel
theorem dX8_init_189 : decode cX8_init 189 = .ok (.iastore, 1) := by decide +kernel
theorem dX8_init_190 : decode cX8_init 190 = .ok (.dup, 1) := by decide +kernel
theorem dX8_init_191 : decode cX8_init 191 = .ok (.bipush 7, 2) := by decide +kernel
theorem dX8_init_193 : decode cX8_init 193 = .ok (.bipush 108, 2) := by decide +kernel
theorem dX8_init_195 : decode cX8_init 195 = .ok (.iastore, 1) := by decide +kernel
theorem dX8_init_196 : decode cX8_init 196 = .ok (.dup, 1) := by decide +kernel
theorem dX8_init_197 : decode cX8_init 197 = .ok (.bipush 8, 2) := by decide +kernel
theorem dX8_init_199 : decode cX8_init 199 = .ok (.bipush 97, 2) := by decide +kernel
theorem dX8_init_201 : decode cX8_init 201 = .ok (.iastore, 1) := by decide +kernel
theorem dX8_init_202 : decode cX8_init 202 = .ok (.dup, 1) := by decide +kernel
theorem dX8_init_203 : decode cX8_init 203 = .ok (.bipush 9, 2) := by decide +kernel
theorem dX8_init_205 : decode cX8_init 205 = .ok (.bipush 99, 2) := by decide +kernel
theorem dX8_init_207 : decode cX8_init 207 = .ok (.iastore, 1) := by decide +kernel
theorem dX8_init_208 : decode cX8_init 208 = .ok (.dup, 1) := by decide +kernel
theorem dX8_init_209 : decode cX8_init 209 = .ok (.bipush 10, 2) := by decide +kernel
theorem dX8_init_211 : decode cX8_init 211 = .ok (.bipush 107, 2) := by decide +kernel
theorem dX8_init_213 : decode cX8_init 213 = .ok (.iastore, 1) := by decide +kernel
theorem dX8_init_214 : decode cX8_init 214 = .ok (.dup, 1) := by decide +kernel
theorem dX8_init_215 : decode cX8_init 215 = .ok (.bipush 11, 2) := by decide +kernel
theorem dX8_init_217 : decode cX8_init 217 = .ok (.bipush 32, 2) := by decide +kernel
theorem dX8_init_219 : decode cX8_init 219 = .ok (.iastore, 1) := by decide +kernel
theorem dX8_init_220 : decode cX8_init 220 = .ok (.dup, 1) := by decide +kernel
theorem dX8_init_221 : decode cX8_init 221 = .ok (.bipush 12, 2) := by decide +kernel
theorem dX8_init_223 : decode cX8_init 223 = .ok (.iconst 0, 1) := by decide +kernel
theorem dX8_init_224 : decode cX8_init 224 = .ok (.iastore, 1) := by decide +kernel
theorem dX8_init_225 : decode cX8_init 225 = .ok (.dup, 1) := by decide +kernel
theorem dX8_init_226 : decode cX8_init 226 = .ok (.bipush 13, 2) := by decide +kernel
theorem dX8_init_228 : decode cX8_init 228 = .ok (.bipush 115, 2) := by decide +kernel
theorem dX8_init_230 : decode cX8_init 230 = .ok (.iastore, 1) := by decide +kernel
theorem dX8_init_231 : decode cX8_init 231 = .ok (.dup, 1) := by decide +kernel
theorem dX8_init_232 : decode cX8_init 232 = .ok (.bipush 14, 2) := by decide +kernel
theorem dX8_init_234 : decode cX8_init 234 = .ok (.bipush 108, 2) := by decide +kernel
theorem dX8_init_236 : decode cX8_init 236 = .ok (.iastore, 1) := by decide +kernel
theorem dX8_init_237 : decode cX8_init 237 = .ok (.dup, 1) := by decide +kernel
theorem dX8_init_238 : decode cX8_init 238 = .ok (.bipush 15, 2) := by decide +kernel
theorem dX8_init_240 : decode cX8_init 240 = .ok (.bipush 97, 2) := by decide +kernel
theorem dX8_init_242 : decode cX8_init 242 = .ok (.iastore, 1) := by decide +kernel
theorem dX8_init_243 : decode cX8_init 243 = .ok (.dup, 1) := by decide +kernel
theorem dX8_init_244 : decode cX8_init 244 = .ok (.bipush 16, 2) := by decide +kernel
theorem dX8_init_246 : decode cX8_init 246 = .ok (.bipush 99, 2) := by decide +kernel
theorem dX8_init_248 : decode cX8_init 248 = .ok (.iastore, 1) := by decide +kernel
theorem dX8_init_249 : decode cX8_init 249 = .ok (.dup, 1) := by decide +kernel
theorem dX8_init_250 : decode cX8_init 250 = .ok (.bipush 17, 2) := by decide +kernel
theorem dX8_init_252 : decode cX8_init 252 = .ok (.bipush 107, 2) := by decide +kernel
theorem dX8_init_254 : decode cX8_init 254 = .ok (.iastore, 1) := by decide +kernel
theorem dX8_init_255 : decode cX8_init 255 = .ok (.dup, 1) := by decide +kernel
theorem dX8_init_256 : decode cX8_init 256 = .ok (.bipush 18, 2) := by decide +kernel
theorem dX8_init_258 : decode cX8_init 258 = .ok (.bipush 32, 2) := by decide +kernel
theorem dX8_init_260 : decode cX8_init 260 = .ok (.iastore, 1) := by decide +kernel
theorem dX8_init_261 : decode cX8_init 261 = .ok (.dup, 1) := by decide +kernel
theorem dX8_init_262 : decode cX8_init 262 = .ok (.bipush 19, 2) := by decide +kernel
theorem dX8_init_264 : decode cX8_init 264 = .ok (.iconst 0, 1) := by decide +kernel
theorem dX8_init_265 : decode cX8_init 265 = .ok (.iastore, 1) := by decide +kernel
theorem dX8_init_266 : decode cX8_init 266 = .ok (.dup, 1) := by decide +kernel
theorem dX8_init_267 : decode cX8_init 267 = .ok (.bipush 20, 2) := by decide +kernel
theorem dX8_init_269 : decode cX8_init 269 = .ok (.bipush 112, 2) := by decide +kernel
theorem dX8_init_271 : decode cX8_init 271 = .ok (.iastore, 1) := by decide +kernel
theorem dX8_init_272 : decode cX8_init 272 = .ok (.dup, 1) := by decide +kernel
theorem dX8_init_273 : decode cX8_init 273 = .ok (.bipush 21, 2) := by decide +kernel
theorem dX8_init_275 : decode cX8_init 275 = .ok (.bipush 117, 2) := by decide +kernel
theorem dX8_init_277 : decode cX8_init 277 = .ok (.iastore, 1) := by decide +kernel
theorem dX8_init_278 : decode cX8_init 278 = .ok (.dup, 1) := by decide +kernel
theorem dX8_init_279 : decode cX8_init 279 = .ok (.bipush 22, 2) := by decide +kernel
theorem dX8_init_281 : decode cX8_init 281 = .ok (.bipush 108, 2) := by decide +kernel
theorem dX8_init_283 : decode cX8_init 283 = .ok (.iastore, 1) := by decide +kernel
theorem dX8_init_284 : decode cX8_init 284 = .ok (.dup, 1) := by decide +kernel
theorem dX8_init_285 : decode cX8_init 285 = .ok (.bipush 23, 2) := by decide +kernel
theorem dX8_init_287 : decode cX8_init 287 = .ok (.bipush 108, 2) := by decide +kernel
theorem dX8_init_289 : decode cX8_init 289 = .ok (.iastore, 1) := by decide +kernel
theorem dX8_init_290 : decode cX8_init 290 = .ok (.dup, 1) := by decide +kernel
theorem dX8_init_291 : decode cX8_init 291 = .ok (.bipush 24, 2) := by decide +kernel
theorem dX8_init_293 : decode cX8_init 293 = .ok (.bipush 32, 2) := by decide +kernel
theorem dX8_init_295 : decode cX8_init 295 = .ok (.iastore, 1) := by decide +kernel
theorem dX8_init_296 : decode cX8_init 296 = .ok (.dup, 1) := by decide +kernel
theorem dX8_init_297 : decode cX8_init 297 = .ok (.bipush 25, 2) := by decide +kernel
theorem dX8_init_299 : decode cX8_init 299 = .ok (.iconst 0, 1) := by decide +kernel
theorem dX8_init_300 : decode cX8_init 300 = .ok (.iastore, 1) := by decide +kernel
theorem dX8_init_301 : decode cX8_init 301 = .ok (.dup, 1) := by decide +kernel
theorem dX8_init_302 : decode cX8_init 302 = .ok (.bipush 26, 2) := by decide +kernel
theorem dX8_init_304 : decode cX8_init 304 = .ok (.bipush 100, 2) := by decide +kernel
theorem dX8_init_306 : decode cX8_init 306 = .ok (.iastore, 1) := by decide +kernel
theorem dX8_init_307 : decode cX8_init 307 = .ok (.dup, 1) := by decide +kernel
theorem dX8_init_308 : decode cX8_init 308 = .ok (.bipush 27, 2) := by decide +kernel
theorem dX8_init_310 : decode cX8_init 310 = .ok (.bipush 101, 2) := by decide +kernel
theorem dX8_init_312 : decode cX8_init 312 = .ok (.iastore, 1) := by decide +kernel
theorem dX8_init_313 : decode cX8_init 313 = .ok (.dup, 1) := by decide +kernel
theorem dX8_init_314 : decode cX8_init 314 = .ok (.bipush 28, 2) := by decide +kernel
theorem dX8_init_316 : decode cX8_init 316 = .ok (.bipush 112, 2) := by decide +kernel
theorem dX8_init_318 : decode cX8_init 318 = .ok (.iastore, 1) := by decide +kernel
theorem dX8_init_319 : decode cX8_init 319 = .ok (.dup, 1) := by decide +kernel
theorem dX8_init_320 : decode cX8_init 320 = .ok (.bipush 29, 2) := by decide +kernel
theorem dX8_init_322 : decode cX8_init 322 = .ok (.bipush 116, 2) := by decide +kernel
theorem dX8_init_324 : decode cX8_init 324 = .ok (.iastore, 1) := by decide +kernel
theorem dX8_init_325 : decode cX8_init 325 = .ok (.dup, 1) := by decide +kernel
theorem dX8_init_326 : decode cX8_init 326 = .ok (.bipush 30, 2) := by decide +kernel
theorem dX8_init_328 : decode cX8_init 328 = .ok (.bipush 104, 2) := by decide +kernel
theorem dX8_init_330 : decode cX8_init 330 = .ok (.iastore, 1) := by decide +kernel
theorem dX8_init_331 : decode cX8_init 331 = .ok (.dup, 1) := by decide +kernel
theorem dX8_init_332 : decode cX8_init 332 = .ok (.bipush 31, 2) := by decide +kernel
theorem dX8_init_334 : decode cX8_init 334 = .ok (.bipush 32, 2) := by decide +kernel
theorem dX8_init_336 : decode cX8_init 336 = .ok (.iastore, 1) := by decide +kernel
theorem dX8_init_337 : decode cX8_init 337 = .ok (.dup, 1) := by decide +kernel
theorem dX8_init_338 : decode cX8_init 338 = .ok (.bipush 32, 2) := by decide +kernel
theorem dX8_init_340 : decode cX8_init 340 = .ok (.iconst 0, 1) := by decide +kernel
theorem dX8_init_341 : decode cX8_init 341 = .ok (.iastore, 1) := by decide +kernel
theorem dX8_init_342 : decode cX8_init 342 = .ok (.dup, 1) := by decide +kernel
theorem dX8_init_343 : decode cX8_init 343 = .ok (.bipush 33, 2) := by decide +kernel
theorem dX8_init_345 : decode cX8_init 345 = .ok (.bipush 115, 2) := by decide +kernel
theorem dX8_init_347 : decode cX8_init 347 = .ok (.iastore, 1) := by decide +kernel
theorem dX8_init_348 : decode cX8_init 348 = .ok (.dup, 1) := by decide +kernel
theorem dX8_init_349 : decode cX8_init 349 = .ok (.bipush 34, 2) := by decide +kernel
theorem dX8_init_351 : decode cX8_init 351 = .ok (.bipush 101, 2) := by decide +kernel
theorem dX8_init_353 : decode cX8_init 353 = .ok (.iastore, 1) := by decide +kernel
theorem dX8_init_354 : decode cX8_init 354 = .ok (.dup, 1) := by decide +kernel
theorem dX8_init_355 : decode cX8_init 355 = .ok (.bipush 35, 2) := by decide +kernel
theorem dX8_init_357 : decode cX8_init 357 = .ok (.bipush 99, 2) := by decide +kernel
theorem dX8_init_359 : decode cX8_init 359 = .ok (.iastore, 1) := by decide +kernel
theorem dX8_init_360 : decode cX8_init 360 = .ok (.dup, 1) := by decide +kernel
theorem dX8_init_361 : decode cX8_init 361 = .ok (.bipush 36, 2) := by decide +kernel
theorem dX8_init_363 : decode cX8_init 363 = .ok (.bipush 111, 2) := by decide +kernel
theorem dX8_init_365 : decode cX8_init 365 = .ok (.iastore, 1) := by decide +kernel
theorem dX8_init_366 : decode cX8_init 366 = .ok (.dup, 1) := by decide +kernel
theorem dX8_init_367 : decode cX8_init 367 = .ok (.bipush 37, 2) := by decide +kernel
theorem dX8_init_369 : decode cX8_init 369 = .ok (.bipush 110, 2) := by decide +kernel
theorem dX8_init_371 : decode cX8_init 371 = .ok (.iastore, 1) := by decide +kernel
theorem dX8_init_372 : decode cX8_init 372 = .ok (.dup, 1) := by decide +kernel
theorem dX8_init_373 : decode cX8_init 373 = .ok (.bipush 38, 2) := by decide +kernel
theorem dX8_init_375 : decode cX8_init 375 = .ok (.bipush 100, 2) := by decide +kernel
theorem dX8_init_377 : decode cX8_init 377 = .ok (.iastore, 1) := by decide +kernel
theorem dX8_init_378 : decode cX8_init 378 = .ok (.dup, 1) := by decide +kernel
theorem dX8_init_379 : decode cX8_init 379 = .ok (.bipush 39, 2) := by decide +kernel
theorem dX8_init_381 : decode cX8_init 381 = .ok (.bipush 115, 2) := by decide +kernel
theorem dX8_init_383 : decode cX8_init 383 = .ok (.iastore, 1) := by decide +kernel
theorem dX8_init_384 : decode cX8_init 384 = .ok (.dup, 1) := by decide +kernel
theorem dX8_init_385 : decode cX8_init 385 = .ok (.bipush 40, 2) := by decide +kernel
theorem dX8_init_387 : decode cX8_init 387 = .ok (.bipush 32, 2) := by decide +kernel
theorem dX8_init_389 : decode cX8_init 389 = .ok (.iastore, 1) := by decide +kernel
theorem dX8_init_390 : decode cX8_init 390 = .ok (.dup, 1) := by decide +kernel
theorem dX8_init_391 : decode cX8_init 391 = .ok (.bipush 41, 2) := by decide +kernel
theorem dX8_init_393 : decode cX8_init 393 = .ok (.iconst 0, 1) := by decide +kernel
theorem dX8_init_394 : decode cX8_init 394 = .ok (.iastore, 1) := by decide +kernel
theorem dX8_init_395 : decode cX8_init 395 = .ok (.dup, 1) := by decide +kernel
theorem dX8_init_396 : decode cX8_init 396 = .ok (.bipush 42, 2) := by decide +kernel
theorem dX8_init_398 : decode cX8_init 398 = .ok (.bipush 104, 2) := by decide +kernel
theorem dX8_init_400 : decode cX8_init 400 = .ok (.iastore, 1) := by decide +kernel
theorem dX8_init_401 : decode cX8_init 401 = .ok (.dup, 1) := by decide +kernel
theorem dX8_init_402 : decode cX8_init 402 = .ok (.bipush 43, 2) := by decide +kernel
theorem dX8_init_404 : decode cX8_init 404 = .ok (.bipush 117, 2) := by decide +kernel
theorem dX8_init_406 : decode cX8_init 406 = .ok (.iastore, 1) := by decide +kernel
theorem dX8_init_407 : decode cX8_init 407 = .ok (.dup, 1) := by decide +kernel
theorem dX8_init_408 : decode cX8_init 408 = .ok (.bipush 44, 2) := by decide +kernel
theorem dX8_init_410 : decode cX8_init 410 = .ok (.bipush 114, 2) := by decide +kernel
theorem dX8_init_412 : decode cX8_init 412 = .ok (.iastore, 1) := by decide +kernel
theorem dX8_init_413 : decode cX8_init 413 = .ok (.dup, 1) := by decide +kernel
theorem dX8_init_414 : decode cX8_init 414 = .ok (.bipush 45, 2) := by decide +kernel
theorem dX8_init_416 : decode cX8_init 416 = .ok (.bipush 114, 2) := by decide +kernel
theorem dX8_init_418 : decode cX8_init 418 = .ok (.iastore, 1) := by decide +kernel
theorem dX8_init_419 : decode cX8_init 419 = .ok (.dup, 1) := by decide +kernel
theorem dX8_init_420 : decode cX8_init 420 = .ok (.bipush 46, 2) := by decide +kernel
theorem dX8_init_422 : decode cX8_init 422 = .ok (.bipush 121, 2) := by decide +kernel
theorem dX8_init_424 : decode cX8_init 424 = .ok (.iastore, 1) := by decide +kernel
theorem dX8_init_425 : decode cX8_init 425 = .ok (.dup, 1) := by decide +kernel
theorem dX8_init_426 : decode cX8_init 426 = .ok (.bipush 47, 2) := by decide +kernel
theorem dX8_init_428 : decode cX8_init 428 = .ok (.bipush 32, 2) := by decide +kernel
theorem dX8_init_430 : decode cX8_init 430 = .ok (.iastore, 1) := by decide +kernel
theorem dX8_init_431 : decode cX8_init 431 = .ok (.dup, 1) := by decide +kernel
theorem dX8_init_432 : decode cX8_init 432 = .ok (.bipush 48, 2) := by decide +kernel
theorem dX8_init_434 : decode cX8_init 434 = .ok (.iconst 0, 1) := by decide +kernel
theorem dX8_init_435 : decode cX8_init 435 = .ok (.iastore, 1) := by decide +kernel
theorem dX8_init_436 : decode cX8_init 436 = .ok (.dup, 1) := by decide +kernel
theorem dX8_init_437 : decode cX8_init 437 = .ok (.bipush 49, 2) := by decide +kernel
theorem dX8_init_439 : decode cX8_init 439 = .ok (.bipush 103, 2) := by decide +kernel
theorem dX8_init_441 : decode cX8_init 441 = .ok (.iastore, 1) := by decide +kernel
theorem dX8_init_442 : decode cX8_init 442 = .ok (.dup, 1) := by decide +kernel
theorem dX8_init_443 : decode cX8_init 443 = .ok (.bipush 50, 2) := by decide +kernel
theorem dX8_init_445 : decode cX8_init 445 = .ok (.bipush 97, 2) := by decide +kernel
theorem dX8_init_447 : decode cX8_init 447 = .ok (.iastore, 1) := by decide +kernel
theorem dX8_init_448 : decode cX8_init 448 = .ok (.dup, 1) := by decide +kernel
theorem dX8_init_449 : decode cX8_init 449 = .ok (.bipush 51, 2) := by decide +kernel
theorem dX8_init_451 : decode cX8_init 451 = .ok (.bipush 112, 2) := by decide +kernel
theorem dX8_init_453 : decode cX8_init 453 = .ok (.iastore, 1) := by decide +kernel
theorem dX8_init_454 : decode cX8_init 454 = .ok (.dup, 1) := by decide +kernel
theorem dX8_init_455 : decode cX8_init 455 = .ok (.bipush 52, 2) := by decide +kernel
theorem dX8_init_457 : decode cX8_init 457 = .ok (.bipush 32, 2) := by decide +kernel
theorem dX8_init_459 : decode cX8_init 459 = .ok (.iastore, 1) := by decide +kernel
theorem dX8_init_460 : decode cX8_init 460 = .ok (.dup, 1) := by decide +kernel
theorem dX8_init_461 : decode cX8_init 461 = .ok (.bipush 53, 2) := by decide +kernel
theorem dX8_init_463 : decode cX8_init 463 = .ok (.iconst 0, 1) := by decide +kernel
theorem dX8_init_464 : decode cX8_init 464 = .ok (.iastore, 1) := by decide +kernel
theorem dX8_init_465 : decode cX8_init 465 = .ok (.dup, 1) := by decide +kernel
theorem dX8_init_466 : decode cX8_init 466 = .ok (.bipush 54, 2) := by decide +kernel
theorem dX8_init_468 : decode cX8_init 468 = .ok (.bipush 99, 2) := by decide +kernel
theorem dX8_init_470 : decode cX8_init 470 = .ok (.iastore, 1) := by decide +kernel
theorem dX8_init_471 : decode cX8_init 471 = .ok (.dup, 1) := by decide +kernel
theorem dX8_init_472 : decode cX8_init 472 = .ok (.bipush 55, 2) := by decide +kernel
theorem dX8_init_474 : decode cX8_init 474 = .ok (.bipush 111, 2) := by decide +kernel
theorem dX8_init_476 : decode cX8_init 476 = .ok (.iastore, 1) := by decide +kernel
theorem dX8_init_477 : decode cX8_init 477 = .ok (.dup, 1) := by decide +kernel
theorem dX8_init_478 : decode cX8_init 478 = .ok (.bipush 56, 2) := by decide +kernel
theorem dX8_init_480 : decode cX8_init 480 = .ok (.bipush 115, 2) := by decide +kernel
theorem dX8_init_482 : decode cX8_init 482 = .ok (.iastore, 1) := by decide +kernel
theorem dX8_init_483 : decode cX8_init 483 = .ok (.dup, 1) := by decide +kernel
theorem dX8_init_484 : decode cX8_init 484 = .ok (.bipush 57, 2) := by decide +kernel
theorem dX8_init_486 : decode cX8_init 486 = .ok (.bipush 116, 2) := by decide +kernel
theorem dX8_init_488 : decode cX8_init 488 = .ok (.iastore, 1) := by decide +kernel
theorem dX8_init_489 : decode cX8_init 489 = .ok (.dup, 1) := by decide +kernel
theorem dX8_init_490 : decode cX8_init 490 = .ok (.bipush 58, 2) := by decide +kernel
theorem dX8_init_492 : decode cX8_init 492 = .ok (.bipush 32, 2) := by decide +kernel
theorem dX8_init_494 : decode cX8_init 494 = .ok (.iastore, 1) := by decide +kernel
theorem dX8_init_495 : decode cX8_init 495 = .ok (.dup, 1) := by decide +kernel
theorem dX8_init_496 : decode cX8_init 496 = .ok (.bipush 59, 2) := by decide +kernel
theorem dX8_init_498 : decode cX8_init 498 = .ok (.iconst 0, 1) := by decide +kernel
theorem dX8_init_499 : decode cX8_init 499 = .ok (.iastore, 1) := by decide +kernel
theorem dX8_init_500 : decode cX8_init 500 = .ok (.dup, 1) := by decide +kernel
theorem dX8_init_501 : decode cX8_init 501 = .ok (.bipush 60, 2) := by decide +kernel
theorem dX8_init_503 : decode cX8_init 503 = .ok (.bipush 97, 2) := by decide +kernel
theorem dX8_init_505 : decode cX8_init 505 = .ok (.iastore, 1) := by decide +kernel
theorem dX8_init_506 : decode cX8_init 506 = .ok (.dup, 1) := by decide +kernel
theorem dX8_init_507 : decode cX8_init 507 = .ok (.bipush 61, 2) := by decide +kernel
theorem dX8_init_509 : decode cX8_init 509 = .ok (.bipush 116, 2) := by decide +kernel
theorem dX8_init_511 : decode cX8_init 511 = .ok (.iastore, 1) := by decide +kernel
theorem dX8_init_512 : decode cX8_init 512 = .ok (.dup, 1) := by decide +kernel
theorem dX8_init_513 : decode cX8_init 513 = .ok (.bipush 62, 2) := by decide +kernel
theorem dX8_init_515 : decode cX8_init 515 = .ok (.bipush 32, 2) := by decide +kernel
theorem dX8_init_517 : decode cX8_init 517 = .ok (.iastore, 1) := by decide +kernel
theorem dX8_init_518 : decode cX8_init 518 = .ok (.dup, 1) := by decide +kernel
theorem dX8_init_519 : decode cX8_init 519 = .ok (.bipush 63, 2) := by decide +kernel
theorem dX8_init_521 : decode cX8_init 521 = .ok (.iconst 0, 1) := by decide +kernel
theorem dX8_init_522 : decode cX8_init 522 = .ok (.iastore, 1) := by decide +kernel
theorem dX8_init_523 : decode cX8_init 523 = .ok (.putfield 66, 3) := by decide +kernel
theorem dX8_init_526 : decode cX8_init 526 = .ok (.aload_n 0, 1) := by decide +kernel
theorem dX8_init_527 : decode cX8_init 527 = .ok (.bipush 10, 2) := by decide +kernel
theorem dX8_init_529 : decode cX8_init 529 = .ok (.newarray .int, 2) := by decide +kernel
theorem dX8_init_531 : decode cX8_init 531 = .ok (.dup, 1) := by decide +kernel
theorem dX8_init_532 : decode cX8_init 532 = .ok (.iconst 0, 1) := by decide +kernel
theorem dX8_init_533 : decode cX8_init 533 = .ok (.iconst 1, 1) := by decide +kernel
theorem dX8_init_534 : decode cX8_init 534 = .ok (.iastore, 1) := by decide +kernel
theorem dX8_init_535 : decode cX8_init 535 = .ok (.dup, 1) := by decide +kernel
theorem dX8_init_536 : decode cX8_init 536 = .ok (.iconst 1, 1) := by decide +kernel
theorem dX8_init_537 : decode cX8_init 537 = .ok (.iconst 1, 1) := by decide +kernel
theorem dX8_init_538 : decode cX8_init 538 = .ok (.iastore, 1) := by decide +kernel
theorem dX8_init_539 : decode cX8_init 539 = .ok (.dup, 1) := by decide +kernel
theorem dX8_init_540 : decode cX8_init 540 = .ok (.iconst 2, 1) := by decide +kernel
theorem dX8_init_541 : decode cX8_init 541 = .ok (.iconst 2, 1) := by decide +kernel
theorem dX8_init_542 : decode cX8_init 542 = .ok (.iastore, 1) := by decide +kernel
theorem dX8_init_543 : decode cX8_init 543 = .ok (.dup, 1) := by decide +kernel
theorem dX8_init_544 : decode cX8_init 544 = .ok (.iconst 3, 1) := by decide +kernel
theorem dX8_init_545 : decode cX8_init 545 = .ok (.iconst 3, 1) := by decide +kernel
theorem dX8_init_546 : decode cX8_init 546 = .ok (.iastore, 1) := by decide +kernel
theorem dX8_init_547 : decode cX8_init 547 = .ok (.dup, 1) := by decide +kernel
theorem dX8_init_548 : decode cX8_init 548 = .ok (.iconst 4, 1) := by decide +kernel
theorem dX8_init_549 : decode cX8_init 549 = .ok (.iconst 1, 1) := by decide +kernel
theorem dX8_init_550 : decode cX8_init 550 = .ok (.iastore, 1) := by decide +kernel
theorem dX8_init_551 : decode cX8_init 551 = .ok (.dup, 1) := by decide +kernel
theorem dX8_init_552 : decode cX8_init 552 = .ok (.iconst 5, 1) := by decide +kernel
theorem dX8_init_553 : decode cX8_init 553 = .ok (.iconst 1, 1) := by decide +kernel
theorem dX8_init_554 : decode cX8_init 554 = .ok (.iastore, 1) := by decide +kernel
theorem dX8_init_555 : decode cX8_init 555 = .ok (.dup, 1) := by decide +kernel
theorem dX8_init_556 : decode cX8_init 556 = .ok (.bipush 6, 2) := by decide +kernel
theorem dX8_init_558 : decode cX8_init 558 = .ok (.iconst 1, 1) := by decide +kernel
theorem dX8_init_559 : decode cX8_init 559 = .ok (.iastore, 1) := by decide +kernel
theorem dX8_init_560 : decode cX8_init 560 = .ok (.dup, 1) := by decide +kernel
theorem dX8_init_561 : decode cX8_init 561 = .ok (.bipush 7, 2) := by decide +kernel
theorem dX8_init_563 : decode cX8_init 563 = .ok (.iconst 1, 1) := by decide +kernel
theorem dX8_init_564 : decode cX8_init 564 = .ok (.iastore, 1) := by decide +kernel
theorem dX8_init_565 : decode cX8_init 565 = .ok (.dup, 1) := by decide +kernel
theorem dX8_init_566 : decode cX8_init 566 = .ok (.bipush 8, 2) := by decide +kernel
theorem dX8_init_568 : decode cX8_init 568 = .ok (.iconst 2, 1) := by decide +kernel
theorem dX8_init_569 : decode cX8_init 569 = .ok (.iastore, 1) := by decide +kernel
theorem dX8_init_570 : decode cX8_init 570 = .ok (.dup, 1) := by decide +kernel
theorem dX8_init_571 : decode cX8_init 571 = .ok (.bipush 9, 2) := by decide +kernel
theorem dX8_init_573 : decode cX8_init 573 = .ok (.iconst 1, 1) := by decide +kernel
theorem dX8_init_574 : decode cX8_init 574 = .ok (.iastore, 1) := by decide +kernel
theorem dX8_init_575 : decode cX8_init 575 = .ok (.putfield 69, 3) := by decide +kernel
theorem dX8_init_578 : decode cX8_init 578 = .ok (.aload_n 0, 1) := by decide +kernel
theorem dX8_init_579 : decode cX8_init 579 = .ok (.iconst 3, 1) := by decide +kernel
theorem dX8_init_580 : decode cX8_init 580 = .ok (.newarray .int, 2) := by decide +kernel
theorem dX8_init_582 : decode cX8_init 582 = .ok (.putfield 72, 3) := by decide +kernel
theorem dX8_init_585 : decode cX8_init 585 = .ok (.aload_n 0, 1) := by decide +kernel
theorem dX8_init_586 : decode cX8_init 586 = .ok (.sipush 130, 3) := by decide +kernel
theorem dX8_init_589 : decode cX8_init 589 = .ok (.newarray .int, 2) := by decide +kernel
theorem dX8_init_591 : decode cX8_init 591 = .ok (.putfield 75, 3) := by decide +kernel
theorem dX8_init_594 : decode cX8_init 594 = .ok (.aload_n 0, 1) := by decide +kernel
theorem dX8_init_595 : decode cX8_init 595 = .ok (.sipush 130, 3) := by decide +kernel
theorem dX8_init_598 : decode cX8_init 598 = .ok (.newarray .int, 2) := by decide +kernel
theorem dX8_init_600 : decode cX8_init 600 = .ok (.putfield 78, 3) := by decide +kernel
theorem dX8_init_603 : decode cX8_init 603 = .ok (.aload_n 0, 1) := by decide +kernel
theorem dX8_init_604 : decode cX8_init 604 = .ok (.iconst 3, 1) := by decide +kernel
theorem dX8_init_605 : decode cX8_init 605 = .ok (.newarray .int, 2) := by decide +kernel
theorem dX8_init_607 : decode cX8_init 607 = .ok (.putfield 81, 3) := by decide +kernel
theorem dX8_init_610 : decode cX8_init 610 = .ok (.aload_n 0, 1) := by decide +kernel
theorem dX8_init_611 : decode cX8_init 611 = .ok (.iconst 3, 1) := by decide +kernel
theorem dX8_init_612 : decode cX8_init 612 = .ok (.newarray .int, 2) := by decide +kernel
theorem dX8_init_614 : decode cX8_init 614 = .ok (.putfield 84, 3) := by decide +kernel
theorem dX8_init_617 : decode cX8_init 617 = .ok (.aload_n 0, 1) := by decide +kernel
theorem dX8_init_618 : decode cX8_init 618 = .ok (.bipush 20, 2) := by decide +kernel
theorem dX8_init_620 : decode cX8_init 620 = .ok (.newarray .int, 2) := by decide +kernel
theorem dX8_init_622 : decode cX8_init 622 = .ok (.putfield 87, 3) := by decide +kernel
theorem dX8_init_625 : decode cX8_init 625 = .ok (.return_, 1) := by decide +kernel
theorem dX8_no_0 : decode cX8_no 0 = .ok (.aload_n 0, 1) := by decide +kernel
theorem dX8_no_1 : decode cX8_no 1 = .ok (.getfield 25, 3) := by decide +kernel
theorem dX8_no_4 : decode cX8_no 4 = .ok (.iload_n 1, 1) := by decide +kernel
theorem dX8_no_5 : decode cX8_no 5 = .ok (.ineg, 1) := by decide +kernel
theorem dX8_no_6 : decode cX8_no 6 = .ok (.dup2, 1) := by decide +kernel
theorem dX8_no_7 : decode cX8_no 7 = .ok (.iaload, 1) := by decide +kernel
theorem dX8_no_8 : decode cX8_no 8 = .ok (.iconst 1, 1) := by decide +kernel
theorem dX8_no_9 : decode cX8_no 9 = .ok (.iadd, 1) := by decide +kernel
theorem dX8_no_10 : decode cX8_no 10 = .ok (.iastore, 1) := by decide +kernel
theorem dX8_no_11 : decode cX8_no 11 = .ok (.iload_n 1, 1) := by decide +kernel
theorem dX8_no_12 : decode cX8_no 12 = .ok (.ireturn, 1) := by decide +kernel
theorem dX8_noTen_0 : decode cX8_noTen 0 = .ok (.aload_n 0, 1) := by decide +kernel
theorem dX8_noTen_1 : decode cX8_noTen 1 = .ok (.getfield 25, 3) := by decide +kernel
theorem dX8_noTen_4 : decode cX8_noTen 4 = .ok (.iload_n 1, 1) := by decide +kernel
theorem dX8_noTen_5 : decode cX8_noTen 5 = .ok (.ineg, 1) := by decide +kernel
theorem dX8_noTen_6 : decode cX8_noTen 6 = .ok (.dup2, 1) := by decide +kernel
theorem dX8_noTen_7 : decode cX8_noTen 7 = .ok (.iaload, 1) := by decide +kernel
theorem dX8_noTen_8 : decode cX8_noTen 8 = .ok (.iconst 1, 1) := by decide +kernel
theorem dX8_noTen_9 : decode cX8_noTen 9 = .ok (.iadd, 1) := by decide +kernel
theorem dX8_noTen_10 : decode cX8_noTen 10 = .ok (.iastore, 1) := by decide +kernel
theorem dX8_noTen_11 : decode cX8_noTen 11 = .ok (.iload_n 1, 1) := by decide +kernel
theorem dX8_noTen_12 : decode cX8_noTen 12 = .ok (.bipush 10, 2) := by decide +kernel
theorem dX8_noTen_14 : decode cX8_noTen 14 = .ok (.isub, 1) := by decide +kernel
theorem dX8_noTen_15 : decode cX8_noTen 15 = .ok (.ireturn, 1) := by decide +kernel
theorem dX8_isShelf_0 : decode cX8_isShelf 0 = .ok (.iload_n 1, 1) := by decide +kernel
theorem dX8_isShelf_1 : decode cX8_isShelf 1 = .ok (.ifCond .lt 13, 3) := by decide +kernel
theorem dX8_isShelf_4 : decode cX8_isShelf 4 = .ok (.iload_n 1, 1) := by decide +kernel
theorem dX8_isShelf_5 : decode cX8_isShelf 5 = .ok (.bipush 8, 2) := by decide +kernel
theorem dX8_isShelf_7 : decode cX8_isShelf 7 = .ok (.if_icmp .ge 7, 3) := by decide +kernel
theorem dX8_isShelf_10 : decode cX8_isShelf 10 = .ok (.iconst 1, 1) := by decide +kernel
theorem dX8_isShelf_11 : decode cX8_isShelf 11 = .ok (.goto 4, 3) := by decide +kernel
theorem dX8_isShelf_14 : decode cX8_isShelf 14 = .ok (.iconst 0, 1) := by decide +kernel
theorem dX8_isShelf_15 : decode cX8_isShelf 15 = .ok (.ireturn, 1) := by decide +kernel
theorem dX8_isPull_0 : decode cX8_isPull 0 = .ok (.iload_n 1, 1) := by decide +kernel
theorem dX8_isPull_1 : decode cX8_isPull 1 = .ok (.ifCond .lt 15, 3) := by decide +kernel
theorem dX8_isPull_4 : decode cX8_isPull 4 = .ok (.iload_n 1, 1) := by decide +kernel
theorem dX8_isPull_5 : decode cX8_isPull 5 = .ok (.aload_n 0, 1) := by decide +kernel
theorem dX8_isPull_6 : decode cX8_isPull 6 = .ok (.getfield 90, 3) := by decide +kernel
theorem dX8_isPull_9 : decode cX8_isPull 9 = .ok (.if_icmp .ge 7, 3) := by decide +kernel
theorem dX8_isPull_12 : decode cX8_isPull 12 = .ok (.iconst 1, 1) := by decide +kernel
theorem dX8_isPull_13 : decode cX8_isPull 13 = .ok (.goto 4, 3) := by decide +kernel
theorem dX8_isPull_16 : decode cX8_isPull 16 = .ok (.iconst 0, 1) := by decide +kernel
theorem dX8_isPull_17 : decode cX8_isPull 17 = .ok (.ireturn, 1) := by decide +kernel
theorem dX8_isTooth_0 : decode cX8_isTooth 0 = .ok (.iload_n 1, 1) := by decide +kernel
theorem dX8_isTooth_1 : decode cX8_isTooth 1 = .ok (.ifCond .lt 15, 3) := by decide +kernel
theorem dX8_isTooth_4 : decode cX8_isTooth 4 = .ok (.iload_n 1, 1) := by decide +kernel
theorem dX8_isTooth_5 : decode cX8_isTooth 5 = .ok (.aload_n 0, 1) := by decide +kernel
theorem dX8_isTooth_6 : decode cX8_isTooth 6 = .ok (.getfield 7, 3) := by decide +kernel
theorem dX8_isTooth_9 : decode cX8_isTooth 9 = .ok (.if_icmp .ge 7, 3) := by decide +kernel
theorem dX8_isTooth_12 : decode cX8_isTooth 12 = .ok (.iconst 1, 1) := by decide +kernel
theorem dX8_isTooth_13 : decode cX8_isTooth 13 = .ok (.goto 4, 3) := by decide +kernel
theorem dX8_isTooth_16 : decode cX8_isTooth 16 = .ok (.iconst 0, 1) := by decide +kernel
theorem dX8_isTooth_17 : decode cX8_isTooth 17 = .ok (.ireturn, 1) := by decide +kernel
set_option maxRecDepth 20000 in
theorem ggX8_row_X8_isShelf : GoodIn wsX8_row wsX8_isShelf := goodIn_r _ [9] (by decide +kernel) (by decide +kernel)
set_option maxRecDepth 20000 in
theorem gX8_row_X8_isShelf : GoodIn wsX8_row (wsV RX8 93 RX8 yX8_isShelf wsX8_isShelf) := goodIn_app (goodIn_of _ (by decide +kernel)) ggX8_row_X8_isShelf
set_option maxRecDepth 20000 in
theorem ggX8_row_X8_no : GoodIn wsX8_row wsX8_no := goodIn_r _ [13, 14, 15, 16, 17, 18, 19, 20, 21, 22, 23, 24, 25, 26, 27, 28, 29, 30, 31, 32, 33, 34, 35, 36, 37, 38, 39, 40, 41, 42, 43, 44, 45, 46, 47, 48, 49, 50, 51, 52] (by decide +kernel) (by decide +kernel)
set_option maxRecDepth 20000 in
theorem gX8_row_X8_no : GoodIn wsX8_row (wsV RX8 97 RX8 yX8_no wsX8_no) := goodIn_app (goodIn_of _ (by decide +kernel)) ggX8_row_X8_no
theorem dX8_row_0 : decode cX8_row 0 = .ok (.aload_n 0, 1) := by decide +kernel
theorem dX8_row_1 : decode cX8_row 1 = .ok (.iload_n 1, 1) := by decide +kernel
theorem dX8_row_2 : decode cX8_row 2 = .ok (.invokevirtual 93, 3) := by decide +kernel
theorem dX8_row_5 : decode cX8_row 5 = .ok (.ifCond .ne 9, 3) := by decide +kernel
theorem dX8_row_8 : decode cX8_row 8 = .ok (.aload_n 0, 1) := by decide +kernel
theorem dX8_row_9 : decode cX8_row 9 = .ok (.iconst (-1), 1) := by decide +kernel
theorem dX8_row_10 : decode cX8_row 10 = .ok (.invokevirtual 97, 3) := by decide +kernel
theorem dX8_row_13 : decode cX8_row 13 = .ok (.ireturn, 1) := by decide +kernel
theorem dX8_row_14 : decode cX8_row 14 = .ok (.iload_n 3, 1) := by decide +kernel
theorem dX8_row_15 : decode cX8_row 15 = .ok (.ifCond .ge 10, 3) := by decide +kernel
theorem dX8_row_18 : decode cX8_row 18 = .ok (.aload_n 0, 1) := by decide +kernel
theorem dX8_row_19 : decode cX8_row 19 = .ok (.bipush (-4), 2) := by decide +kernel
theorem dX8_row_21 : decode cX8_row 21 = .ok (.invokevirtual 97, 3) := by decide +kernel
theorem dX8_row_24 : decode cX8_row 24 = .ok (.ireturn, 1) := by decide +kernel
theorem dX8_row_25 : decode cX8_row 25 = .ok (.iload_n 2, 1) := by decide +kernel
theorem dX8_row_26 : decode cX8_row 26 = .ok (.ifCond .lt 8, 3) := by decide +kernel
theorem dX8_row_29 : decode cX8_row 29 = .ok (.iload_n 2, 1) := by decide +kernel
theorem dX8_row_30 : decode cX8_row 30 = .ok (.iconst 3, 1) := by decide +kernel
theorem dX8_row_31 : decode cX8_row 31 = .ok (.if_icmp .le 10, 3) := by decide +kernel
theorem dX8_row_34 : decode cX8_row 34 = .ok (.aload_n 0, 1) := by decide +kernel
theorem dX8_row_35 : decode cX8_row 35 = .ok (.bipush (-6), 2) := by decide +kernel
theorem dX8_row_37 : decode cX8_row 37 = .ok (.invokevirtual 97, 3) := by decide +kernel
theorem dX8_row_40 : decode cX8_row 40 = .ok (.ireturn, 1) := by decide +kernel
theorem dX8_row_41 : decode cX8_row 41 = .ok (.iload_n 3, 1) := by decide +kernel
theorem dX8_row_42 : decode cX8_row 42 = .ok (.sipush 160, 3) := by decide +kernel
theorem dX8_row_45 : decode cX8_row 45 = .ok (.if_icmp .le 10, 3) := by decide +kernel
theorem dX8_row_48 : decode cX8_row 48 = .ok (.aload_n 0, 1) := by decide +kernel
theorem dX8_row_49 : decode cX8_row 49 = .ok (.bipush (-7), 2) := by decide +kernel
theorem dX8_row_51 : decode cX8_row 51 = .ok (.invokevirtual 97, 3) := by decide +kernel
theorem dX8_row_54 : decode cX8_row 54 = .ok (.ireturn, 1) := by decide +kernel
theorem dX8_row_55 : decode cX8_row 55 = .ok (.aload_n 0, 1) := by decide +kernel
theorem dX8_row_56 : decode cX8_row 56 = .ok (.getfield 47, 3) := by decide +kernel
theorem dX8_row_59 : decode cX8_row 59 = .ok (.iload_n 1, 1) := by decide +kernel
theorem dX8_row_60 : decode cX8_row 60 = .ok (.iconst 1, 1) := by decide +kernel
theorem dX8_row_61 : decode cX8_row 61 = .ok (.iastore, 1) := by decide +kernel
theorem dX8_row_62 : decode cX8_row 62 = .ok (.aload_n 0, 1) := by decide +kernel
theorem dX8_row_63 : decode cX8_row 63 = .ok (.getfield 50, 3) := by decide +kernel
theorem dX8_row_66 : decode cX8_row 66 = .ok (.iload_n 1, 1) := by decide +kernel
theorem dX8_row_67 : decode cX8_row 67 = .ok (.iload_n 2, 1) := by decide +kernel
theorem dX8_row_68 : decode cX8_row 68 = .ok (.iastore, 1) := by decide +kernel
theorem dX8_row_69 : decode cX8_row 69 = .ok (.aload_n 0, 1) := by decide +kernel
theorem dX8_row_70 : decode cX8_row 70 = .ok (.getfield 53, 3) := by decide +kernel
theorem dX8_row_73 : decode cX8_row 73 = .ok (.iload_n 1, 1) := by decide +kernel
theorem dX8_row_74 : decode cX8_row 74 = .ok (.iload_n 3, 1) := by decide +kernel
theorem dX8_row_75 : decode cX8_row 75 = .ok (.iastore, 1) := by decide +kernel
theorem dX8_row_76 : decode cX8_row 76 = .ok (.iconst 0, 1) := by decide +kernel
theorem dX8_row_77 : decode cX8_row 77 = .ok (.istore 4, 2) := by decide +kernel
theorem dX8_row_79 : decode cX8_row 79 = .ok (.iload 4, 2) := by decide +kernel
theorem dX8_row_81 : decode cX8_row 81 = .ok (.sipush 160, 3) := by decide +kernel
theorem dX8_row_84 : decode cX8_row 84 = .ok (.if_icmp .ge 23, 3) := by decide +kernel
theorem dX8_row_87 : decode cX8_row 87 = .ok (.aload_n 0, 1) := by decide +kernel
theorem dX8_row_88 : decode cX8_row 88 = .ok (.getfield 59, 3) := by decide +kernel
theorem dX8_row_91 : decode cX8_row 91 = .ok (.sipush 160, 3) := by decide +kernel
theorem dX8_row_94 : decode cX8_row 94 = .ok (.iload_n 1, 1) := by decide +kernel
theorem dX8_row_95 : decode cX8_row 95 = .ok (.imul, 1) := by decide +kernel
theorem dX8_row_96 : decode cX8_row 96 = .ok (.iload 4, 2) := by decide +kernel
theorem dX8_row_98 : decode cX8_row 98 = .ok (.iadd, 1) := by decide +kernel
theorem dX8_row_99 : decode cX8_row 99 = .ok (.lconst 0, 1) := by decide +kernel
theorem dX8_row_100 : decode cX8_row 100 = .ok (.lastore, 1) := by decide +kernel
theorem dX8_row_101 : decode cX8_row 101 = .ok (.iinc 4 1, 3) := by decide +kernel
theorem dX8_row_104 : decode cX8_row 104 = .ok (.goto (-25), 3) := by decide +kernel
theorem dX8_row_107 : decode cX8_row 107 = .ok (.iconst 1, 1) := by decide +kernel
theorem dX8_row_108 : decode cX8_row 108 = .ok (.ireturn, 1) := by decide +kernel
set_option maxRecDepth 20000 in
theorem ggX8_set_X8_isShelf : GoodIn wsX8_set wsX8_isShelf := goodIn_r _ [9] (by decide +kernel) (by decide +kernel)
set_option maxRecDepth 20000 in
theorem gX8_set_X8_isShelf : GoodIn wsX8_set (wsV RX8 93 RX8 yX8_isShelf wsX8_isShelf) := goodIn_app (goodIn_of _ (by decide +kernel)) ggX8_set_X8_isShelf
set_option maxRecDepth 20000 in
theorem ggX8_set_X8_no : GoodIn wsX8_set wsX8_no := goodIn_r _ [13, 14, 15, 16, 17, 18, 19, 20, 21, 22, 23, 24, 25, 26, 27, 28, 29, 30, 31, 32, 33, 34, 35, 36, 37, 38, 39, 40, 41, 42, 43, 44, 45, 46, 47, 48, 49, 50, 51, 52] (by decide +kernel) (by decide +kernel)
set_option maxRecDepth 20000 in
theorem gX8_set_X8_no : GoodIn wsX8_set (wsV RX8 97 RX8 yX8_no wsX8_no) := goodIn_app (goodIn_of _ (by decide +kernel)) ggX8_set_X8_no
theorem dX8_set_0 : decode cX8_set 0 = .ok (.aload_n 0, 1) := by decide +kernel
theorem dX8_set_1 : decode cX8_set 1 = .ok (.iload_n 1, 1) := by decide +kernel
theorem dX8_set_2 : decode cX8_set 2 = .ok (.invokevirtual 93, 3) := by decide +kernel
theorem dX8_set_5 : decode cX8_set 5 = .ok (.ifCond .ne 9, 3) := by decide +kernel
theorem dX8_set_8 : decode cX8_set 8 = .ok (.aload_n 0, 1) := by decide +kernel
theorem dX8_set_9 : decode cX8_set 9 = .ok (.iconst (-1), 1) := by decide +kernel
theorem dX8_set_10 : decode cX8_set 10 = .ok (.invokevirtual 97, 3) := by decide +kernel
theorem dX8_set_13 : decode cX8_set 13 = .ok (.ireturn, 1) := by decide +kernel
theorem dX8_set_14 : decode cX8_set 14 = .ok (.aload_n 0, 1) := by decide +kernel
theorem dX8_set_15 : decode cX8_set 15 = .ok (.getfield 47, 3) := by decide +kernel
theorem dX8_set_18 : decode cX8_set 18 = .ok (.iload_n 1, 1) := by decide +kernel
theorem dX8_set_19 : decode cX8_set 19 = .ok (.iaload, 1) := by decide +kernel
theorem dX8_set_20 : decode cX8_set 20 = .ok (.iconst 2, 1) := by decide +kernel
theorem dX8_set_21 : decode cX8_set 21 = .ok (.if_icmp .ne 10, 3) := by decide +kernel
theorem dX8_set_24 : decode cX8_set 24 = .ok (.aload_n 0, 1) := by decide +kernel
theorem dX8_set_25 : decode cX8_set 25 = .ok (.bipush (-2), 2) := by decide +kernel
theorem dX8_set_27 : decode cX8_set 27 = .ok (.invokevirtual 97, 3) := by decide +kernel
theorem dX8_set_30 : decode cX8_set 30 = .ok (.ireturn, 1) := by decide +kernel
theorem dX8_set_31 : decode cX8_set 31 = .ok (.aload_n 0, 1) := by decide +kernel
theorem dX8_set_32 : decode cX8_set 32 = .ok (.getfield 47, 3) := by decide +kernel
theorem dX8_set_35 : decode cX8_set 35 = .ok (.iload_n 1, 1) := by decide +kernel
theorem dX8_set_36 : decode cX8_set 36 = .ok (.iaload, 1) := by decide +kernel
theorem dX8_set_37 : decode cX8_set 37 = .ok (.ifCond .ne 10, 3) := by decide +kernel
theorem dX8_set_40 : decode cX8_set 40 = .ok (.aload_n 0, 1) := by decide +kernel
theorem dX8_set_41 : decode cX8_set 41 = .ok (.bipush (-3), 2) := by decide +kernel
theorem dX8_set_43 : decode cX8_set 43 = .ok (.invokevirtual 97, 3) := by decide +kernel
theorem dX8_set_46 : decode cX8_set 46 = .ok (.ireturn, 1) := by decide +kernel
theorem dX8_set_47 : decode cX8_set 47 = .ok (.iload_n 2, 1) := by decide +kernel
theorem dX8_set_48 : decode cX8_set 48 = .ok (.ifCond .lt 13, 3) := by decide +kernel
theorem dX8_set_51 : decode cX8_set 51 = .ok (.iload_n 2, 1) := by decide +kernel
theorem dX8_set_52 : decode cX8_set 52 = .ok (.aload_n 0, 1) := by decide +kernel
theorem dX8_set_53 : decode cX8_set 53 = .ok (.getfield 53, 3) := by decide +kernel
theorem dX8_set_56 : decode cX8_set 56 = .ok (.iload_n 1, 1) := by decide +kernel
theorem dX8_set_57 : decode cX8_set 57 = .ok (.iaload, 1) := by decide +kernel
theorem dX8_set_58 : decode cX8_set 58 = .ok (.if_icmp .lt 10, 3) := by decide +kernel
theorem dX8_set_61 : decode cX8_set 61 = .ok (.aload_n 0, 1) := by decide +kernel
theorem dX8_set_62 : decode cX8_set 62 = .ok (.bipush (-5), 2) := by decide +kernel
theorem dX8_set_64 : decode cX8_set 64 = .ok (.invokevirtual 97, 3) := by decide +kernel
theorem dX8_set_67 : decode cX8_set 67 = .ok (.ireturn, 1) := by decide +kernel
theorem dX8_set_68 : decode cX8_set 68 = .ok (.aload_n 0, 1) := by decide +kernel
theorem dX8_set_69 : decode cX8_set 69 = .ok (.getfield 59, 3) := by decide +kernel
theorem dX8_set_72 : decode cX8_set 72 = .ok (.sipush 160, 3) := by decide +kernel
theorem dX8_set_75 : decode cX8_set 75 = .ok (.iload_n 1, 1) := by decide +kernel
theorem dX8_set_76 : decode cX8_set 76 = .ok (.imul, 1) := by decide +kernel
theorem dX8_set_77 : decode cX8_set 77 = .ok (.iload_n 2, 1) := by decide +kernel
theorem dX8_set_78 : decode cX8_set 78 = .ok (.iadd, 1) := by decide +kernel
theorem dX8_set_79 : decode cX8_set 79 = .ok (.aload_n 0, 1) := by decide +kernel
theorem dX8_set_80 : decode cX8_set 80 = .ok (.getfield 50, 3) := by decide +kernel
theorem dX8_set_83 : decode cX8_set 83 = .ok (.iload_n 1, 1) := by decide +kernel
theorem dX8_set_84 : decode cX8_set 84 = .ok (.iaload, 1) := by decide +kernel
theorem dX8_set_85 : decode cX8_set 85 = .ok (.ifCond .ne 10, 3) := by decide +kernel
theorem dX8_set_88 : decode cX8_set 88 = .ok (.lload_n 3, 1) := by decide +kernel
theorem dX8_set_89 : decode cX8_set 89 = .ok (.l2i, 1) := by decide +kernel
theorem dX8_set_90 : decode cX8_set 90 = .ok (.i2b, 1) := by decide +kernel
theorem dX8_set_91 : decode cX8_set 91 = .ok (.i2l, 1) := by decide +kernel
theorem dX8_set_92 : decode cX8_set 92 = .ok (.goto 37, 3) := by decide +kernel
theorem dX8_set_95 : decode cX8_set 95 = .ok (.aload_n 0, 1) := by decide +kernel
theorem dX8_set_96 : decode cX8_set 96 = .ok (.getfield 50, 3) := by decide +kernel
theorem dX8_set_99 : decode cX8_set 99 = .ok (.iload_n 1, 1) := by decide +kernel
theorem dX8_set_100 : decode cX8_set 100 = .ok (.iaload, 1) := by decide +kernel
theorem dX8_set_101 : decode cX8_set 101 = .ok (.iconst 1, 1) := by decide +kernel
theorem dX8_set_102 : decode cX8_set 102 = .ok (.if_icmp .ne 10, 3) := by decide +kernel
theorem dX8_set_105 : decode cX8_set 105 = .ok (.lload_n 3, 1) := by decide +kernel
theorem dX8_set_106 : decode cX8_set 106 = .ok (.l2i, 1) := by decide +kernel
theorem dX8_set_107 : decode cX8_set 107 = .ok (.i2s, 1) := by decide +kernel
theorem dX8_set_108 : decode cX8_set 108 = .ok (.i2l, 1) := by decide +kernel
theorem dX8_set_109 : decode cX8_set 109 = .ok (.goto 20, 3) := by decide +kernel
theorem dX8_set_112 : decode cX8_set 112 = .ok (.aload_n 0, 1) := by decide +kernel
theorem dX8_set_113 : decode cX8_set 113 = .ok (.getfield 50, 3) := by decide +kernel
theorem dX8_set_116 : decode cX8_set 116 = .ok (.iload_n 1, 1) := by decide +kernel
theorem dX8_set_117 : decode cX8_set 117 = .ok (.iaload, 1) := by decide +kernel
theorem dX8_set_118 : decode cX8_set 118 = .ok (.iconst 2, 1) := by decide +kernel
theorem dX8_set_119 : decode cX8_set 119 = .ok (.if_icmp .ne 9, 3) := by decide +kernel
theorem dX8_set_122 : decode cX8_set 122 = .ok (.lload_n 3, 1) := by decide +kernel
theorem dX8_set_123 : decode cX8_set 123 = .ok (.l2i, 1) := by decide +kernel
theorem dX8_set_124 : decode cX8_set 124 = .ok (.i2l, 1) := by decide +kernel
theorem dX8_set_125 : decode cX8_set 125 = .ok (.goto 4, 3) := by decide +kernel
theorem dX8_set_128 : decode cX8_set 128 = .ok (.lload_n 3, 1) := by decide +kernel
theorem dX8_set_129 : decode cX8_set 129 = .ok (.lastore, 1) := by decide +kernel
theorem dX8_set_130 : decode cX8_set 130 = .ok (.iconst 1, 1) := by decide +kernel
theorem dX8_set_131 : decode cX8_set 131 = .ok (.ireturn, 1) := by decide +kernel
set_option maxRecDepth 20000 in
theorem ggX8_copy_X8_isShelf : GoodIn wsX8_copy wsX8_isShelf := goodIn_r _ [10] (by decide +kernel) (by decide +kernel)
set_option maxRecDepth 20000 in
theorem gX8_copy_X8_isShelf : GoodIn wsX8_copy (wsV RX8 93 RX8 yX8_isShelf wsX8_isShelf) := goodIn_app (goodIn_of _ (by decide +kernel)) ggX8_copy_X8_isShelf
set_option maxRecDepth 20000 in
theorem ggX8_copy_X8_no : GoodIn wsX8_copy wsX8_no := goodIn_r _ [14, 15, 16, 17, 18, 19, 20, 21, 22, 23, 24, 25, 26, 27, 28, 29, 30, 31, 32, 33, 34, 35, 36, 37, 38, 39, 40, 41, 42, 43, 44, 45, 46, 47, 48, 49, 50, 51, 52, 53] (by decide +kernel) (by decide +kernel)
set_option maxRecDepth 20000 in
theorem gX8_copy_X8_no : GoodIn wsX8_copy (wsV RX8 97 RX8 yX8_no wsX8_no) := goodIn_app (goodIn_of _ (by decide +kernel)) ggX8_copy_X8_no
theorem dX8_copy_0 : decode cX8_copy 0 = .ok (.aload_n 0, 1) := by decide +kernel
theorem dX8_copy_1 : decode cX8_copy 1 = .ok (.iload_n 1, 1) := by decide +kernel
theorem dX8_copy_2 : decode cX8_copy 2 = .ok (.invokevirtual 93, 3) := by decide +kernel
theorem dX8_copy_5 : decode cX8_copy 5 = .ok (.ifCond .eq 11, 3) := by decide +kernel
theorem dX8_copy_8 : decode cX8_copy 8 = .ok (.aload_n 0, 1) := by decide +kernel
theorem dX8_copy_9 : decode cX8_copy 9 = .ok (.iload_n 2, 1) := by decide +kernel
theorem dX8_copy_10 : decode cX8_copy 10 = .ok (.invokevirtual 93, 3) := by decide +kernel
theorem dX8_copy_13 : decode cX8_copy 13 = .ok (.ifCond .ne 9, 3) := by decide +kernel
theorem dX8_copy_16 : decode cX8_copy 16 = .ok (.aload_n 0, 1) := by decide +kernel
theorem dX8_copy_17 : decode cX8_copy 17 = .ok (.iconst (-1), 1) := by decide +kernel
theorem dX8_copy_18 : decode cX8_copy 18 = .ok (.invokevirtual 97, 3) := by decide +kernel
theorem dX8_copy_21 : decode cX8_copy 21 = .ok (.ireturn, 1) := by decide +kernel
theorem dX8_copy_22 : decode cX8_copy 22 = .ok (.aload_n 0, 1) := by decide +kernel
theorem dX8_copy_23 : decode cX8_copy 23 = .ok (.getfield 47, 3) := by decide +kernel
theorem dX8_copy_26 : decode cX8_copy 26 = .ok (.iload_n 1, 1) := by decide +kernel
theorem dX8_copy_27 : decode cX8_copy 27 = .ok (.iaload, 1) := by decide +kernel
theorem dX8_copy_28 : decode cX8_copy 28 = .ok (.iconst 2, 1) := by decide +kernel
theorem dX8_copy_29 : decode cX8_copy 29 = .ok (.if_icmp .eq 48, 3) := by decide +kernel
theorem dX8_copy_32 : decode cX8_copy 32 = .ok (.aload_n 0, 1) := by decide +kernel
theorem dX8_copy_33 : decode cX8_copy 33 = .ok (.getfield 47, 3) := by decide +kernel
theorem dX8_copy_36 : decode cX8_copy 36 = .ok (.iload_n 2, 1) := by decide +kernel
theorem dX8_copy_37 : decode cX8_copy 37 = .ok (.iaload, 1) := by decide +kernel
theorem dX8_copy_38 : decode cX8_copy 38 = .ok (.iconst 2, 1) := by decide +kernel
theorem dX8_copy_39 : decode cX8_copy 39 = .ok (.if_icmp .eq 38, 3) := by decide +kernel
theorem dX8_copy_42 : decode cX8_copy 42 = .ok (.aload_n 0, 1) := by decide +kernel
theorem dX8_copy_43 : decode cX8_copy 43 = .ok (.getfield 47, 3) := by decide +kernel
theorem dX8_copy_46 : decode cX8_copy 46 = .ok (.iload_n 1, 1) := by decide +kernel
theorem dX8_copy_47 : decode cX8_copy 47 = .ok (.iaload, 1) := by decide +kernel
theorem dX8_copy_48 : decode cX8_copy 48 = .ok (.iconst 1, 1) := by decide +kernel
theorem dX8_copy_49 : decode cX8_copy 49 = .ok (.if_icmp .ne 35, 3) := by decide +kernel
theorem dX8_copy_52 : decode cX8_copy 52 = .ok (.aload_n 0, 1) := by decide +kernel
theorem dX8_copy_53 : decode cX8_copy 53 = .ok (.getfield 47, 3) := by decide +kernel
theorem dX8_copy_56 : decode cX8_copy 56 = .ok (.iload_n 2, 1) := by decide +kernel
theorem dX8_copy_57 : decode cX8_copy 57 = .ok (.iaload, 1) := by decide +kernel
theorem dX8_copy_58 : decode cX8_copy 58 = .ok (.iconst 1, 1) := by decide +kernel
theorem dX8_copy_59 : decode cX8_copy 59 = .ok (.if_icmp .ne 25, 3) := by decide +kernel
theorem dX8_copy_62 : decode cX8_copy 62 = .ok (.aload_n 0, 1) := by decide +kernel
theorem dX8_copy_63 : decode cX8_copy 63 = .ok (.getfield 50, 3) := by decide +kernel
theorem dX8_copy_66 : decode cX8_copy 66 = .ok (.iload_n 1, 1) := by decide +kernel
theorem dX8_copy_67 : decode cX8_copy 67 = .ok (.iaload, 1) := by decide +kernel
theorem dX8_copy_68 : decode cX8_copy 68 = .ok (.aload_n 0, 1) := by decide +kernel
theorem dX8_copy_69 : decode cX8_copy 69 = .ok (.getfield 50, 3) := by decide +kernel
theorem dX8_copy_72 : decode cX8_copy 72 = .ok (.iload_n 2, 1) := by decide +kernel
theorem dX8_copy_73 : decode cX8_copy 73 = .ok (.iaload, 1) := by decide +kernel
theorem dX8_copy_74 : decode cX8_copy 74 = .ok (.if_icmp .eq 10, 3) := by decide +kernel
theorem dX8_copy_77 : decode cX8_copy 77 = .ok (.aload_n 0, 1) := by decide +kernel
theorem dX8_copy_78 : decode cX8_copy 78 = .ok (.bipush (-2), 2) := by decide +kernel
theorem dX8_copy_80 : decode cX8_copy 80 = .ok (.invokevirtual 97, 3) := by decide +kernel
theorem dX8_copy_83 : decode cX8_copy 83 = .ok (.ireturn, 1) := by decide +kernel
theorem dX8_copy_84 : decode cX8_copy 84 = .ok (.aload_n 0, 1) := by decide +kernel
theorem dX8_copy_85 : decode cX8_copy 85 = .ok (.getfield 47, 3) := by decide +kernel
theorem dX8_copy_88 : decode cX8_copy 88 = .ok (.iload_n 1, 1) := by decide +kernel
theorem dX8_copy_89 : decode cX8_copy 89 = .ok (.iaload, 1) := by decide +kernel
theorem dX8_copy_90 : decode cX8_copy 90 = .ok (.ifCond .eq 12, 3) := by decide +kernel
theorem dX8_copy_93 : decode cX8_copy 93 = .ok (.aload_n 0, 1) := by decide +kernel
theorem dX8_copy_94 : decode cX8_copy 94 = .ok (.getfield 47, 3) := by decide +kernel
theorem dX8_copy_97 : decode cX8_copy 97 = .ok (.iload_n 2, 1) := by decide +kernel
theorem dX8_copy_98 : decode cX8_copy 98 = .ok (.iaload, 1) := by decide +kernel
theorem dX8_copy_99 : decode cX8_copy 99 = .ok (.ifCond .ne 10, 3) := by decide +kernel
theorem dX8_copy_102 : decode cX8_copy 102 = .ok (.aload_n 0, 1) := by decide +kernel
theorem dX8_copy_103 : decode cX8_copy 103 = .ok (.bipush (-3), 2) := by decide +kernel
theorem dX8_copy_105 : decode cX8_copy 105 = .ok (.invokevirtual 97, 3) := by decide +kernel
theorem dX8_copy_108 : decode cX8_copy 108 = .ok (.ireturn, 1) := by decide +kernel
theorem dX8_copy_109 : decode cX8_copy 109 = .ok (.iload 5, 2) := by decide +kernel
theorem dX8_copy_111 : decode cX8_copy 111 = .ok (.ifCond .ge 10, 3) := by decide +kernel
theorem dX8_copy_114 : decode cX8_copy 114 = .ok (.aload_n 0, 1) := by decide +kernel
theorem dX8_copy_115 : decode cX8_copy 115 = .ok (.bipush (-4), 2) := by decide +kernel
theorem dX8_copy_117 : decode cX8_copy 117 = .ok (.invokevirtual 97, 3) := by decide +kernel
theorem dX8_copy_120 : decode cX8_copy 120 = .ok (.ireturn, 1) := by decide +kernel
theorem dX8_copy_121 : decode cX8_copy 121 = .ok (.iload_n 3, 1) := by decide +kernel
theorem dX8_copy_122 : decode cX8_copy 122 = .ok (.ifCond .lt 35, 3) := by decide +kernel
theorem dX8_copy_125 : decode cX8_copy 125 = .ok (.iload 4, 2) := by decide +kernel
theorem dX8_copy_127 : decode cX8_copy 127 = .ok (.ifCond .lt 30, 3) := by decide +kernel
theorem dX8_copy_130 : decode cX8_copy 130 = .ok (.iload_n 3, 1) := by decide +kernel
theorem dX8_copy_131 : decode cX8_copy 131 = .ok (.aload_n 0, 1) := by decide +kernel
theorem dX8_copy_132 : decode cX8_copy 132 = .ok (.getfield 53, 3) := by decide +kernel
theorem dX8_copy_135 : decode cX8_copy 135 = .ok (.iload_n 1, 1) := by decide +kernel
theorem dX8_copy_136 : decode cX8_copy 136 = .ok (.iaload, 1) := by decide +kernel
theorem dX8_copy_137 : decode cX8_copy 137 = .ok (.iload 5, 2) := by decide +kernel
theorem dX8_copy_139 : decode cX8_copy 139 = .ok (.isub, 1) := by decide +kernel
theorem dX8_copy_140 : decode cX8_copy 140 = .ok (.if_icmp .gt 17, 3) := by decide +kernel
theorem dX8_copy_143 : decode cX8_copy 143 = .ok (.iload 4, 2) := by decide +kernel
theorem dX8_copy_145 : decode cX8_copy 145 = .ok (.aload_n 0, 1) := by decide +kernel
theorem dX8_copy_146 : decode cX8_copy 146 = .ok (.getfield 53, 3) := by decide +kernel
theorem dX8_copy_149 : decode cX8_copy 149 = .ok (.iload_n 2, 1) := by decide +kernel
theorem dX8_copy_150 : decode cX8_copy 150 = .ok (.iaload, 1) := by decide +kernel
theorem dX8_copy_151 : decode cX8_copy 151 = .ok (.iload 5, 2) := by decide +kernel
theorem dX8_copy_153 : decode cX8_copy 153 = .ok (.isub, 1) := by decide +kernel
theorem dX8_copy_154 : decode cX8_copy 154 = .ok (.if_icmp .le 10, 3) := by decide +kernel
theorem dX8_copy_157 : decode cX8_copy 157 = .ok (.aload_n 0, 1) := by decide +kernel
theorem dX8_copy_158 : decode cX8_copy 158 = .ok (.bipush (-5), 2) := by decide +kernel
theorem dX8_copy_160 : decode cX8_copy 160 = .ok (.invokevirtual 97, 3) := by decide +kernel
theorem dX8_copy_163 : decode cX8_copy 163 = .ok (.ireturn, 1) := by decide +kernel
theorem dX8_copy_164 : decode cX8_copy 164 = .ok (.iconst 0, 1) := by decide +kernel
theorem dX8_copy_165 : decode cX8_copy 165 = .ok (.istore 6, 2) := by decide +kernel
theorem dX8_copy_167 : decode cX8_copy 167 = .ok (.iload 6, 2) := by decide +kernel
theorem dX8_copy_169 : decode cX8_copy 169 = .ok (.iload 5, 2) := by decide +kernel
theorem dX8_copy_171 : decode cX8_copy 171 = .ok (.if_icmp .ge 31, 3) := by decide +kernel
theorem dX8_copy_174 : decode cX8_copy 174 = .ok (.aload_n 0, 1) := by decide +kernel
theorem dX8_copy_175 : decode cX8_copy 175 = .ok (.getfield 63, 3) := by decide +kernel
theorem dX8_copy_178 : decode cX8_copy 178 = .ok (.iload 6, 2) := by decide +kernel
theorem dX8_copy_180 : decode cX8_copy 180 = .ok (.aload_n 0, 1) := by decide +kernel
theorem dX8_copy_181 : decode cX8_copy 181 = .ok (.getfield 59, 3) := by decide +kernel
theorem dX8_copy_184 : decode cX8_copy 184 = .ok (.sipush 160, 3) := by decide +kernel
theorem dX8_copy_187 : decode cX8_copy 187 = .ok (.iload_n 1, 1) := by decide +kernel
theorem dX8_copy_188 : decode cX8_copy 188 = .ok (.imul, 1) := by decide +kernel
theorem dX8_copy_189 : decode cX8_copy 189 = .ok (.iload_n 3, 1) := by decide +kernel
theorem dX8_copy_190 : decode cX8_copy 190 = .ok (.iadd, 1) := by decide +kernel
theorem dX8_copy_191 : decode cX8_copy 191 = .ok (.iload 6, 2) := by decide +kernel
theorem dX8_copy_193 : decode cX8_copy 193 = .ok (.iadd, 1) := by decide +kernel
theorem dX8_copy_194 : decode cX8_copy 194 = .ok (.laload, 1) := by decide +kernel
theorem dX8_copy_195 : decode cX8_copy 195 = .ok (.lastore, 1) := by decide +kernel
theorem dX8_copy_196 : decode cX8_copy 196 = .ok (.iinc 6 1, 3) := by decide +kernel
theorem dX8_copy_199 : decode cX8_copy 199 = .ok (.goto (-32), 3) := by decide +kernel
theorem dX8_copy_202 : decode cX8_copy 202 = .ok (.iconst 0, 1) := by decide +kernel
theorem dX8_copy_203 : decode cX8_copy 203 = .ok (.istore 6, 2) := by decide +kernel
theorem dX8_copy_205 : decode cX8_copy 205 = .ok (.iload 6, 2) := by decide +kernel
theorem dX8_copy_207 : decode cX8_copy 207 = .ok (.iload 5, 2) := by decide +kernel
theorem dX8_copy_209 : decode cX8_copy 209 = .ok (.if_icmp .ge 32, 3) := by decide +kernel
theorem dX8_copy_212 : decode cX8_copy 212 = .ok (.aload_n 0, 1) := by decide +kernel
theorem dX8_copy_213 : decode cX8_copy 213 = .ok (.getfield 59, 3) := by decide +kernel
theorem dX8_copy_216 : decode cX8_copy 216 = .ok (.sipush 160, 3) := by decide +kernel
theorem dX8_copy_219 : decode cX8_copy 219 = .ok (.iload_n 2, 1) := by decide +kernel
theorem dX8_copy_220 : decode cX8_copy 220 = .ok (.imul, 1) := by decide +kernel
theorem dX8_copy_221 : decode cX8_copy 221 = .ok (.iload 4, 2) := by decide +kernel
theorem dX8_copy_223 : decode cX8_copy 223 = .ok (.iadd, 1) := by decide +kernel
theorem dX8_copy_224 : decode cX8_copy 224 = .ok (.iload 6, 2) := by decide +kernel
theorem dX8_copy_226 : decode cX8_copy 226 = .ok (.iadd, 1) := by decide +kernel
theorem dX8_copy_227 : decode cX8_copy 227 = .ok (.aload_n 0, 1) := by decide +kernel
theorem dX8_copy_228 : decode cX8_copy 228 = .ok (.getfield 63, 3) := by decide +kernel
theorem dX8_copy_231 : decode cX8_copy 231 = .ok (.iload 6, 2) := by decide +kernel
theorem dX8_copy_233 : decode cX8_copy 233 = .ok (.laload, 1) := by decide +kernel
theorem dX8_copy_234 : decode cX8_copy 234 = .ok (.lastore, 1) := by decide +kernel
theorem dX8_copy_235 : decode cX8_copy 235 = .ok (.iinc 6 1, 3) := by decide +kernel
theorem dX8_copy_238 : decode cX8_copy 238 = .ok (.goto (-33), 3) := by decide +kernel
theorem dX8_copy_241 : decode cX8_copy 241 = .ok (.iconst 1, 1) := by decide +kernel
theorem dX8_copy_242 : decode cX8_copy 242 = .ok (.ireturn, 1) := by decide +kernel
set_option maxRecDepth 20000 in
theorem ggX8_element_X8_isShelf : GoodIn wsX8_element wsX8_isShelf := goodIn_r _ [8] (by decide +kernel) (by decide +kernel)
set_option maxRecDepth 20000 in
theorem gX8_element_X8_isShelf : GoodIn wsX8_element (wsV RX8 93 RX8 yX8_isShelf wsX8_isShelf) := goodIn_app (goodIn_of _ (by decide +kernel)) ggX8_element_X8_isShelf
theorem dX8_element_0 : decode cX8_element 0 = .ok (.aload_n 0, 1) := by decide +kernel
theorem dX8_element_1 : decode cX8_element 1 = .ok (.iload_n 1, 1) := by decide +kernel
theorem dX8_element_2 : decode cX8_element 2 = .ok (.invokevirtual 93, 3) := by decide +kernel
theorem dX8_element_5 : decode cX8_element 5 = .ok (.ifCond .eq 42, 3) := by decide +kernel
theorem dX8_element_8 : decode cX8_element 8 = .ok (.aload_n 0, 1) := by decide +kernel
theorem dX8_element_9 : decode cX8_element 9 = .ok (.getfield 47, 3) := by decide +kernel
theorem dX8_element_12 : decode cX8_element 12 = .ok (.iload_n 1, 1) := by decide +kernel
theorem dX8_element_13 : decode cX8_element 13 = .ok (.iaload, 1) := by decide +kernel
theorem dX8_element_14 : decode cX8_element 14 = .ok (.iconst 1, 1) := by decide +kernel
theorem dX8_element_15 : decode cX8_element 15 = .ok (.if_icmp .ne 32, 3) := by decide +kernel
theorem dX8_element_18 : decode cX8_element 18 = .ok (.iload_n 2, 1) := by decide +kernel
theorem dX8_element_19 : decode cX8_element 19 = .ok (.ifCond .lt 28, 3) := by decide +kernel
theorem dX8_element_22 : decode cX8_element 22 = .ok (.iload_n 2, 1) := by decide +kernel
theorem dX8_element_23 : decode cX8_element 23 = .ok (.aload_n 0, 1) := by decide +kernel
theorem dX8_element_24 : decode cX8_element 24 = .ok (.getfield 53, 3) := by decide +kernel
theorem dX8_element_27 : decode cX8_element 27 = .ok (.iload_n 1, 1) := by decide +kernel
theorem dX8_element_28 : decode cX8_element 28 = .ok (.iaload, 1) := by decide +kernel
theorem dX8_element_29 : decode cX8_element 29 = .ok (.if_icmp .ge 18, 3) := by decide +kernel
theorem dX8_element_32 : decode cX8_element 32 = .ok (.aload_n 0, 1) := by decide +kernel
theorem dX8_element_33 : decode cX8_element 33 = .ok (.getfield 59, 3) := by decide +kernel
theorem dX8_element_36 : decode cX8_element 36 = .ok (.sipush 160, 3) := by decide +kernel
theorem dX8_element_39 : decode cX8_element 39 = .ok (.iload_n 1, 1) := by decide +kernel
theorem dX8_element_40 : decode cX8_element 40 = .ok (.imul, 1) := by decide +kernel
theorem dX8_element_41 : decode cX8_element 41 = .ok (.iload_n 2, 1) := by decide +kernel
theorem dX8_element_42 : decode cX8_element 42 = .ok (.iadd, 1) := by decide +kernel
theorem dX8_element_43 : decode cX8_element 43 = .ok (.laload, 1) := by decide +kernel
theorem dX8_element_44 : decode cX8_element 44 = .ok (.goto 4, 3) := by decide +kernel
theorem dX8_element_47 : decode cX8_element 47 = .ok (.lconst 0, 1) := by decide +kernel
theorem dX8_element_48 : decode cX8_element 48 = .ok (.lreturn, 1) := by decide +kernel
set_option maxRecDepth 20000 in
theorem ggX8_show_X8_isShelf : GoodIn wsX8_show wsX8_isShelf := goodIn_r _ [7] (by decide +kernel) (by decide +kernel)
set_option maxRecDepth 20000 in
theorem gX8_show_X8_isShelf : GoodIn wsX8_show (wsV RX8 93 RX8 yX8_isShelf wsX8_isShelf) := goodIn_app (goodIn_of _ (by decide +kernel)) ggX8_show_X8_isShelf
set_option maxRecDepth 20000 in
theorem ggX8_show_X8_isPull : GoodIn wsX8_show wsX8_isPull := goodIn_r _ [11, 12, 18, 19, 20, 21, 22, 23, 24, 25, 26, 27, 28, 29, 30, 31, 32, 33, 34, 35, 36, 37, 38, 39, 40, 41, 42, 43, 44, 45, 46, 47, 48, 49, 50, 51, 52, 53, 54, 55] (by decide +kernel) (by decide +kernel)
set_option maxRecDepth 20000 in
theorem gX8_show_X8_isPull : GoodIn wsX8_show (wsV RX8 101 RX8 yX8_isPull wsX8_isPull) := goodIn_app (goodIn_of _ (by decide +kernel)) ggX8_show_X8_isPull
set_option maxRecDepth 20000 in
theorem ggX8_show_X8_no : GoodIn wsX8_show wsX8_no := goodIn_r _ [16, 17, 18, 19, 20, 21, 22, 23, 24, 25, 26, 27, 28, 29, 30, 31, 32, 33, 34, 35, 36, 37, 38, 39, 40, 41, 42, 43, 44, 45, 46, 47, 48, 49, 50, 51, 52, 53, 54, 55] (by decide +kernel) (by decide +kernel)
set_option maxRecDepth 20000 in
theorem gX8_show_X8_no : GoodIn wsX8_show (wsV RX8 97 RX8 yX8_no wsX8_no) := goodIn_app (goodIn_of _ (by decide +kernel)) ggX8_show_X8_no
theorem dX8_show_0 : decode cX8_show 0 = .ok (.aload_n 0, 1) := by decide +kernel
theorem dX8_show_1 : decode cX8_show 1 = .ok (.iload_n 1, 1) := by decide +kernel
theorem dX8_show_2 : decode cX8_show 2 = .ok (.invokevirtual 93, 3) := by decide +kernel
theorem dX8_show_5 : decode cX8_show 5 = .ok (.ifCond .eq 16, 3) := by decide +kernel
theorem dX8_show_8 : decode cX8_show 8 = .ok (.iload_n 2, 1) := by decide +kernel
theorem dX8_show_9 : decode cX8_show 9 = .ok (.iconst (-1), 1) := by decide +kernel
theorem dX8_show_10 : decode cX8_show 10 = .ok (.if_icmp .eq 17, 3) := by decide +kernel
theorem dX8_show_13 : decode cX8_show 13 = .ok (.aload_n 0, 1) := by decide +kernel
theorem dX8_show_14 : decode cX8_show 14 = .ok (.iload_n 2, 1) := by decide +kernel
theorem dX8_show_15 : decode cX8_show 15 = .ok (.invokevirtual 101, 3) := by decide +kernel
theorem dX8_show_18 : decode cX8_show 18 = .ok (.ifCond .ne 9, 3) := by decide +kernel
theorem dX8_show_21 : decode cX8_show 21 = .ok (.aload_n 0, 1) := by decide +kernel
theorem dX8_show_22 : decode cX8_show 22 = .ok (.iconst (-1), 1) := by decide +kernel
theorem dX8_show_23 : decode cX8_show 23 = .ok (.invokevirtual 97, 3) := by decide +kernel
theorem dX8_show_26 : decode cX8_show 26 = .ok (.ireturn, 1) := by decide +kernel
theorem dX8_show_27 : decode cX8_show 27 = .ok (.aload_n 0, 1) := by decide +kernel
theorem dX8_show_28 : decode cX8_show 28 = .ok (.getfield 47, 3) := by decide +kernel
theorem dX8_show_31 : decode cX8_show 31 = .ok (.iload_n 1, 1) := by decide +kernel
theorem dX8_show_32 : decode cX8_show 32 = .ok (.iload_n 2, 1) := by decide +kernel
theorem dX8_show_33 : decode cX8_show 33 = .ok (.iconst (-1), 1) := by decide +kernel
theorem dX8_show_34 : decode cX8_show 34 = .ok (.if_icmp .ne 7, 3) := by decide +kernel
theorem dX8_show_37 : decode cX8_show 37 = .ok (.iconst 0, 1) := by decide +kernel
theorem dX8_show_38 : decode cX8_show 38 = .ok (.goto 4, 3) := by decide +kernel
theorem dX8_show_41 : decode cX8_show 41 = .ok (.iconst 2, 1) := by decide +kernel
theorem dX8_show_42 : decode cX8_show 42 = .ok (.iastore, 1) := by decide +kernel
theorem dX8_show_43 : decode cX8_show 43 = .ok (.aload_n 0, 1) := by decide +kernel
theorem dX8_show_44 : decode cX8_show 44 = .ok (.getfield 56, 3) := by decide +kernel
theorem dX8_show_47 : decode cX8_show 47 = .ok (.iload_n 1, 1) := by decide +kernel
theorem dX8_show_48 : decode cX8_show 48 = .ok (.iload_n 2, 1) := by decide +kernel
theorem dX8_show_49 : decode cX8_show 49 = .ok (.iastore, 1) := by decide +kernel
theorem dX8_show_50 : decode cX8_show 50 = .ok (.iload_n 2, 1) := by decide +kernel
theorem dX8_show_51 : decode cX8_show 51 = .ok (.iconst (-1), 1) := by decide +kernel
theorem dX8_show_52 : decode cX8_show 52 = .ok (.if_icmp .ne 7, 3) := by decide +kernel
theorem dX8_show_55 : decode cX8_show 55 = .ok (.iconst 0, 1) := by decide +kernel
theorem dX8_show_56 : decode cX8_show 56 = .ok (.goto 4, 3) := by decide +kernel
theorem dX8_show_59 : decode cX8_show 59 = .ok (.iconst 1, 1) := by decide +kernel
theorem dX8_show_60 : decode cX8_show 60 = .ok (.ireturn, 1) := by decide +kernel
set_option maxRecDepth 20000 in
theorem ggX8_holds_X8_isShelf : GoodIn wsX8_holds wsX8_isShelf := goodIn_r _ [8] (by decide +kernel) (by decide +kernel)
set_option maxRecDepth 20000 in
theorem gX8_holds_X8_isShelf : GoodIn wsX8_holds (wsV RX8 93 RX8 yX8_isShelf wsX8_isShelf) := goodIn_app (goodIn_of _ (by decide +kernel)) ggX8_holds_X8_isShelf
theorem dX8_holds_0 : decode cX8_holds 0 = .ok (.aload_n 0, 1) := by decide +kernel
theorem dX8_holds_1 : decode cX8_holds 1 = .ok (.iload_n 1, 1) := by decide +kernel
theorem dX8_holds_2 : decode cX8_holds 2 = .ok (.invokevirtual 93, 3) := by decide +kernel
theorem dX8_holds_5 : decode cX8_holds 5 = .ok (.ifCond .eq 12, 3) := by decide +kernel
theorem dX8_holds_8 : decode cX8_holds 8 = .ok (.aload_n 0, 1) := by decide +kernel
theorem dX8_holds_9 : decode cX8_holds 9 = .ok (.getfield 47, 3) := by decide +kernel
theorem dX8_holds_12 : decode cX8_holds 12 = .ok (.iload_n 1, 1) := by decide +kernel
theorem dX8_holds_13 : decode cX8_holds 13 = .ok (.iaload, 1) := by decide +kernel
theorem dX8_holds_14 : decode cX8_holds 14 = .ok (.ifCond .ne 5, 3) := by decide +kernel
theorem dX8_holds_17 : decode cX8_holds 17 = .ok (.iconst (-1), 1) := by decide +kernel
theorem dX8_holds_18 : decode cX8_holds 18 = .ok (.ireturn, 1) := by decide +kernel
theorem dX8_holds_19 : decode cX8_holds 19 = .ok (.aload_n 0, 1) := by decide +kernel
theorem dX8_holds_20 : decode cX8_holds 20 = .ok (.getfield 47, 3) := by decide +kernel
theorem dX8_holds_23 : decode cX8_holds 23 = .ok (.iload_n 1, 1) := by decide +kernel
theorem dX8_holds_24 : decode cX8_holds 24 = .ok (.iaload, 1) := by decide +kernel
theorem dX8_holds_25 : decode cX8_holds 25 = .ok (.iconst 1, 1) := by decide +kernel
theorem dX8_holds_26 : decode cX8_holds 26 = .ok (.if_icmp .ne 15, 3) := by decide +kernel
theorem dX8_holds_29 : decode cX8_holds 29 = .ok (.bipush 100, 2) := by decide +kernel
theorem dX8_holds_31 : decode cX8_holds 31 = .ok (.aload_n 0, 1) := by decide +kernel
theorem dX8_holds_32 : decode cX8_holds 32 = .ok (.getfield 50, 3) := by decide +kernel
theorem dX8_holds_35 : decode cX8_holds 35 = .ok (.iload_n 1, 1) := by decide +kernel
theorem dX8_holds_36 : decode cX8_holds 36 = .ok (.iaload, 1) := by decide +kernel
theorem dX8_holds_37 : decode cX8_holds 37 = .ok (.iadd, 1) := by decide +kernel
theorem dX8_holds_38 : decode cX8_holds 38 = .ok (.goto 9, 3) := by decide +kernel
theorem dX8_holds_41 : decode cX8_holds 41 = .ok (.aload_n 0, 1) := by decide +kernel
theorem dX8_holds_42 : decode cX8_holds 42 = .ok (.getfield 56, 3) := by decide +kernel
theorem dX8_holds_45 : decode cX8_holds 45 = .ok (.iload_n 1, 1) := by decide +kernel
theorem dX8_holds_46 : decode cX8_holds 46 = .ok (.iaload, 1) := by decide +kernel
theorem dX8_holds_47 : decode cX8_holds 47 = .ok (.ireturn, 1) := by decide +kernel
set_option maxRecDepth 20000 in
theorem ggX8_says_X8_isShelf : GoodIn wsX8_says wsX8_isShelf := goodIn_r _ [9] (by decide +kernel) (by decide +kernel)
set_option maxRecDepth 20000 in
theorem gX8_says_X8_isShelf : GoodIn wsX8_says (wsV RX8 93 RX8 yX8_isShelf wsX8_isShelf) := goodIn_app (goodIn_of _ (by decide +kernel)) ggX8_says_X8_isShelf
set_option maxRecDepth 20000 in
theorem ggX8_says_X8_no : GoodIn wsX8_says wsX8_no := goodIn_r _ [13, 14, 25, 26, 27, 28, 29, 30, 31, 32, 33, 34, 35, 36, 37, 38, 39, 40, 41, 42, 43, 44, 45, 46, 47, 48, 49, 50, 51, 52, 53, 54, 55, 56, 57, 58, 59, 60, 61, 62] (by decide +kernel) (by decide +kernel)
set_option maxRecDepth 20000 in
theorem gX8_says_X8_no : GoodIn wsX8_says (wsV RX8 97 RX8 yX8_no wsX8_no) := goodIn_app (goodIn_of _ (by decide +kernel)) ggX8_says_X8_no
set_option maxRecDepth 20000 in
theorem ggX8_says_X8_step : GoodIn wsX8_says wsX8_step := goodIn_r _ [18, 3, 19, 25, 26, 27, 28, 29, 30, 31, 32, 33, 34, 35, 36, 37, 38, 39, 40, 41, 42, 43, 44, 45, 46, 47, 48, 49, 50, 51, 52, 53, 54, 55, 56, 57, 58, 59, 60, 61, 62] (by decide +kernel) (by decide +kernel)
set_option maxRecDepth 20000 in
theorem gX8_says_X8_step : GoodIn wsX8_says (wsV RX8 104 RX8 yX8_step wsX8_step) := goodIn_app (goodIn_of _ (by decide +kernel)) ggX8_says_X8_step
set_option maxRecDepth 20000 in
theorem ggX8_says_X8_ways : GoodIn wsX8_says wsX8_ways := goodIn_r _ [23, 3, 19, 24, 25, 26, 27, 28, 29, 30, 31, 32, 33, 34, 35, 36, 37, 38, 39, 40, 41, 42, 43, 44, 45, 46, 47, 48, 49, 50, 51, 52, 53, 54, 55, 56, 57, 58, 59, 60, 61, 62] (by decide +kernel) (by decide +kernel)
set_option maxRecDepth 20000 in
theorem gX8_says_X8_ways : GoodIn wsX8_says (wsV RX8 107 RX8 yX8_ways wsX8_ways) := goodIn_app (goodIn_of _ (by decide +kernel)) ggX8_says_X8_ways
theorem dX8_says_0 : decode cX8_says 0 = .ok (.aload_n 0, 1) := by decide +kernel
theorem dX8_says_1 : decode cX8_says 1 = .ok (.iload_n 1, 1) := by decide +kernel
theorem dX8_says_2 : decode cX8_says 2 = .ok (.invokevirtual 93, 3) := by decide +kernel
theorem dX8_says_5 : decode cX8_says 5 = .ok (.ifCond .eq 13, 3) := by decide +kernel
theorem dX8_says_8 : decode cX8_says 8 = .ok (.iload_n 2, 1) := by decide +kernel
theorem dX8_says_9 : decode cX8_says 9 = .ok (.ifCond .lt 9, 3) := by decide +kernel
theorem dX8_says_12 : decode cX8_says 12 = .ok (.iload_n 2, 1) := by decide +kernel
theorem dX8_says_13 : decode cX8_says 13 = .ok (.bipush 6, 2) := by decide +kernel
theorem dX8_says_15 : decode cX8_says 15 = .ok (.if_icmp .le 9, 3) := by decide +kernel
theorem dX8_says_18 : decode cX8_says 18 = .ok (.aload_n 0, 1) := by decide +kernel
theorem dX8_says_19 : decode cX8_says 19 = .ok (.iconst (-1), 1) := by decide +kernel
theorem dX8_says_20 : decode cX8_says 20 = .ok (.invokevirtual 97, 3) := by decide +kernel
theorem dX8_says_23 : decode cX8_says 23 = .ok (.ireturn, 1) := by decide +kernel
theorem dX8_says_24 : decode cX8_says 24 = .ok (.aload_n 0, 1) := by decide +kernel
theorem dX8_says_25 : decode cX8_says 25 = .ok (.getfield 47, 3) := by decide +kernel
theorem dX8_says_28 : decode cX8_says 28 = .ok (.iload_n 1, 1) := by decide +kernel
theorem dX8_says_29 : decode cX8_says 29 = .ok (.iaload, 1) := by decide +kernel
theorem dX8_says_30 : decode cX8_says 30 = .ok (.iconst 1, 1) := by decide +kernel
theorem dX8_says_31 : decode cX8_says 31 = .ok (.if_icmp .ne 10, 3) := by decide +kernel
theorem dX8_says_34 : decode cX8_says 34 = .ok (.aload_n 0, 1) := by decide +kernel
theorem dX8_says_35 : decode cX8_says 35 = .ok (.bipush (-2), 2) := by decide +kernel
theorem dX8_says_37 : decode cX8_says 37 = .ok (.invokevirtual 97, 3) := by decide +kernel
theorem dX8_says_40 : decode cX8_says 40 = .ok (.ireturn, 1) := by decide +kernel
theorem dX8_says_41 : decode cX8_says 41 = .ok (.aload_n 0, 1) := by decide +kernel
theorem dX8_says_42 : decode cX8_says 42 = .ok (.getfield 47, 3) := by decide +kernel
theorem dX8_says_45 : decode cX8_says 45 = .ok (.iload_n 1, 1) := by decide +kernel
theorem dX8_says_46 : decode cX8_says 46 = .ok (.iaload, 1) := by decide +kernel
theorem dX8_says_47 : decode cX8_says 47 = .ok (.ifCond .ne 10, 3) := by decide +kernel
theorem dX8_says_50 : decode cX8_says 50 = .ok (.aload_n 0, 1) := by decide +kernel
theorem dX8_says_51 : decode cX8_says 51 = .ok (.bipush (-3), 2) := by decide +kernel
theorem dX8_says_53 : decode cX8_says 53 = .ok (.invokevirtual 97, 3) := by decide +kernel
theorem dX8_says_56 : decode cX8_says 56 = .ok (.ireturn, 1) := by decide +kernel
theorem dX8_says_57 : decode cX8_says 57 = .ok (.aload_n 0, 1) := by decide +kernel
theorem dX8_says_58 : decode cX8_says 58 = .ok (.getfield 56, 3) := by decide +kernel
theorem dX8_says_61 : decode cX8_says 61 = .ok (.iload_n 1, 1) := by decide +kernel
theorem dX8_says_62 : decode cX8_says 62 = .ok (.iaload, 1) := by decide +kernel
theorem dX8_says_63 : decode cX8_says 63 = .ok (.istore_n 3, 1) := by decide +kernel
theorem dX8_says_64 : decode cX8_says 64 = .ok (.aload_n 0, 1) := by decide +kernel
theorem dX8_says_65 : decode cX8_says 65 = .ok (.getfield 29, 3) := by decide +kernel
theorem dX8_says_68 : decode cX8_says 68 = .ok (.iload_n 3, 1) := by decide +kernel
theorem dX8_says_69 : decode cX8_says 69 = .ok (.iaload, 1) := by decide +kernel
theorem dX8_says_70 : decode cX8_says 70 = .ok (.istore 4, 2) := by decide +kernel
theorem dX8_says_72 : decode cX8_says 72 = .ok (.iload_n 2, 1) := by decide +kernel
theorem dX8_says_73 : decode cX8_says 73 = .ok (.iconst 1, 1) := by decide +kernel
theorem dX8_says_74 : decode cX8_says 74 = .ok (.if_icmp .ne 9, 3) := by decide +kernel
theorem dX8_says_77 : decode cX8_says 77 = .ok (.iload 4, 2) := by decide +kernel
theorem dX8_says_79 : decode cX8_says 79 = .ok (.iconst 3, 1) := by decide +kernel
theorem dX8_says_80 : decode cX8_says 80 = .ok (.if_icmp .eq 26, 3) := by decide +kernel
theorem dX8_says_83 : decode cX8_says 83 = .ok (.iload_n 2, 1) := by decide +kernel
theorem dX8_says_84 : decode cX8_says 84 = .ok (.iconst 2, 1) := by decide +kernel
theorem dX8_says_85 : decode cX8_says 85 = .ok (.if_icmp .ne 9, 3) := by decide +kernel
theorem dX8_says_88 : decode cX8_says 88 = .ok (.iload 4, 2) := by decide +kernel
theorem dX8_says_90 : decode cX8_says 90 = .ok (.iconst 5, 1) := by decide +kernel
theorem dX8_says_91 : decode cX8_says 91 = .ok (.if_icmp .eq 15, 3) := by decide +kernel
theorem dX8_says_94 : decode cX8_says 94 = .ok (.iload_n 2, 1) := by decide +kernel
theorem dX8_says_95 : decode cX8_says 95 = .ok (.iconst 4, 1) := by decide +kernel
theorem dX8_says_96 : decode cX8_says 96 = .ok (.if_icmp .ne 14, 3) := by decide +kernel
theorem dX8_says_99 : decode cX8_says 99 = .ok (.iload 4, 2) := by decide +kernel
theorem dX8_says_101 : decode cX8_says 101 = .ok (.bipush 6, 2) := by decide +kernel
theorem dX8_says_103 : decode cX8_says 103 = .ok (.if_icmp .ne 7, 3) := by decide +kernel
theorem dX8_says_106 : decode cX8_says 106 = .ok (.iconst 1, 1) := by decide +kernel
theorem dX8_says_107 : decode cX8_says 107 = .ok (.goto 4, 3) := by decide +kernel
theorem dX8_says_110 : decode cX8_says 110 = .ok (.iconst 0, 1) := by decide +kernel
theorem dX8_says_111 : decode cX8_says 111 = .ok (.istore 5, 2) := by decide +kernel
theorem dX8_says_113 : decode cX8_says 113 = .ok (.iload_n 2, 1) := by decide +kernel
theorem dX8_says_114 : decode cX8_says 114 = .ok (.ifCond .eq 21, 3) := by decide +kernel
theorem dX8_says_117 : decode cX8_says 117 = .ok (.iload_n 2, 1) := by decide +kernel
theorem dX8_says_118 : decode cX8_says 118 = .ok (.iload 4, 2) := by decide +kernel
theorem dX8_says_120 : decode cX8_says 120 = .ok (.if_icmp .eq 15, 3) := by decide +kernel
theorem dX8_says_123 : decode cX8_says 123 = .ok (.iload 5, 2) := by decide +kernel
theorem dX8_says_125 : decode cX8_says 125 = .ok (.ifCond .ne 10, 3) := by decide +kernel
theorem dX8_says_128 : decode cX8_says 128 = .ok (.aload_n 0, 1) := by decide +kernel
theorem dX8_says_129 : decode cX8_says 129 = .ok (.bipush (-2), 2) := by decide +kernel
theorem dX8_says_131 : decode cX8_says 131 = .ok (.invokevirtual 97, 3) := by decide +kernel
theorem dX8_says_134 : decode cX8_says 134 = .ok (.ireturn, 1) := by decide +kernel
theorem dX8_says_135 : decode cX8_says 135 = .ok (.iload_n 2, 1) := by decide +kernel
theorem dX8_says_136 : decode cX8_says 136 = .ok (.tableswitch 61 0 5 #[40, 61, 47, 61, 53, 47], 40) := by decide +kernel
theorem dX8_says_176 : decode cX8_says 176 = .ok (.aload_n 0, 1) := by decide +kernel
theorem dX8_says_177 : decode cX8_says 177 = .ok (.getfield 35, 3) := by decide +kernel
theorem dX8_says_180 : decode cX8_says 180 = .ok (.iload_n 3, 1) := by decide +kernel
theorem dX8_says_181 : decode cX8_says 181 = .ok (.iaload, 1) := by decide +kernel
theorem dX8_says_182 : decode cX8_says 182 = .ok (.ireturn, 1) := by decide +kernel
theorem dX8_says_183 : decode cX8_says 183 = .ok (.aload_n 0, 1) := by decide +kernel
theorem dX8_says_184 : decode cX8_says 184 = .ok (.iload_n 3, 1) := by decide +kernel
theorem dX8_says_185 : decode cX8_says 185 = .ok (.invokevirtual 104, 3) := by decide +kernel
theorem dX8_says_188 : decode cX8_says 188 = .ok (.ireturn, 1) := by decide +kernel
theorem dX8_says_189 : decode cX8_says 189 = .ok (.aload_n 0, 1) := by decide +kernel
theorem dX8_says_190 : decode cX8_says 190 = .ok (.iload_n 3, 1) := by decide +kernel
theorem dX8_says_191 : decode cX8_says 191 = .ok (.bipush 12, 2) := by decide +kernel
theorem dX8_says_193 : decode cX8_says 193 = .ok (.invokevirtual 107, 3) := by decide +kernel
theorem dX8_says_196 : decode cX8_says 196 = .ok (.ireturn, 1) := by decide +kernel
theorem dX8_says_197 : decode cX8_says 197 = .ok (.aload_n 0, 1) := by decide +kernel
theorem dX8_says_198 : decode cX8_says 198 = .ok (.iload_n 3, 1) := by decide +kernel
theorem dX8_says_199 : decode cX8_says 199 = .ok (.bipush 8, 2) := by decide +kernel
theorem dX8_says_201 : decode cX8_says 201 = .ok (.invokevirtual 107, 3) := by decide +kernel
theorem dX8_says_204 : decode cX8_says 204 = .ok (.ireturn, 1) := by decide +kernel
set_option maxRecDepth 20000 in
theorem ggX8_wanted_X8_isShelf : GoodIn wsX8_wanted wsX8_isShelf := goodIn_r _ [6] (by decide +kernel) (by decide +kernel)
set_option maxRecDepth 20000 in
theorem gX8_wanted_X8_isShelf : GoodIn wsX8_wanted (wsV RX8 93 RX8 yX8_isShelf wsX8_isShelf) := goodIn_app (goodIn_of _ (by decide +kernel)) ggX8_wanted_X8_isShelf
theorem dX8_wanted_0 : decode cX8_wanted 0 = .ok (.aload_n 0, 1) := by decide +kernel
theorem dX8_wanted_1 : decode cX8_wanted 1 = .ok (.iload_n 1, 1) := by decide +kernel
theorem dX8_wanted_2 : decode cX8_wanted 2 = .ok (.invokevirtual 93, 3) := by decide +kernel
theorem dX8_wanted_5 : decode cX8_wanted 5 = .ok (.ifCond .ne 7, 3) := by decide +kernel
theorem dX8_wanted_8 : decode cX8_wanted 8 = .ok (.iconst (-1), 1) := by decide +kernel
theorem dX8_wanted_9 : decode cX8_wanted 9 = .ok (.goto 33, 3) := by decide +kernel
theorem dX8_wanted_12 : decode cX8_wanted 12 = .ok (.aload_n 0, 1) := by decide +kernel
theorem dX8_wanted_13 : decode cX8_wanted 13 = .ok (.getfield 47, 3) := by decide +kernel
theorem dX8_wanted_16 : decode cX8_wanted 16 = .ok (.iload_n 1, 1) := by decide +kernel
theorem dX8_wanted_17 : decode cX8_wanted 17 = .ok (.iaload, 1) := by decide +kernel
theorem dX8_wanted_18 : decode cX8_wanted 18 = .ok (.iconst 2, 1) := by decide +kernel
theorem dX8_wanted_19 : decode cX8_wanted 19 = .ok (.if_icmp .ne 8, 3) := by decide +kernel
theorem dX8_wanted_22 : decode cX8_wanted 22 = .ok (.bipush (-2), 2) := by decide +kernel
theorem dX8_wanted_24 : decode cX8_wanted 24 = .ok (.goto 18, 3) := by decide +kernel
theorem dX8_wanted_27 : decode cX8_wanted 27 = .ok (.aload_n 0, 1) := by decide +kernel
theorem dX8_wanted_28 : decode cX8_wanted 28 = .ok (.getfield 47, 3) := by decide +kernel
theorem dX8_wanted_31 : decode cX8_wanted 31 = .ok (.iload_n 1, 1) := by decide +kernel
theorem dX8_wanted_32 : decode cX8_wanted 32 = .ok (.iaload, 1) := by decide +kernel
theorem dX8_wanted_33 : decode cX8_wanted 33 = .ok (.ifCond .ne 8, 3) := by decide +kernel
theorem dX8_wanted_36 : decode cX8_wanted 36 = .ok (.bipush (-3), 2) := by decide +kernel
theorem dX8_wanted_38 : decode cX8_wanted 38 = .ok (.goto 4, 3) := by decide +kernel
theorem dX8_wanted_41 : decode cX8_wanted 41 = .ok (.iconst 0, 1) := by decide +kernel
theorem dX8_wanted_42 : decode cX8_wanted 42 = .ok (.ireturn, 1) := by decide +kernel
theorem dX8_intAt_0 : decode cX8_intAt 0 = .ok (.aload_n 0, 1) := by decide +kernel
theorem dX8_intAt_1 : decode cX8_intAt 1 = .ok (.getfield 59, 3) := by decide +kernel
theorem dX8_intAt_4 : decode cX8_intAt 4 = .ok (.sipush 160, 3) := by decide +kernel
theorem dX8_intAt_7 : decode cX8_intAt 7 = .ok (.iload_n 1, 1) := by decide +kernel
theorem dX8_intAt_8 : decode cX8_intAt 8 = .ok (.imul, 1) := by decide +kernel
theorem dX8_intAt_9 : decode cX8_intAt 9 = .ok (.iload_n 2, 1) := by decide +kernel
theorem dX8_intAt_10 : decode cX8_intAt 10 = .ok (.iadd, 1) := by decide +kernel
theorem dX8_intAt_11 : decode cX8_intAt 11 = .ok (.laload, 1) := by decide +kernel
theorem dX8_intAt_12 : decode cX8_intAt 12 = .ok (.l2i, 1) := by decide +kernel
theorem dX8_intAt_13 : decode cX8_intAt 13 = .ok (.ireturn, 1) := by decide +kernel
theorem dX8_addsPull_0 : decode cX8_addsPull 0 = .ok (.aload_n 0, 1) := by decide +kernel
theorem dX8_addsPull_1 : decode cX8_addsPull 1 = .ok (.getfield 29, 3) := by decide +kernel
theorem dX8_addsPull_4 : decode cX8_addsPull 4 = .ok (.aload_n 0, 1) := by decide +kernel
theorem dX8_addsPull_5 : decode cX8_addsPull 5 = .ok (.getfield 90, 3) := by decide +kernel
theorem dX8_addsPull_8 : decode cX8_addsPull 8 = .ok (.iload_n 1, 1) := by decide +kernel
theorem dX8_addsPull_9 : decode cX8_addsPull 9 = .ok (.iastore, 1) := by decide +kernel
theorem dX8_addsPull_10 : decode cX8_addsPull 10 = .ok (.aload_n 0, 1) := by decide +kernel
theorem dX8_addsPull_11 : decode cX8_addsPull 11 = .ok (.getfield 32, 3) := by decide +kernel
theorem dX8_addsPull_14 : decode cX8_addsPull 14 = .ok (.aload_n 0, 1) := by decide +kernel
theorem dX8_addsPull_15 : decode cX8_addsPull 15 = .ok (.getfield 90, 3) := by decide +kernel
theorem dX8_addsPull_18 : decode cX8_addsPull 18 = .ok (.iload_n 2, 1) := by decide +kernel
theorem dX8_addsPull_19 : decode cX8_addsPull 19 = .ok (.iastore, 1) := by decide +kernel
theorem dX8_addsPull_20 : decode cX8_addsPull 20 = .ok (.aload_n 0, 1) := by decide +kernel
theorem dX8_addsPull_21 : decode cX8_addsPull 21 = .ok (.getfield 35, 3) := by decide +kernel
theorem dX8_addsPull_24 : decode cX8_addsPull 24 = .ok (.aload_n 0, 1) := by decide +kernel
theorem dX8_addsPull_25 : decode cX8_addsPull 25 = .ok (.getfield 90, 3) := by decide +kernel
theorem dX8_addsPull_28 : decode cX8_addsPull 28 = .ok (.iload_n 3, 1) := by decide +kernel
theorem dX8_addsPull_29 : decode cX8_addsPull 29 = .ok (.iastore, 1) := by decide +kernel
theorem dX8_addsPull_30 : decode cX8_addsPull 30 = .ok (.aload_n 0, 1) := by decide +kernel
theorem dX8_addsPull_31 : decode cX8_addsPull 31 = .ok (.dup, 1) := by decide +kernel
theorem dX8_addsPull_32 : decode cX8_addsPull 32 = .ok (.getfield 90, 3) := by decide +kernel
theorem dX8_addsPull_35 : decode cX8_addsPull 35 = .ok (.dup_x1, 1) := by decide +kernel
theorem dX8_addsPull_36 : decode cX8_addsPull 36 = .ok (.iconst 1, 1) := by decide +kernel
theorem dX8_addsPull_37 : decode cX8_addsPull 37 = .ok (.iadd, 1) := by decide +kernel
theorem dX8_addsPull_38 : decode cX8_addsPull 38 = .ok (.putfield 90, 3) := by decide +kernel
theorem dX8_addsPull_41 : decode cX8_addsPull 41 = .ok (.ireturn, 1) := by decide +kernel
set_option maxRecDepth 20000 in
theorem ggX8_pull_X8_no : GoodIn wsX8_pull wsX8_no := goodIn_r _ [6, 7, 15, 16, 17, 18, 19, 20, 21, 22, 23, 24, 25, 26, 27, 28, 29, 30, 31, 32, 33, 34, 35, 36, 37, 38, 39, 40, 41, 42, 43, 44, 45, 46, 47, 48, 49, 50, 51, 52] (by decide +kernel) (by decide +kernel)
set_option maxRecDepth 20000 in
theorem gX8_pull_X8_no : GoodIn wsX8_pull (wsV RX8 97 RX8 yX8_no wsX8_no) := goodIn_app (goodIn_of _ (by decide +kernel)) ggX8_pull_X8_no
set_option maxRecDepth 20000 in
theorem ggX8_pull_X8_addsPull : GoodIn wsX8_pull wsX8_addsPull := goodIn_r _ [11, 12, 1, 13, 14, 15, 16, 17, 18, 19, 20, 21, 22, 23, 24, 25, 26, 27, 28, 29, 30, 31, 32, 33, 34, 35, 36, 37, 38, 39, 40, 41, 42, 43, 44, 45, 46, 47, 48, 49, 50, 51, 52] (by decide +kernel) (by decide +kernel)
set_option maxRecDepth 20000 in
theorem gX8_pull_X8_addsPull : GoodIn wsX8_pull (wsV RX8 111 RX8 yX8_addsPull wsX8_addsPull) := goodIn_app (goodIn_of _ (by decide +kernel)) ggX8_pull_X8_addsPull
theorem dX8_pull_0 : decode cX8_pull 0 = .ok (.iload_n 1, 1) := by decide +kernel
theorem dX8_pull_1 : decode cX8_pull 1 = .ok (.ifCond .lt 9, 3) := by decide +kernel
theorem dX8_pull_4 : decode cX8_pull 4 = .ok (.iload_n 1, 1) := by decide +kernel
theorem dX8_pull_5 : decode cX8_pull 5 = .ok (.bipush 6, 2) := by decide +kernel
theorem dX8_pull_7 : decode cX8_pull 7 = .ok (.if_icmp .le 9, 3) := by decide +kernel
theorem dX8_pull_10 : decode cX8_pull 10 = .ok (.aload_n 0, 1) := by decide +kernel
theorem dX8_pull_11 : decode cX8_pull 11 = .ok (.iconst (-1), 1) := by decide +kernel
theorem dX8_pull_12 : decode cX8_pull 12 = .ok (.invokevirtual 97, 3) := by decide +kernel
theorem dX8_pull_15 : decode cX8_pull 15 = .ok (.ireturn, 1) := by decide +kernel
theorem dX8_pull_16 : decode cX8_pull 16 = .ok (.iload_n 2, 1) := by decide +kernel
theorem dX8_pull_17 : decode cX8_pull 17 = .ok (.ifCond .lt 20, 3) := by decide +kernel
theorem dX8_pull_20 : decode cX8_pull 20 = .ok (.iload_n 2, 1) := by decide +kernel
theorem dX8_pull_21 : decode cX8_pull 21 = .ok (.bipush 9, 2) := by decide +kernel
theorem dX8_pull_23 : decode cX8_pull 23 = .ok (.if_icmp .gt 14, 3) := by decide +kernel
theorem dX8_pull_26 : decode cX8_pull 26 = .ok (.iload_n 3, 1) := by decide +kernel
theorem dX8_pull_27 : decode cX8_pull 27 = .ok (.iconst 1, 1) := by decide +kernel
theorem dX8_pull_28 : decode cX8_pull 28 = .ok (.if_icmp .lt 9, 3) := by decide +kernel
theorem dX8_pull_31 : decode cX8_pull 31 = .ok (.iload_n 3, 1) := by decide +kernel
theorem dX8_pull_32 : decode cX8_pull 32 = .ok (.bipush 60, 2) := by decide +kernel
theorem dX8_pull_34 : decode cX8_pull 34 = .ok (.if_icmp .le 10, 3) := by decide +kernel
theorem dX8_pull_37 : decode cX8_pull 37 = .ok (.aload_n 0, 1) := by decide +kernel
theorem dX8_pull_38 : decode cX8_pull 38 = .ok (.bipush (-6), 2) := by decide +kernel
theorem dX8_pull_40 : decode cX8_pull 40 = .ok (.invokevirtual 97, 3) := by decide +kernel
theorem dX8_pull_43 : decode cX8_pull 43 = .ok (.ireturn, 1) := by decide +kernel
theorem dX8_pull_44 : decode cX8_pull 44 = .ok (.aload_n 0, 1) := by decide +kernel
theorem dX8_pull_45 : decode cX8_pull 45 = .ok (.getfield 90, 3) := by decide +kernel
theorem dX8_pull_48 : decode cX8_pull 48 = .ok (.bipush 8, 2) := by decide +kernel
theorem dX8_pull_50 : decode cX8_pull 50 = .ok (.if_icmp .ne 12, 3) := by decide +kernel
theorem dX8_pull_53 : decode cX8_pull 53 = .ok (.aload_n 0, 1) := by decide +kernel
theorem dX8_pull_54 : decode cX8_pull 54 = .ok (.bipush (-7), 2) := by decide +kernel
theorem dX8_pull_56 : decode cX8_pull 56 = .ok (.invokevirtual 97, 3) := by decide +kernel
theorem dX8_pull_59 : decode cX8_pull 59 = .ok (.goto 10, 3) := by decide +kernel
theorem dX8_pull_62 : decode cX8_pull 62 = .ok (.aload_n 0, 1) := by decide +kernel
theorem dX8_pull_63 : decode cX8_pull 63 = .ok (.iload_n 1, 1) := by decide +kernel
theorem dX8_pull_64 : decode cX8_pull 64 = .ok (.iload_n 2, 1) := by decide +kernel
theorem dX8_pull_65 : decode cX8_pull 65 = .ok (.iload_n 3, 1) := by decide +kernel
theorem dX8_pull_66 : decode cX8_pull 66 = .ok (.invokevirtual 111, 3) := by decide +kernel
theorem dX8_pull_69 : decode cX8_pull 69 = .ok (.ireturn, 1) := by decide +kernel
set_option maxRecDepth 20000 in
theorem ggX8_pullOf_X8_isPull : GoodIn wsX8_pullOf wsX8_isPull := goodIn_r _ [10, 11, 25, 26, 27, 28, 29, 30, 31, 32, 33, 34, 35, 36, 37, 38, 39, 40, 41, 42, 43, 44, 45, 46, 47, 48, 49, 50, 51, 52, 53, 54, 55, 56, 57, 58, 59, 60, 61, 62] (by decide +kernel) (by decide +kernel)
set_option maxRecDepth 20000 in
theorem gX8_pullOf_X8_isPull : GoodIn wsX8_pullOf (wsV RX8 101 RX8 yX8_isPull wsX8_isPull) := goodIn_app (goodIn_of _ (by decide +kernel)) ggX8_pullOf_X8_isPull
set_option maxRecDepth 20000 in
theorem ggX8_pullOf_X8_no : GoodIn wsX8_pullOf wsX8_no := goodIn_r _ [15, 16, 25, 26, 27, 28, 29, 30, 31, 32, 33, 34, 35, 36, 37, 38, 39, 40, 41, 42, 43, 44, 45, 46, 47, 48, 49, 50, 51, 52, 53, 54, 55, 56, 57, 58, 59, 60, 61, 62] (by decide +kernel) (by decide +kernel)
set_option maxRecDepth 20000 in
theorem gX8_pullOf_X8_no : GoodIn wsX8_pullOf (wsV RX8 97 RX8 yX8_no wsX8_no) := goodIn_app (goodIn_of _ (by decide +kernel)) ggX8_pullOf_X8_no
set_option maxRecDepth 20000 in
theorem ggX8_pullOf_X8_step : GoodIn wsX8_pullOf wsX8_step := goodIn_r _ [20, 1, 2, 25, 26, 27, 28, 29, 30, 31, 32, 33, 34, 35, 36, 37, 38, 39, 40, 41, 42, 43, 44, 45, 46, 47, 48, 49, 50, 51, 52, 53, 54, 55, 56, 57, 58, 59, 60, 61, 62] (by decide +kernel) (by decide +kernel)
set_option maxRecDepth 20000 in
theorem gX8_pullOf_X8_step : GoodIn wsX8_pullOf (wsV RX8 104 RX8 yX8_step wsX8_step) := goodIn_app (goodIn_of _ (by decide +kernel)) ggX8_pullOf_X8_step
set_option maxRecDepth 20000 in
theorem ggX8_pullOf_X8_mayBe : GoodIn wsX8_pullOf wsX8_mayBe := goodIn_r _ [24, 3, 25, 26, 27, 28, 29, 30, 31, 32, 33, 34, 35, 36, 37, 38, 39, 40, 41, 42, 43, 44, 45, 46, 47, 48, 49, 50, 51, 52, 53, 54, 55, 56, 57, 58, 59, 60, 61, 62] (by decide +kernel) (by decide +kernel)
set_option maxRecDepth 20000 in
theorem gX8_pullOf_X8_mayBe : GoodIn wsX8_pullOf (wsV RX8 118 RX8 yX8_mayBe wsX8_mayBe) := goodIn_app (goodIn_of _ (by decide +kernel)) ggX8_pullOf_X8_mayBe
theorem dX8_pullOf_0 : decode cX8_pullOf 0 = .ok (.aload_n 0, 1) := by decide +kernel
theorem dX8_pullOf_1 : decode cX8_pullOf 1 = .ok (.iload_n 1, 1) := by decide +kernel
theorem dX8_pullOf_2 : decode cX8_pullOf 2 = .ok (.invokevirtual 101, 3) := by decide +kernel
theorem dX8_pullOf_5 : decode cX8_pullOf 5 = .ok (.ifCond .ne 10, 3) := by decide +kernel
theorem dX8_pullOf_8 : decode cX8_pullOf 8 = .ok (.aload_n 0, 1) := by decide +kernel
theorem dX8_pullOf_9 : decode cX8_pullOf 9 = .ok (.bipush (-5), 2) := by decide +kernel
theorem dX8_pullOf_11 : decode cX8_pullOf 11 = .ok (.invokevirtual 97, 3) := by decide +kernel
theorem dX8_pullOf_14 : decode cX8_pullOf 14 = .ok (.ireturn, 1) := by decide +kernel
theorem dX8_pullOf_15 : decode cX8_pullOf 15 = .ok (.iload_n 2, 1) := by decide +kernel
theorem dX8_pullOf_16 : decode cX8_pullOf 16 = .ok (.tableswitch 85 0 4 #[36, 43, 50, 57, 63], 36) := by decide +kernel
theorem dX8_pullOf_52 : decode cX8_pullOf 52 = .ok (.aload_n 0, 1) := by decide +kernel
theorem dX8_pullOf_53 : decode cX8_pullOf 53 = .ok (.getfield 29, 3) := by decide +kernel
theorem dX8_pullOf_56 : decode cX8_pullOf 56 = .ok (.iload_n 1, 1) := by decide +kernel
theorem dX8_pullOf_57 : decode cX8_pullOf 57 = .ok (.iaload, 1) := by decide +kernel
theorem dX8_pullOf_58 : decode cX8_pullOf 58 = .ok (.ireturn, 1) := by decide +kernel
theorem dX8_pullOf_59 : decode cX8_pullOf 59 = .ok (.aload_n 0, 1) := by decide +kernel
theorem dX8_pullOf_60 : decode cX8_pullOf 60 = .ok (.getfield 32, 3) := by decide +kernel
theorem dX8_pullOf_63 : decode cX8_pullOf 63 = .ok (.iload_n 1, 1) := by decide +kernel
theorem dX8_pullOf_64 : decode cX8_pullOf 64 = .ok (.iaload, 1) := by decide +kernel
theorem dX8_pullOf_65 : decode cX8_pullOf 65 = .ok (.ireturn, 1) := by decide +kernel
theorem dX8_pullOf_66 : decode cX8_pullOf 66 = .ok (.aload_n 0, 1) := by decide +kernel
theorem dX8_pullOf_67 : decode cX8_pullOf 67 = .ok (.getfield 35, 3) := by decide +kernel
theorem dX8_pullOf_70 : decode cX8_pullOf 70 = .ok (.iload_n 1, 1) := by decide +kernel
theorem dX8_pullOf_71 : decode cX8_pullOf 71 = .ok (.iaload, 1) := by decide +kernel
theorem dX8_pullOf_72 : decode cX8_pullOf 72 = .ok (.ireturn, 1) := by decide +kernel
theorem dX8_pullOf_73 : decode cX8_pullOf 73 = .ok (.aload_n 0, 1) := by decide +kernel
theorem dX8_pullOf_74 : decode cX8_pullOf 74 = .ok (.iload_n 1, 1) := by decide +kernel
theorem dX8_pullOf_75 : decode cX8_pullOf 75 = .ok (.invokevirtual 104, 3) := by decide +kernel
theorem dX8_pullOf_78 : decode cX8_pullOf 78 = .ok (.ireturn, 1) := by decide +kernel
theorem dX8_pullOf_79 : decode cX8_pullOf 79 = .ok (.aload_n 0, 1) := by decide +kernel
theorem dX8_pullOf_80 : decode cX8_pullOf 80 = .ok (.iload_n 1, 1) := by decide +kernel
theorem dX8_pullOf_81 : decode cX8_pullOf 81 = .ok (.aload_n 0, 1) := by decide +kernel
theorem dX8_pullOf_82 : decode cX8_pullOf 82 = .ok (.getfield 115, 3) := by decide +kernel
theorem dX8_pullOf_85 : decode cX8_pullOf 85 = .ok (.aload_n 0, 1) := by decide +kernel
theorem dX8_pullOf_86 : decode cX8_pullOf 86 = .ok (.getfield 13, 3) := by decide +kernel
theorem dX8_pullOf_89 : decode cX8_pullOf 89 = .ok (.invokevirtual 118, 3) := by decide +kernel
theorem dX8_pullOf_92 : decode cX8_pullOf 92 = .ok (.ifCond .eq 7, 3) := by decide +kernel
theorem dX8_pullOf_95 : decode cX8_pullOf 95 = .ok (.iconst 1, 1) := by decide +kernel
theorem dX8_pullOf_96 : decode cX8_pullOf 96 = .ok (.goto 4, 3) := by decide +kernel
theorem dX8_pullOf_99 : decode cX8_pullOf 99 = .ok (.iconst 0, 1) := by decide +kernel
theorem dX8_pullOf_100 : decode cX8_pullOf 100 = .ok (.ireturn, 1) := by decide +kernel
theorem dX8_pullOf_101 : decode cX8_pullOf 101 = .ok (.aload_n 0, 1) := by decide +kernel
theorem dX8_pullOf_102 : decode cX8_pullOf 102 = .ok (.bipush (-5), 2) := by decide +kernel
theorem dX8_pullOf_104 : decode cX8_pullOf 104 = .ok (.invokevirtual 97, 3) := by decide +kernel
theorem dX8_pullOf_107 : decode cX8_pullOf 107 = .ok (.ireturn, 1) := by decide +kernel
theorem dX8_sews_0 : decode cX8_sews 0 = .ok (.aload_n 0, 1) := by decide +kernel
theorem dX8_sews_1 : decode cX8_sews 1 = .ok (.iload_n 1, 1) := by decide +kernel
theorem dX8_sews_2 : decode cX8_sews 2 = .ok (.putfield 7, 3) := by decide +kernel
theorem dX8_sews_5 : decode cX8_sews 5 = .ok (.aload_n 0, 1) := by decide +kernel
theorem dX8_sews_6 : decode cX8_sews 6 = .ok (.iconst 0, 1) := by decide +kernel
theorem dX8_sews_7 : decode cX8_sews 7 = .ok (.putfield 122, 3) := by decide +kernel
theorem dX8_sews_10 : decode cX8_sews 10 = .ok (.iconst 0, 1) := by decide +kernel
theorem dX8_sews_11 : decode cX8_sews 11 = .ok (.istore_n 2, 1) := by decide +kernel
theorem dX8_sews_12 : decode cX8_sews 12 = .ok (.iload_n 2, 1) := by decide +kernel
theorem dX8_sews_13 : decode cX8_sews 13 = .ok (.bipush 40, 2) := by decide +kernel
theorem dX8_sews_15 : decode cX8_sews 15 = .ok (.if_icmp .ge 23, 3) := by decide +kernel
theorem dX8_sews_18 : decode cX8_sews 18 = .ok (.aload_n 0, 1) := by decide +kernel
theorem dX8_sews_19 : decode cX8_sews 19 = .ok (.getfield 38, 3) := by decide +kernel
theorem dX8_sews_22 : decode cX8_sews 22 = .ok (.iload_n 2, 1) := by decide +kernel
theorem dX8_sews_23 : decode cX8_sews 23 = .ok (.iconst 0, 1) := by decide +kernel
theorem dX8_sews_24 : decode cX8_sews 24 = .ok (.iastore, 1) := by decide +kernel
theorem dX8_sews_25 : decode cX8_sews 25 = .ok (.aload_n 0, 1) := by decide +kernel
theorem dX8_sews_26 : decode cX8_sews 26 = .ok (.getfield 41, 3) := by decide +kernel
theorem dX8_sews_29 : decode cX8_sews 29 = .ok (.iload_n 2, 1) := by decide +kernel
theorem dX8_sews_30 : decode cX8_sews 30 = .ok (.iconst 0, 1) := by decide +kernel
theorem dX8_sews_31 : decode cX8_sews 31 = .ok (.iastore, 1) := by decide +kernel
theorem dX8_sews_32 : decode cX8_sews 32 = .ok (.iinc 2 1, 3) := by decide +kernel
theorem dX8_sews_35 : decode cX8_sews 35 = .ok (.goto (-23), 3) := by decide +kernel
theorem dX8_sews_38 : decode cX8_sews 38 = .ok (.return_, 1) := by decide +kernel
set_option maxRecDepth 20000 in
theorem ggX8_teeth_X8_no : GoodIn wsX8_teeth wsX8_no := goodIn_r _ [6, 7, 15, 16, 17, 18, 19, 20, 21, 22, 23, 24, 25, 26, 27, 28, 29, 30, 31, 32, 33, 34, 35, 36, 37, 38, 39, 40, 41, 42, 43, 44, 45, 46, 47, 48, 49, 50, 51, 52] (by decide +kernel) (by decide +kernel)
set_option maxRecDepth 20000 in
theorem gX8_teeth_X8_no : GoodIn wsX8_teeth (wsV RX8 97 RX8 yX8_no wsX8_no) := goodIn_app (goodIn_of _ (by decide +kernel)) ggX8_teeth_X8_no
set_option maxRecDepth 20000 in
theorem ggX8_teeth_X8_sews : GoodIn wsX8_teeth wsX8_sews := goodIn_r _ [11, 1, 12, 13, 14, 15, 16, 17, 18, 19, 20, 21, 22, 23, 24, 25, 26, 27, 28, 29, 30, 31, 32, 33, 34, 35, 36, 37, 38, 39, 40, 41, 42, 43, 44, 45, 46, 47, 48, 49, 50, 51, 52] (by decide +kernel) (by decide +kernel)
set_option maxRecDepth 20000 in
theorem gX8_teeth_X8_sews : GoodIn wsX8_teeth (wsV RX8 125 RX8 yX8_sews wsX8_sews) := goodIn_app (goodIn_of _ (by decide +kernel)) ggX8_teeth_X8_sews
theorem dX8_teeth_0 : decode cX8_teeth 0 = .ok (.iload_n 1, 1) := by decide +kernel
theorem dX8_teeth_1 : decode cX8_teeth 1 = .ok (.iconst 4, 1) := by decide +kernel
theorem dX8_teeth_2 : decode cX8_teeth 2 = .ok (.if_icmp .lt 9, 3) := by decide +kernel
theorem dX8_teeth_5 : decode cX8_teeth 5 = .ok (.iload_n 1, 1) := by decide +kernel
theorem dX8_teeth_6 : decode cX8_teeth 6 = .ok (.bipush 40, 2) := by decide +kernel
theorem dX8_teeth_8 : decode cX8_teeth 8 = .ok (.if_icmp .le 10, 3) := by decide +kernel
theorem dX8_teeth_11 : decode cX8_teeth 11 = .ok (.aload_n 0, 1) := by decide +kernel
theorem dX8_teeth_12 : decode cX8_teeth 12 = .ok (.bipush (-6), 2) := by decide +kernel
theorem dX8_teeth_14 : decode cX8_teeth 14 = .ok (.invokevirtual 97, 3) := by decide +kernel
theorem dX8_teeth_17 : decode cX8_teeth 17 = .ok (.ireturn, 1) := by decide +kernel
theorem dX8_teeth_18 : decode cX8_teeth 18 = .ok (.aload_n 0, 1) := by decide +kernel
theorem dX8_teeth_19 : decode cX8_teeth 19 = .ok (.getfield 7, 3) := by decide +kernel
theorem dX8_teeth_22 : decode cX8_teeth 22 = .ok (.istore_n 2, 1) := by decide +kernel
theorem dX8_teeth_23 : decode cX8_teeth 23 = .ok (.aload_n 0, 1) := by decide +kernel
theorem dX8_teeth_24 : decode cX8_teeth 24 = .ok (.iload_n 1, 1) := by decide +kernel
theorem dX8_teeth_25 : decode cX8_teeth 25 = .ok (.invokevirtual 125, 3) := by decide +kernel
theorem dX8_teeth_28 : decode cX8_teeth 28 = .ok (.iload_n 2, 1) := by decide +kernel
theorem dX8_teeth_29 : decode cX8_teeth 29 = .ok (.ireturn, 1) := by decide +kernel
set_option maxRecDepth 20000 in
theorem ggX8_lack_X8_isTooth : GoodIn wsX8_lack wsX8_isTooth := goodIn_r _ [6, 7, 13, 14, 15, 16, 17, 18, 19, 20, 21, 22, 23, 24, 25, 26, 27, 28, 29, 30, 31, 32, 33, 34, 35, 36, 37, 38, 39, 40, 41, 42, 43, 44, 45, 46, 47, 48, 49, 50] (by decide +kernel) (by decide +kernel)
set_option maxRecDepth 20000 in
theorem gX8_lack_X8_isTooth : GoodIn wsX8_lack (wsV RX8 129 RX8 yX8_isTooth wsX8_isTooth) := goodIn_app (goodIn_of _ (by decide +kernel)) ggX8_lack_X8_isTooth
set_option maxRecDepth 20000 in
theorem ggX8_lack_X8_no : GoodIn wsX8_lack wsX8_no := goodIn_r _ [11, 12, 13, 14, 15, 16, 17, 18, 19, 20, 21, 22, 23, 24, 25, 26, 27, 28, 29, 30, 31, 32, 33, 34, 35, 36, 37, 38, 39, 40, 41, 42, 43, 44, 45, 46, 47, 48, 49, 50] (by decide +kernel) (by decide +kernel)
set_option maxRecDepth 20000 in
theorem gX8_lack_X8_no : GoodIn wsX8_lack (wsV RX8 97 RX8 yX8_no wsX8_no) := goodIn_app (goodIn_of _ (by decide +kernel)) ggX8_lack_X8_no
theorem dX8_lack_0 : decode cX8_lack 0 = .ok (.aload_n 0, 1) := by decide +kernel
theorem dX8_lack_1 : decode cX8_lack 1 = .ok (.iload_n 1, 1) := by decide +kernel
theorem dX8_lack_2 : decode cX8_lack 2 = .ok (.invokevirtual 129, 3) := by decide +kernel
theorem dX8_lack_5 : decode cX8_lack 5 = .ok (.ifCond .ne 9, 3) := by decide +kernel
theorem dX8_lack_8 : decode cX8_lack 8 = .ok (.aload_n 0, 1) := by decide +kernel
theorem dX8_lack_9 : decode cX8_lack 9 = .ok (.iconst (-1), 1) := by decide +kernel
theorem dX8_lack_10 : decode cX8_lack 10 = .ok (.invokevirtual 97, 3) := by decide +kernel
theorem dX8_lack_13 : decode cX8_lack 13 = .ok (.ireturn, 1) := by decide +kernel
theorem dX8_lack_14 : decode cX8_lack 14 = .ok (.aload_n 0, 1) := by decide +kernel
theorem dX8_lack_15 : decode cX8_lack 15 = .ok (.getfield 38, 3) := by decide +kernel
theorem dX8_lack_18 : decode cX8_lack 18 = .ok (.iload_n 1, 1) := by decide +kernel
theorem dX8_lack_19 : decode cX8_lack 19 = .ok (.iaload, 1) := by decide +kernel
theorem dX8_lack_20 : decode cX8_lack 20 = .ok (.istore_n 3, 1) := by decide +kernel
theorem dX8_lack_21 : decode cX8_lack 21 = .ok (.aload_n 0, 1) := by decide +kernel
theorem dX8_lack_22 : decode cX8_lack 22 = .ok (.getfield 38, 3) := by decide +kernel
theorem dX8_lack_25 : decode cX8_lack 25 = .ok (.iload_n 1, 1) := by decide +kernel
theorem dX8_lack_26 : decode cX8_lack 26 = .ok (.iload_n 2, 1) := by decide +kernel
theorem dX8_lack_27 : decode cX8_lack 27 = .ok (.ifCond .eq 7, 3) := by decide +kernel
theorem dX8_lack_30 : decode cX8_lack 30 = .ok (.iconst 1, 1) := by decide +kernel
theorem dX8_lack_31 : decode cX8_lack 31 = .ok (.goto 4, 3) := by decide +kernel
theorem dX8_lack_34 : decode cX8_lack 34 = .ok (.iconst 0, 1) := by decide +kernel
theorem dX8_lack_35 : decode cX8_lack 35 = .ok (.iastore, 1) := by decide +kernel
theorem dX8_lack_36 : decode cX8_lack 36 = .ok (.iload_n 3, 1) := by decide +kernel
theorem dX8_lack_37 : decode cX8_lack 37 = .ok (.ireturn, 1) := by decide +kernel
set_option maxRecDepth 20000 in
theorem ggX8_slack_X8_isTooth : GoodIn wsX8_slack wsX8_isTooth := goodIn_r _ [6, 7, 13, 14, 15, 16, 17, 18, 19, 20, 21, 22, 23, 24, 25, 26, 27, 28, 29, 30, 31, 32, 33, 34, 35, 36, 37, 38, 39, 40, 41, 42, 43, 44, 45, 46, 47, 48, 49, 50] (by decide +kernel) (by decide +kernel)
set_option maxRecDepth 20000 in
theorem gX8_slack_X8_isTooth : GoodIn wsX8_slack (wsV RX8 129 RX8 yX8_isTooth wsX8_isTooth) := goodIn_app (goodIn_of _ (by decide +kernel)) ggX8_slack_X8_isTooth
set_option maxRecDepth 20000 in
theorem ggX8_slack_X8_no : GoodIn wsX8_slack wsX8_no := goodIn_r _ [11, 12, 13, 14, 15, 16, 17, 18, 19, 20, 21, 22, 23, 24, 25, 26, 27, 28, 29, 30, 31, 32, 33, 34, 35, 36, 37, 38, 39, 40, 41, 42, 43, 44, 45, 46, 47, 48, 49, 50] (by decide +kernel) (by decide +kernel)
set_option maxRecDepth 20000 in
theorem gX8_slack_X8_no : GoodIn wsX8_slack (wsV RX8 97 RX8 yX8_no wsX8_no) := goodIn_app (goodIn_of _ (by decide +kernel)) ggX8_slack_X8_no
theorem dX8_slack_0 : decode cX8_slack 0 = .ok (.aload_n 0, 1) := by decide +kernel
theorem dX8_slack_1 : decode cX8_slack 1 = .ok (.iload_n 1, 1) := by decide +kernel
theorem dX8_slack_2 : decode cX8_slack 2 = .ok (.invokevirtual 129, 3) := by decide +kernel
theorem dX8_slack_5 : decode cX8_slack 5 = .ok (.ifCond .ne 9, 3) := by decide +kernel
theorem dX8_slack_8 : decode cX8_slack 8 = .ok (.aload_n 0, 1) := by decide +kernel
theorem dX8_slack_9 : decode cX8_slack 9 = .ok (.iconst (-1), 1) := by decide +kernel
theorem dX8_slack_10 : decode cX8_slack 10 = .ok (.invokevirtual 97, 3) := by decide +kernel
theorem dX8_slack_13 : decode cX8_slack 13 = .ok (.ireturn, 1) := by decide +kernel
theorem dX8_slack_14 : decode cX8_slack 14 = .ok (.iload_n 2, 1) := by decide +kernel
theorem dX8_slack_15 : decode cX8_slack 15 = .ok (.ifCond .lt 9, 3) := by decide +kernel
theorem dX8_slack_18 : decode cX8_slack 18 = .ok (.iload_n 2, 1) := by decide +kernel
theorem dX8_slack_19 : decode cX8_slack 19 = .ok (.bipush 9, 2) := by decide +kernel
theorem dX8_slack_21 : decode cX8_slack 21 = .ok (.if_icmp .le 10, 3) := by decide +kernel
theorem dX8_slack_24 : decode cX8_slack 24 = .ok (.aload_n 0, 1) := by decide +kernel
theorem dX8_slack_25 : decode cX8_slack 25 = .ok (.bipush (-6), 2) := by decide +kernel
theorem dX8_slack_27 : decode cX8_slack 27 = .ok (.invokevirtual 97, 3) := by decide +kernel
theorem dX8_slack_30 : decode cX8_slack 30 = .ok (.ireturn, 1) := by decide +kernel
theorem dX8_slack_31 : decode cX8_slack 31 = .ok (.aload_n 0, 1) := by decide +kernel
theorem dX8_slack_32 : decode cX8_slack 32 = .ok (.getfield 41, 3) := by decide +kernel
theorem dX8_slack_35 : decode cX8_slack 35 = .ok (.iload_n 1, 1) := by decide +kernel
theorem dX8_slack_36 : decode cX8_slack 36 = .ok (.iaload, 1) := by decide +kernel
theorem dX8_slack_37 : decode cX8_slack 37 = .ok (.istore_n 3, 1) := by decide +kernel
theorem dX8_slack_38 : decode cX8_slack 38 = .ok (.aload_n 0, 1) := by decide +kernel
theorem dX8_slack_39 : decode cX8_slack 39 = .ok (.getfield 41, 3) := by decide +kernel
theorem dX8_slack_42 : decode cX8_slack 42 = .ok (.iload_n 1, 1) := by decide +kernel
theorem dX8_slack_43 : decode cX8_slack 43 = .ok (.iload_n 2, 1) := by decide +kernel
theorem dX8_slack_44 : decode cX8_slack 44 = .ok (.iastore, 1) := by decide +kernel
theorem dX8_slack_45 : decode cX8_slack 45 = .ok (.iload_n 3, 1) := by decide +kernel
theorem dX8_slack_46 : decode cX8_slack 46 = .ok (.ireturn, 1) := by decide +kernel
theorem dX8_most_0 : decode cX8_most 0 = .ok (.iload_n 1, 1) := by decide +kernel
theorem dX8_most_1 : decode cX8_most 1 = .ok (.ifCond .ne 8, 3) := by decide +kernel
theorem dX8_most_4 : decode cX8_most 4 = .ok (.bipush 24, 2) := by decide +kernel
theorem dX8_most_6 : decode cX8_most 6 = .ok (.goto 44, 3) := by decide +kernel
theorem dX8_most_9 : decode cX8_most 9 = .ok (.iload_n 1, 1) := by decide +kernel
theorem dX8_most_10 : decode cX8_most 10 = .ok (.iconst 1, 1) := by decide +kernel
theorem dX8_most_11 : decode cX8_most 11 = .ok (.if_icmp .ne 9, 3) := by decide +kernel
theorem dX8_most_14 : decode cX8_most 14 = .ok (.sipush 300, 3) := by decide +kernel
theorem dX8_most_17 : decode cX8_most 17 = .ok (.goto 33, 3) := by decide +kernel
theorem dX8_most_20 : decode cX8_most 20 = .ok (.iload_n 1, 1) := by decide +kernel
theorem dX8_most_21 : decode cX8_most 21 = .ok (.iconst 2, 1) := by decide +kernel
theorem dX8_most_22 : decode cX8_most 22 = .ok (.if_icmp .eq 8, 3) := by decide +kernel
theorem dX8_most_25 : decode cX8_most 25 = .ok (.iload_n 1, 1) := by decide +kernel
theorem dX8_most_26 : decode cX8_most 26 = .ok (.iconst 3, 1) := by decide +kernel
theorem dX8_most_27 : decode cX8_most 27 = .ok (.if_icmp .ne 8, 3) := by decide +kernel
theorem dX8_most_30 : decode cX8_most 30 = .ok (.bipush 9, 2) := by decide +kernel
theorem dX8_most_32 : decode cX8_most 32 = .ok (.goto 18, 3) := by decide +kernel
theorem dX8_most_35 : decode cX8_most 35 = .ok (.iload_n 1, 1) := by decide +kernel
theorem dX8_most_36 : decode cX8_most 36 = .ok (.bipush 7, 2) := by decide +kernel
theorem dX8_most_38 : decode cX8_most 38 = .ok (.if_icmp .ne 10, 3) := by decide +kernel
theorem dX8_most_41 : decode cX8_most 41 = .ok (.aload_n 0, 1) := by decide +kernel
theorem dX8_most_42 : decode cX8_most 42 = .ok (.getfield 7, 3) := by decide +kernel
theorem dX8_most_45 : decode cX8_most 45 = .ok (.goto 5, 3) := by decide +kernel
theorem dX8_most_48 : decode cX8_most 48 = .ok (.bipush 99, 2) := by decide +kernel
theorem dX8_most_50 : decode cX8_most 50 = .ok (.ireturn, 1) := by decide +kernel
set_option maxRecDepth 20000 in
theorem ggX8_isAsked_X8_most : GoodIn wsX8_isAsked wsX8_most := goodIn_r _ [5, 6, 7, 8, 9, 10, 11, 12, 13, 14, 15, 16, 17, 18, 19, 20, 21, 22, 23, 24, 25, 26, 27, 28, 29, 30, 31, 32, 33, 34, 35, 36, 37, 38, 39, 40, 41, 42, 43, 44] (by decide +kernel) (by decide +kernel)
set_option maxRecDepth 20000 in
theorem gX8_isAsked_X8_most : GoodIn wsX8_isAsked (wsV RX8 132 RX8 yX8_most wsX8_most) := goodIn_app (goodIn_of _ (by decide +kernel)) ggX8_isAsked_X8_most
theorem dX8_isAsked_0 : decode cX8_isAsked 0 = .ok (.iload_n 2, 1) := by decide +kernel
theorem dX8_isAsked_1 : decode cX8_isAsked 1 = .ok (.iload_n 1, 1) := by decide +kernel
theorem dX8_isAsked_2 : decode cX8_isAsked 2 = .ok (.iconst 3, 1) := by decide +kernel
theorem dX8_isAsked_3 : decode cX8_isAsked 3 = .ok (.if_icmp .ne 7, 3) := by decide +kernel
theorem dX8_isAsked_6 : decode cX8_isAsked 6 = .ok (.iconst 1, 1) := by decide +kernel
theorem dX8_isAsked_7 : decode cX8_isAsked 7 = .ok (.goto 4, 3) := by decide +kernel
theorem dX8_isAsked_10 : decode cX8_isAsked 10 = .ok (.iconst 0, 1) := by decide +kernel
theorem dX8_isAsked_11 : decode cX8_isAsked 11 = .ok (.if_icmp .lt 16, 3) := by decide +kernel
theorem dX8_isAsked_14 : decode cX8_isAsked 14 = .ok (.iload_n 2, 1) := by decide +kernel
theorem dX8_isAsked_15 : decode cX8_isAsked 15 = .ok (.aload_n 0, 1) := by decide +kernel
theorem dX8_isAsked_16 : decode cX8_isAsked 16 = .ok (.iload_n 1, 1) := by decide +kernel
theorem dX8_isAsked_17 : decode cX8_isAsked 17 = .ok (.invokevirtual 132, 3) := by decide +kernel
theorem dX8_isAsked_20 : decode cX8_isAsked 20 = .ok (.if_icmp .gt 7, 3) := by decide +kernel
theorem dX8_isAsked_23 : decode cX8_isAsked 23 = .ok (.iconst 1, 1) := by decide +kernel
theorem dX8_isAsked_24 : decode cX8_isAsked 24 = .ok (.goto 4, 3) := by decide +kernel
theorem dX8_isAsked_27 : decode cX8_isAsked 27 = .ok (.iconst 0, 1) := by decide +kernel
theorem dX8_isAsked_28 : decode cX8_isAsked 28 = .ok (.ireturn, 1) := by decide +kernel
theorem dX8_told_0 : decode cX8_told 0 = .ok (.iload_n 1, 1) := by decide +kernel
theorem dX8_told_1 : decode cX8_told 1 = .ok (.tableswitch 72 0 7 #[47, 52, 57, 62, 72, 72, 72, 67], 47) := by decide +kernel
theorem dX8_told_48 : decode cX8_told 48 = .ok (.aload_n 0, 1) := by decide +kernel
theorem dX8_told_49 : decode cX8_told 49 = .ok (.getfield 115, 3) := by decide +kernel
theorem dX8_told_52 : decode cX8_told 52 = .ok (.ireturn, 1) := by decide +kernel
theorem dX8_told_53 : decode cX8_told 53 = .ok (.aload_n 0, 1) := by decide +kernel
theorem dX8_told_54 : decode cX8_told 54 = .ok (.getfield 13, 3) := by decide +kernel
theorem dX8_told_57 : decode cX8_told 57 = .ok (.ireturn, 1) := by decide +kernel
theorem dX8_told_58 : decode cX8_told 58 = .ok (.aload_n 0, 1) := by decide +kernel
theorem dX8_told_59 : decode cX8_told 59 = .ok (.getfield 135, 3) := by decide +kernel
theorem dX8_told_62 : decode cX8_told 62 = .ok (.ireturn, 1) := by decide +kernel
theorem dX8_told_63 : decode cX8_told 63 = .ok (.aload_n 0, 1) := by decide +kernel
theorem dX8_told_64 : decode cX8_told 64 = .ok (.getfield 16, 3) := by decide +kernel
theorem dX8_told_67 : decode cX8_told 67 = .ok (.ireturn, 1) := by decide +kernel
theorem dX8_told_68 : decode cX8_told 68 = .ok (.aload_n 0, 1) := by decide +kernel
theorem dX8_told_69 : decode cX8_told 69 = .ok (.getfield 122, 3) := by decide +kernel
theorem dX8_told_72 : decode cX8_told 72 = .ok (.ireturn, 1) := by decide +kernel
theorem dX8_told_73 : decode cX8_told 73 = .ok (.aload_n 0, 1) := by decide +kernel
theorem dX8_told_74 : decode cX8_told 74 = .ok (.getfield 44, 3) := by decide +kernel
theorem dX8_told_77 : decode cX8_told 77 = .ok (.iload_n 1, 1) := by decide +kernel
theorem dX8_told_78 : decode cX8_told 78 = .ok (.iconst 4, 1) := by decide +kernel
theorem dX8_told_79 : decode cX8_told 79 = .ok (.isub, 1) := by decide +kernel
theorem dX8_told_80 : decode cX8_told 80 = .ok (.iaload, 1) := by decide +kernel
theorem dX8_told_81 : decode cX8_told 81 = .ok (.ireturn, 1) := by decide +kernel
theorem dX8_tells_0 : decode cX8_tells 0 = .ok (.iload_n 1, 1) := by decide +kernel
theorem dX8_tells_1 : decode cX8_tells 1 = .ok (.tableswitch 87 0 7 #[47, 55, 63, 71, 87, 87, 87, 79], 47) := by decide +kernel
theorem dX8_tells_48 : decode cX8_tells 48 = .ok (.aload_n 0, 1) := by decide +kernel
theorem dX8_tells_49 : decode cX8_tells 49 = .ok (.iload_n 2, 1) := by decide +kernel
theorem dX8_tells_50 : decode cX8_tells 50 = .ok (.putfield 115, 3) := by decide +kernel
theorem dX8_tells_53 : decode cX8_tells 53 = .ok (.goto 44, 3) := by decide +kernel
theorem dX8_tells_56 : decode cX8_tells 56 = .ok (.aload_n 0, 1) := by decide +kernel
theorem dX8_tells_57 : decode cX8_tells 57 = .ok (.iload_n 2, 1) := by decide +kernel
theorem dX8_tells_58 : decode cX8_tells 58 = .ok (.putfield 13, 3) := by decide +kernel
theorem dX8_tells_61 : decode cX8_tells 61 = .ok (.goto 36, 3) := by decide +kernel
theorem dX8_tells_64 : decode cX8_tells 64 = .ok (.aload_n 0, 1) := by decide +kernel
theorem dX8_tells_65 : decode cX8_tells 65 = .ok (.iload_n 2, 1) := by decide +kernel
theorem dX8_tells_66 : decode cX8_tells 66 = .ok (.putfield 135, 3) := by decide +kernel
theorem dX8_tells_69 : decode cX8_tells 69 = .ok (.goto 28, 3) := by decide +kernel
theorem dX8_tells_72 : decode cX8_tells 72 = .ok (.aload_n 0, 1) := by decide +kernel
theorem dX8_tells_73 : decode cX8_tells 73 = .ok (.iload_n 2, 1) := by decide +kernel
theorem dX8_tells_74 : decode cX8_tells 74 = .ok (.putfield 16, 3) := by decide +kernel
theorem dX8_tells_77 : decode cX8_tells 77 = .ok (.goto 20, 3) := by decide +kernel
theorem dX8_tells_80 : decode cX8_tells 80 = .ok (.aload_n 0, 1) := by decide +kernel
theorem dX8_tells_81 : decode cX8_tells 81 = .ok (.iload_n 2, 1) := by decide +kernel
theorem dX8_tells_82 : decode cX8_tells 82 = .ok (.putfield 122, 3) := by decide +kernel
theorem dX8_tells_85 : decode cX8_tells 85 = .ok (.goto 12, 3) := by decide +kernel
theorem dX8_tells_88 : decode cX8_tells 88 = .ok (.aload_n 0, 1) := by decide +kernel
theorem dX8_tells_89 : decode cX8_tells 89 = .ok (.getfield 44, 3) := by decide +kernel
theorem dX8_tells_92 : decode cX8_tells 92 = .ok (.iload_n 1, 1) := by decide +kernel
theorem dX8_tells_93 : decode cX8_tells 93 = .ok (.iconst 4, 1) := by decide +kernel
theorem dX8_tells_94 : decode cX8_tells 94 = .ok (.isub, 1) := by decide +kernel
theorem dX8_tells_95 : decode cX8_tells 95 = .ok (.iload_n 2, 1) := by decide +kernel
theorem dX8_tells_96 : decode cX8_tells 96 = .ok (.iastore, 1) := by decide +kernel
theorem dX8_tells_97 : decode cX8_tells 97 = .ok (.return_, 1) := by decide +kernel
set_option maxRecDepth 20000 in
theorem ggX8_ask_X8_isAsked : GoodIn wsX8_ask wsX8_isAsked := goodIn_r _ [5, 6, 7, 8, 4, 9, 10, 30, 31, 32, 33, 34, 35, 36, 37, 38, 39, 40, 41, 42, 43, 44, 45, 46, 47, 48, 49, 50, 51, 52, 53, 54, 55, 56, 57, 58, 59, 60, 61, 62, 63, 64, 65, 66, 67] (by decide +kernel) (by decide +kernel)
set_option maxRecDepth 20000 in
theorem gX8_ask_X8_isAsked : GoodIn wsX8_ask (wsV RX8 138 RX8 yX8_isAsked wsX8_isAsked) := goodIn_app (goodIn_of _ (by decide +kernel)) ggX8_ask_X8_isAsked
set_option maxRecDepth 20000 in
theorem ggX8_ask_X8_no : GoodIn wsX8_ask wsX8_no := goodIn_r _ [14, 15, 30, 31, 32, 33, 34, 35, 36, 37, 38, 39, 40, 41, 42, 43, 44, 45, 46, 47, 48, 49, 50, 51, 52, 53, 54, 55, 56, 57, 58, 59, 60, 61, 62, 63, 64, 65, 66, 67] (by decide +kernel) (by decide +kernel)
set_option maxRecDepth 20000 in
theorem gX8_ask_X8_no : GoodIn wsX8_ask (wsV RX8 97 RX8 yX8_no wsX8_no) := goodIn_app (goodIn_of _ (by decide +kernel)) ggX8_ask_X8_no
set_option maxRecDepth 20000 in
theorem ggX8_ask_X8_told : GoodIn wsX8_ask wsX8_told := goodIn_r _ [19, 20, 21, 22, 23, 24, 25, 30, 31, 32, 33, 34, 35, 36, 37, 38, 39, 40, 41, 42, 43, 44, 45, 46, 47, 48, 49, 50, 51, 52, 53, 54, 55, 56, 57, 58, 59, 60, 61, 62, 63, 64, 65, 66, 67] (by decide +kernel) (by decide +kernel)
set_option maxRecDepth 20000 in
theorem gX8_ask_X8_told : GoodIn wsX8_ask (wsV RX8 142 RX8 yX8_told wsX8_told) := goodIn_app (goodIn_of _ (by decide +kernel)) ggX8_ask_X8_told
set_option maxRecDepth 20000 in
theorem ggX8_ask_X8_tells : GoodIn wsX8_ask wsX8_tells := goodIn_r _ [29, 20, 21, 22, 23, 24, 25, 30, 31, 32, 33, 34, 35, 36, 37, 38, 39, 40, 41, 42, 43, 44, 45, 46, 47, 48, 49, 50, 51, 52, 53, 54, 55, 56, 57, 58, 59, 60, 61, 62, 63, 64, 65, 66, 67] (by decide +kernel) (by decide +kernel)
set_option maxRecDepth 20000 in
theorem gX8_ask_X8_tells : GoodIn wsX8_ask (wsV RX8 145 RX8 yX8_tells wsX8_tells) := goodIn_app (goodIn_of _ (by decide +kernel)) ggX8_ask_X8_tells
theorem dX8_ask_0 : decode cX8_ask 0 = .ok (.iload_n 1, 1) := by decide +kernel
theorem dX8_ask_1 : decode cX8_ask 1 = .ok (.ifCond .lt 18, 3) := by decide +kernel
theorem dX8_ask_4 : decode cX8_ask 4 = .ok (.iload_n 1, 1) := by decide +kernel
theorem dX8_ask_5 : decode cX8_ask 5 = .ok (.bipush 7, 2) := by decide +kernel
theorem dX8_ask_7 : decode cX8_ask 7 = .ok (.if_icmp .gt 12, 3) := by decide +kernel
theorem dX8_ask_10 : decode cX8_ask 10 = .ok (.aload_n 0, 1) := by decide +kernel
theorem dX8_ask_11 : decode cX8_ask 11 = .ok (.iload_n 1, 1) := by decide +kernel
theorem dX8_ask_12 : decode cX8_ask 12 = .ok (.iload_n 2, 1) := by decide +kernel
theorem dX8_ask_13 : decode cX8_ask 13 = .ok (.invokevirtual 138, 3) := by decide +kernel
theorem dX8_ask_16 : decode cX8_ask 16 = .ok (.ifCond .ne 10, 3) := by decide +kernel
theorem dX8_ask_19 : decode cX8_ask 19 = .ok (.aload_n 0, 1) := by decide +kernel
theorem dX8_ask_20 : decode cX8_ask 20 = .ok (.bipush (-6), 2) := by decide +kernel
theorem dX8_ask_22 : decode cX8_ask 22 = .ok (.invokevirtual 97, 3) := by decide +kernel
theorem dX8_ask_25 : decode cX8_ask 25 = .ok (.ireturn, 1) := by decide +kernel
theorem dX8_ask_26 : decode cX8_ask 26 = .ok (.aload_n 0, 1) := by decide +kernel
theorem dX8_ask_27 : decode cX8_ask 27 = .ok (.iload_n 1, 1) := by decide +kernel
theorem dX8_ask_28 : decode cX8_ask 28 = .ok (.invokevirtual 142, 3) := by decide +kernel
theorem dX8_ask_31 : decode cX8_ask 31 = .ok (.istore_n 3, 1) := by decide +kernel
theorem dX8_ask_32 : decode cX8_ask 32 = .ok (.aload_n 0, 1) := by decide +kernel
theorem dX8_ask_33 : decode cX8_ask 33 = .ok (.iload_n 1, 1) := by decide +kernel
theorem dX8_ask_34 : decode cX8_ask 34 = .ok (.iload_n 2, 1) := by decide +kernel
theorem dX8_ask_35 : decode cX8_ask 35 = .ok (.invokevirtual 145, 3) := by decide +kernel
theorem dX8_ask_38 : decode cX8_ask 38 = .ok (.iload_n 3, 1) := by decide +kernel
theorem dX8_ask_39 : decode cX8_ask 39 = .ok (.ireturn, 1) := by decide +kernel
theorem dX8_wrong_0 : decode cX8_wrong 0 = .ok (.aload_n 0, 1) := by decide +kernel
theorem dX8_wrong_1 : decode cX8_wrong 1 = .ok (.iload_n 1, 1) := by decide +kernel
theorem dX8_wrong_2 : decode cX8_wrong 2 = .ok (.putfield 149, 3) := by decide +kernel
theorem dX8_wrong_5 : decode cX8_wrong 5 = .ok (.iconst 0, 1) := by decide +kernel
theorem dX8_wrong_6 : decode cX8_wrong 6 = .ok (.ireturn, 1) := by decide +kernel
theorem dX8_stands_0 : decode cX8_stands 0 = .ok (.iconst 0, 1) := by decide +kernel
theorem dX8_stands_1 : decode cX8_stands 1 = .ok (.istore_n 2, 1) := by decide +kernel
theorem dX8_stands_2 : decode cX8_stands 2 = .ok (.iconst 0, 1) := by decide +kernel
theorem dX8_stands_3 : decode cX8_stands 3 = .ok (.istore_n 3, 1) := by decide +kernel
theorem dX8_stands_4 : decode cX8_stands 4 = .ok (.iload_n 3, 1) := by decide +kernel
theorem dX8_stands_5 : decode cX8_stands 5 = .ok (.iload_n 1, 1) := by decide +kernel
theorem dX8_stands_6 : decode cX8_stands 6 = .ok (.if_icmp .ge 26, 3) := by decide +kernel
theorem dX8_stands_9 : decode cX8_stands 9 = .ok (.iload_n 3, 1) := by decide +kernel
theorem dX8_stands_10 : decode cX8_stands 10 = .ok (.aload_n 0, 1) := by decide +kernel
theorem dX8_stands_11 : decode cX8_stands 11 = .ok (.getfield 66, 3) := by decide +kernel
theorem dX8_stands_14 : decode cX8_stands 14 = .ok (.iload_n 2, 1) := by decide +kernel
theorem dX8_stands_15 : decode cX8_stands 15 = .ok (.iaload, 1) := by decide +kernel
theorem dX8_stands_16 : decode cX8_stands 16 = .ok (.ifCond .ne 7, 3) := by decide +kernel
theorem dX8_stands_19 : decode cX8_stands 19 = .ok (.iconst 1, 1) := by decide +kernel
theorem dX8_stands_20 : decode cX8_stands 20 = .ok (.goto 4, 3) := by decide +kernel
theorem dX8_stands_23 : decode cX8_stands 23 = .ok (.iconst 0, 1) := by decide +kernel
theorem dX8_stands_24 : decode cX8_stands 24 = .ok (.iadd, 1) := by decide +kernel
theorem dX8_stands_25 : decode cX8_stands 25 = .ok (.istore_n 3, 1) := by decide +kernel
theorem dX8_stands_26 : decode cX8_stands 26 = .ok (.iinc 2 1, 3) := by decide +kernel
theorem dX8_stands_29 : decode cX8_stands 29 = .ok (.goto (-25), 3) := by decide +kernel
theorem dX8_stands_32 : decode cX8_stands 32 = .ok (.aload_n 0, 1) := by decide +kernel
theorem dX8_stands_33 : decode cX8_stands 33 = .ok (.getfield 152, 3) := by decide +kernel
theorem dX8_stands_36 : decode cX8_stands 36 = .ok (.istore_n 3, 1) := by decide +kernel
theorem dX8_stands_37 : decode cX8_stands 37 = .ok (.aload_n 0, 1) := by decide +kernel
theorem dX8_stands_38 : decode cX8_stands 38 = .ok (.getfield 66, 3) := by decide +kernel
theorem dX8_stands_41 : decode cX8_stands 41 = .ok (.iload_n 2, 1) := by decide +kernel
theorem dX8_stands_42 : decode cX8_stands 42 = .ok (.iaload, 1) := by decide +kernel
theorem dX8_stands_43 : decode cX8_stands 43 = .ok (.bipush 32, 2) := by decide +kernel
theorem dX8_stands_45 : decode cX8_stands 45 = .ok (.if_icmp .le 41, 3) := by decide +kernel
theorem dX8_stands_48 : decode cX8_stands 48 = .ok (.iload_n 3, 1) := by decide +kernel
theorem dX8_stands_49 : decode cX8_stands 49 = .ok (.aload_n 0, 1) := by decide +kernel
theorem dX8_stands_50 : decode cX8_stands 50 = .ok (.getfield 155, 3) := by decide +kernel
theorem dX8_stands_53 : decode cX8_stands 53 = .ok (.if_icmp .ge 33, 3) := by decide +kernel
theorem dX8_stands_56 : decode cX8_stands 56 = .ok (.aload_n 0, 1) := by decide +kernel
theorem dX8_stands_57 : decode cX8_stands 57 = .ok (.getfield 59, 3) := by decide +kernel
theorem dX8_stands_60 : decode cX8_stands 60 = .ok (.aload_n 0, 1) := by decide +kernel
theorem dX8_stands_61 : decode cX8_stands 61 = .ok (.getfield 158, 3) := by decide +kernel
theorem dX8_stands_64 : decode cX8_stands 64 = .ok (.iload_n 3, 1) := by decide +kernel
theorem dX8_stands_65 : decode cX8_stands 65 = .ok (.iadd, 1) := by decide +kernel
theorem dX8_stands_66 : decode cX8_stands 66 = .ok (.laload, 1) := by decide +kernel
theorem dX8_stands_67 : decode cX8_stands 67 = .ok (.l2i, 1) := by decide +kernel
theorem dX8_stands_68 : decode cX8_stands 68 = .ok (.aload_n 0, 1) := by decide +kernel
theorem dX8_stands_69 : decode cX8_stands 69 = .ok (.getfield 66, 3) := by decide +kernel
theorem dX8_stands_72 : decode cX8_stands 72 = .ok (.iload_n 2, 1) := by decide +kernel
theorem dX8_stands_73 : decode cX8_stands 73 = .ok (.iaload, 1) := by decide +kernel
theorem dX8_stands_74 : decode cX8_stands 74 = .ok (.if_icmp .ne 12, 3) := by decide +kernel
theorem dX8_stands_77 : decode cX8_stands 77 = .ok (.iinc 3 1, 3) := by decide +kernel
theorem dX8_stands_80 : decode cX8_stands 80 = .ok (.iinc 2 1, 3) := by decide +kernel
theorem dX8_stands_83 : decode cX8_stands 83 = .ok (.goto (-46), 3) := by decide +kernel
theorem dX8_stands_86 : decode cX8_stands 86 = .ok (.aload_n 0, 1) := by decide +kernel
theorem dX8_stands_87 : decode cX8_stands 87 = .ok (.getfield 66, 3) := by decide +kernel
theorem dX8_stands_90 : decode cX8_stands 90 = .ok (.iload_n 2, 1) := by decide +kernel
theorem dX8_stands_91 : decode cX8_stands 91 = .ok (.iaload, 1) := by decide +kernel
theorem dX8_stands_92 : decode cX8_stands 92 = .ok (.bipush 32, 2) := by decide +kernel
theorem dX8_stands_94 : decode cX8_stands 94 = .ok (.if_icmp .gt 7, 3) := by decide +kernel
theorem dX8_stands_97 : decode cX8_stands 97 = .ok (.iconst 1, 1) := by decide +kernel
theorem dX8_stands_98 : decode cX8_stands 98 = .ok (.goto 4, 3) := by decide +kernel
theorem dX8_stands_101 : decode cX8_stands 101 = .ok (.iconst 0, 1) := by decide +kernel
theorem dX8_stands_102 : decode cX8_stands 102 = .ok (.ireturn, 1) := by decide +kernel
theorem dX8_word_0 : decode cX8_word 0 = .ok (.iconst 0, 1) := by decide +kernel
theorem dX8_word_1 : decode cX8_word 1 = .ok (.istore_n 1, 1) := by decide +kernel
theorem dX8_word_2 : decode cX8_word 2 = .ok (.aload_n 0, 1) := by decide +kernel
theorem dX8_word_3 : decode cX8_word 3 = .ok (.getfield 152, 3) := by decide +kernel
theorem dX8_word_6 : decode cX8_word 6 = .ok (.istore_n 2, 1) := by decide +kernel
theorem dX8_word_7 : decode cX8_word 7 = .ok (.iconst 0, 1) := by decide +kernel
theorem dX8_word_8 : decode cX8_word 8 = .ok (.istore_n 3, 1) := by decide +kernel
theorem dX8_word_9 : decode cX8_word 9 = .ok (.iload_n 3, 1) := by decide +kernel
theorem dX8_word_10 : decode cX8_word 10 = .ok (.bipush 10, 2) := by decide +kernel
theorem dX8_word_12 : decode cX8_word 12 = .ok (.if_icmp .ge 118, 3) := by decide +kernel
theorem dX8_word_15 : decode cX8_word 15 = .ok (.aload_n 0, 1) := by decide +kernel
theorem dX8_word_16 : decode cX8_word 16 = .ok (.getfield 152, 3) := by decide +kernel
theorem dX8_word_19 : decode cX8_word 19 = .ok (.istore 4, 2) := by decide +kernel
theorem dX8_word_21 : decode cX8_word 21 = .ok (.iload_n 1, 1) := by decide +kernel
theorem dX8_word_22 : decode cX8_word 22 = .ok (.istore 5, 2) := by decide +kernel
theorem dX8_word_24 : decode cX8_word 24 = .ok (.aload_n 0, 1) := by decide +kernel
theorem dX8_word_25 : decode cX8_word 25 = .ok (.getfield 66, 3) := by decide +kernel
theorem dX8_word_28 : decode cX8_word 28 = .ok (.iload 5, 2) := by decide +kernel
theorem dX8_word_30 : decode cX8_word 30 = .ok (.iaload, 1) := by decide +kernel
theorem dX8_word_31 : decode cX8_word 31 = .ok (.ifCond .eq 44, 3) := by decide +kernel
theorem dX8_word_34 : decode cX8_word 34 = .ok (.iload 4, 2) := by decide +kernel
theorem dX8_word_36 : decode cX8_word 36 = .ok (.aload_n 0, 1) := by decide +kernel
theorem dX8_word_37 : decode cX8_word 37 = .ok (.getfield 155, 3) := by decide +kernel
theorem dX8_word_40 : decode cX8_word 40 = .ok (.if_icmp .ge 35, 3) := by decide +kernel
theorem dX8_word_43 : decode cX8_word 43 = .ok (.aload_n 0, 1) := by decide +kernel
theorem dX8_word_44 : decode cX8_word 44 = .ok (.getfield 59, 3) := by decide +kernel
theorem dX8_word_47 : decode cX8_word 47 = .ok (.aload_n 0, 1) := by decide +kernel
theorem dX8_word_48 : decode cX8_word 48 = .ok (.getfield 158, 3) := by decide +kernel
theorem dX8_word_51 : decode cX8_word 51 = .ok (.iload 4, 2) := by decide +kernel
theorem dX8_word_53 : decode cX8_word 53 = .ok (.iadd, 1) := by decide +kernel
theorem dX8_word_54 : decode cX8_word 54 = .ok (.laload, 1) := by decide +kernel
theorem dX8_word_55 : decode cX8_word 55 = .ok (.l2i, 1) := by decide +kernel
theorem dX8_word_56 : decode cX8_word 56 = .ok (.aload_n 0, 1) := by decide +kernel
theorem dX8_word_57 : decode cX8_word 57 = .ok (.getfield 66, 3) := by decide +kernel
theorem dX8_word_60 : decode cX8_word 60 = .ok (.iload 5, 2) := by decide +kernel
theorem dX8_word_62 : decode cX8_word 62 = .ok (.iaload, 1) := by decide +kernel
theorem dX8_word_63 : decode cX8_word 63 = .ok (.if_icmp .ne 12, 3) := by decide +kernel
theorem dX8_word_66 : decode cX8_word 66 = .ok (.iinc 4 1, 3) := by decide +kernel
theorem dX8_word_69 : decode cX8_word 69 = .ok (.iinc 5 1, 3) := by decide +kernel
theorem dX8_word_72 : decode cX8_word 72 = .ok (.goto (-48), 3) := by decide +kernel
theorem dX8_word_75 : decode cX8_word 75 = .ok (.aload_n 0, 1) := by decide +kernel
theorem dX8_word_76 : decode cX8_word 76 = .ok (.getfield 66, 3) := by decide +kernel
theorem dX8_word_79 : decode cX8_word 79 = .ok (.iload 5, 2) := by decide +kernel
theorem dX8_word_81 : decode cX8_word 81 = .ok (.iaload, 1) := by decide +kernel
theorem dX8_word_82 : decode cX8_word 82 = .ok (.ifCond .ne 11, 3) := by decide +kernel
theorem dX8_word_85 : decode cX8_word 85 = .ok (.aload_n 0, 1) := by decide +kernel
theorem dX8_word_86 : decode cX8_word 86 = .ok (.iload 4, 2) := by decide +kernel
theorem dX8_word_88 : decode cX8_word 88 = .ok (.putfield 152, 3) := by decide +kernel
theorem dX8_word_91 : decode cX8_word 91 = .ok (.iload_n 3, 1) := by decide +kernel
theorem dX8_word_92 : decode cX8_word 92 = .ok (.ireturn, 1) := by decide +kernel
theorem dX8_word_93 : decode cX8_word 93 = .ok (.iload 4, 2) := by decide +kernel
theorem dX8_word_95 : decode cX8_word 95 = .ok (.iload_n 2, 1) := by decide +kernel
theorem dX8_word_96 : decode cX8_word 96 = .ok (.if_icmp .le 8, 3) := by decide +kernel
theorem dX8_word_99 : decode cX8_word 99 = .ok (.iload 4, 2) := by decide +kernel
theorem dX8_word_101 : decode cX8_word 101 = .ok (.goto 4, 3) := by decide +kernel
theorem dX8_word_104 : decode cX8_word 104 = .ok (.iload_n 2, 1) := by decide +kernel
theorem dX8_word_105 : decode cX8_word 105 = .ok (.istore_n 2, 1) := by decide +kernel
theorem dX8_word_106 : decode cX8_word 106 = .ok (.aload_n 0, 1) := by decide +kernel
theorem dX8_word_107 : decode cX8_word 107 = .ok (.getfield 66, 3) := by decide +kernel
theorem dX8_word_110 : decode cX8_word 110 = .ok (.iload_n 1, 1) := by decide +kernel
theorem dX8_word_111 : decode cX8_word 111 = .ok (.iaload, 1) := by decide +kernel
theorem dX8_word_112 : decode cX8_word 112 = .ok (.ifCond .eq 9, 3) := by decide +kernel
theorem dX8_word_115 : decode cX8_word 115 = .ok (.iinc 1 1, 3) := by decide +kernel
theorem dX8_word_118 : decode cX8_word 118 = .ok (.goto (-12), 3) := by decide +kernel
theorem dX8_word_121 : decode cX8_word 121 = .ok (.iinc 1 1, 3) := by decide +kernel
theorem dX8_word_124 : decode cX8_word 124 = .ok (.iinc 3 1, 3) := by decide +kernel
theorem dX8_word_127 : decode cX8_word 127 = .ok (.goto (-118), 3) := by decide +kernel
theorem dX8_word_130 : decode cX8_word 130 = .ok (.aload_n 0, 1) := by decide +kernel
theorem dX8_word_131 : decode cX8_word 131 = .ok (.iload_n 2, 1) := by decide +kernel
theorem dX8_word_132 : decode cX8_word 132 = .ok (.putfield 149, 3) := by decide +kernel
theorem dX8_word_135 : decode cX8_word 135 = .ok (.iconst (-1), 1) := by decide +kernel
theorem dX8_word_136 : decode cX8_word 136 = .ok (.ireturn, 1) := by decide +kernel
theorem dX8_isDigit_0 : decode cX8_isDigit 0 = .ok (.aload_n 0, 1) := by decide +kernel
theorem dX8_isDigit_1 : decode cX8_isDigit 1 = .ok (.getfield 152, 3) := by decide +kernel
theorem dX8_isDigit_4 : decode cX8_isDigit 4 = .ok (.aload_n 0, 1) := by decide +kernel
theorem dX8_isDigit_5 : decode cX8_isDigit 5 = .ok (.getfield 155, 3) := by decide +kernel
theorem dX8_isDigit_8 : decode cX8_isDigit 8 = .ok (.if_icmp .ge 47, 3) := by decide +kernel
theorem dX8_isDigit_11 : decode cX8_isDigit 11 = .ok (.aload_n 0, 1) := by decide +kernel
theorem dX8_isDigit_12 : decode cX8_isDigit 12 = .ok (.getfield 59, 3) := by decide +kernel
theorem dX8_isDigit_15 : decode cX8_isDigit 15 = .ok (.aload_n 0, 1) := by decide +kernel
theorem dX8_isDigit_16 : decode cX8_isDigit 16 = .ok (.getfield 158, 3) := by decide +kernel
theorem dX8_isDigit_19 : decode cX8_isDigit 19 = .ok (.aload_n 0, 1) := by decide +kernel
theorem dX8_isDigit_20 : decode cX8_isDigit 20 = .ok (.getfield 152, 3) := by decide +kernel
theorem dX8_isDigit_23 : decode cX8_isDigit 23 = .ok (.iadd, 1) := by decide +kernel
theorem dX8_isDigit_24 : decode cX8_isDigit 24 = .ok (.laload, 1) := by decide +kernel
theorem dX8_isDigit_25 : decode cX8_isDigit 25 = .ok (.l2i, 1) := by decide +kernel
theorem dX8_isDigit_26 : decode cX8_isDigit 26 = .ok (.bipush 48, 2) := by decide +kernel
theorem dX8_isDigit_28 : decode cX8_isDigit 28 = .ok (.if_icmp .lt 27, 3) := by decide +kernel
theorem dX8_isDigit_31 : decode cX8_isDigit 31 = .ok (.aload_n 0, 1) := by decide +kernel
theorem dX8_isDigit_32 : decode cX8_isDigit 32 = .ok (.getfield 59, 3) := by decide +kernel
theorem dX8_isDigit_35 : decode cX8_isDigit 35 = .ok (.aload_n 0, 1) := by decide +kernel
theorem dX8_isDigit_36 : decode cX8_isDigit 36 = .ok (.getfield 158, 3) := by decide +kernel
theorem dX8_isDigit_39 : decode cX8_isDigit 39 = .ok (.aload_n 0, 1) := by decide +kernel
theorem dX8_isDigit_40 : decode cX8_isDigit 40 = .ok (.getfield 152, 3) := by decide +kernel
theorem dX8_isDigit_43 : decode cX8_isDigit 43 = .ok (.iadd, 1) := by decide +kernel
theorem dX8_isDigit_44 : decode cX8_isDigit 44 = .ok (.laload, 1) := by decide +kernel
theorem dX8_isDigit_45 : decode cX8_isDigit 45 = .ok (.l2i, 1) := by decide +kernel
theorem dX8_isDigit_46 : decode cX8_isDigit 46 = .ok (.bipush 57, 2) := by decide +kernel
theorem dX8_isDigit_48 : decode cX8_isDigit 48 = .ok (.if_icmp .gt 7, 3) := by decide +kernel
theorem dX8_isDigit_51 : decode cX8_isDigit 51 = .ok (.iconst 1, 1) := by decide +kernel
theorem dX8_isDigit_52 : decode cX8_isDigit 52 = .ok (.goto 4, 3) := by decide +kernel
theorem dX8_isDigit_55 : decode cX8_isDigit 55 = .ok (.iconst 0, 1) := by decide +kernel
theorem dX8_isDigit_56 : decode cX8_isDigit 56 = .ok (.ireturn, 1) := by decide +kernel
set_option maxRecDepth 20000 in
theorem ggX8_reads_X8_isDigit : GoodIn wsX8_reads wsX8_isDigit := goodIn_r _ [9, 2, 10, 3, 4, 16, 17, 18, 19, 20, 21, 22, 23, 24, 25, 26, 27, 28, 29, 30, 31, 32, 33, 34, 35, 36, 37, 38, 39, 40, 41, 42, 43, 44, 45, 46, 47, 48, 49, 50, 51, 52, 53] (by decide +kernel) (by decide +kernel)
set_option maxRecDepth 20000 in
theorem gX8_reads_X8_isDigit : GoodIn wsX8_reads (wsV RX8 164 RX8 yX8_isDigit wsX8_isDigit) := goodIn_app (goodIn_of _ (by decide +kernel)) ggX8_reads_X8_isDigit
set_option maxRecDepth 20000 in
theorem ggX8_reads_X8_wrong : GoodIn wsX8_reads wsX8_wrong := goodIn_r _ [14, 15, 16, 17, 18, 19, 20, 21, 22, 23, 24, 25, 26, 27, 28, 29, 30, 31, 32, 33, 34, 35, 36, 37, 38, 39, 40, 41, 42, 43, 44, 45, 46, 47, 48, 49, 50, 51, 52, 53] (by decide +kernel) (by decide +kernel)
set_option maxRecDepth 20000 in
theorem gX8_reads_X8_wrong : GoodIn wsX8_reads (wsV RX8 168 RX8 yX8_wrong wsX8_wrong) := goodIn_app (goodIn_of _ (by decide +kernel)) ggX8_reads_X8_wrong
theorem dX8_reads_0 : decode cX8_reads 0 = .ok (.aload_n 0, 1) := by decide +kernel
theorem dX8_reads_1 : decode cX8_reads 1 = .ok (.iconst 0, 1) := by decide +kernel
theorem dX8_reads_2 : decode cX8_reads 2 = .ok (.putfield 161, 3) := by decide +kernel
theorem dX8_reads_5 : decode cX8_reads 5 = .ok (.aload_n 0, 1) := by decide +kernel
theorem dX8_reads_6 : decode cX8_reads 6 = .ok (.invokevirtual 164, 3) := by decide +kernel
theorem dX8_reads_9 : decode cX8_reads 9 = .ok (.ifCond .ne 12, 3) := by decide +kernel
theorem dX8_reads_12 : decode cX8_reads 12 = .ok (.aload_n 0, 1) := by decide +kernel
theorem dX8_reads_13 : decode cX8_reads 13 = .ok (.aload_n 0, 1) := by decide +kernel
theorem dX8_reads_14 : decode cX8_reads 14 = .ok (.getfield 152, 3) := by decide +kernel
theorem dX8_reads_17 : decode cX8_reads 17 = .ok (.invokevirtual 168, 3) := by decide +kernel
theorem dX8_reads_20 : decode cX8_reads 20 = .ok (.ireturn, 1) := by decide +kernel
theorem dX8_reads_21 : decode cX8_reads 21 = .ok (.iconst 0, 1) := by decide +kernel
theorem dX8_reads_22 : decode cX8_reads 22 = .ok (.istore_n 1, 1) := by decide +kernel
theorem dX8_reads_23 : decode cX8_reads 23 = .ok (.iload_n 1, 1) := by decide +kernel
theorem dX8_reads_24 : decode cX8_reads 24 = .ok (.iconst 3, 1) := by decide +kernel
theorem dX8_reads_25 : decode cX8_reads 25 = .ok (.if_icmp .ge 56, 3) := by decide +kernel
theorem dX8_reads_28 : decode cX8_reads 28 = .ok (.aload_n 0, 1) := by decide +kernel
theorem dX8_reads_29 : decode cX8_reads 29 = .ok (.invokevirtual 164, 3) := by decide +kernel
theorem dX8_reads_32 : decode cX8_reads 32 = .ok (.ifCond .eq 49, 3) := by decide +kernel
theorem dX8_reads_35 : decode cX8_reads 35 = .ok (.aload_n 0, 1) := by decide +kernel
theorem dX8_reads_36 : decode cX8_reads 36 = .ok (.bipush 10, 2) := by decide +kernel
theorem dX8_reads_38 : decode cX8_reads 38 = .ok (.aload_n 0, 1) := by decide +kernel
theorem dX8_reads_39 : decode cX8_reads 39 = .ok (.getfield 161, 3) := by decide +kernel
theorem dX8_reads_42 : decode cX8_reads 42 = .ok (.imul, 1) := by decide +kernel
theorem dX8_reads_43 : decode cX8_reads 43 = .ok (.aload_n 0, 1) := by decide +kernel
theorem dX8_reads_44 : decode cX8_reads 44 = .ok (.getfield 59, 3) := by decide +kernel
theorem dX8_reads_47 : decode cX8_reads 47 = .ok (.aload_n 0, 1) := by decide +kernel
theorem dX8_reads_48 : decode cX8_reads 48 = .ok (.getfield 158, 3) := by decide +kernel
theorem dX8_reads_51 : decode cX8_reads 51 = .ok (.aload_n 0, 1) := by decide +kernel
theorem dX8_reads_52 : decode cX8_reads 52 = .ok (.getfield 152, 3) := by decide +kernel
theorem dX8_reads_55 : decode cX8_reads 55 = .ok (.iadd, 1) := by decide +kernel
theorem dX8_reads_56 : decode cX8_reads 56 = .ok (.laload, 1) := by decide +kernel
theorem dX8_reads_57 : decode cX8_reads 57 = .ok (.l2i, 1) := by decide +kernel
theorem dX8_reads_58 : decode cX8_reads 58 = .ok (.iadd, 1) := by decide +kernel
theorem dX8_reads_59 : decode cX8_reads 59 = .ok (.bipush 48, 2) := by decide +kernel
theorem dX8_reads_61 : decode cX8_reads 61 = .ok (.isub, 1) := by decide +kernel
theorem dX8_reads_62 : decode cX8_reads 62 = .ok (.putfield 161, 3) := by decide +kernel
theorem dX8_reads_65 : decode cX8_reads 65 = .ok (.aload_n 0, 1) := by decide +kernel
theorem dX8_reads_66 : decode cX8_reads 66 = .ok (.dup, 1) := by decide +kernel
theorem dX8_reads_67 : decode cX8_reads 67 = .ok (.getfield 152, 3) := by decide +kernel
theorem dX8_reads_70 : decode cX8_reads 70 = .ok (.iconst 1, 1) := by decide +kernel
theorem dX8_reads_71 : decode cX8_reads 71 = .ok (.iadd, 1) := by decide +kernel
theorem dX8_reads_72 : decode cX8_reads 72 = .ok (.putfield 152, 3) := by decide +kernel
theorem dX8_reads_75 : decode cX8_reads 75 = .ok (.iinc 1 1, 3) := by decide +kernel
theorem dX8_reads_78 : decode cX8_reads 78 = .ok (.goto (-55), 3) := by decide +kernel
theorem dX8_reads_81 : decode cX8_reads 81 = .ok (.iconst 1, 1) := by decide +kernel
theorem dX8_reads_82 : decode cX8_reads 82 = .ok (.ireturn, 1) := by decide +kernel
set_option maxRecDepth 20000 in
theorem ggX8_isSo_X8_isAsked : GoodIn wsX8_isSo wsX8_isAsked := goodIn_r _ [7, 8, 9, 10, 6, 11, 2, 12, 13, 14, 15, 16, 17, 18, 19, 20, 21, 22, 23, 24, 25, 26, 27, 28, 29, 30, 31, 32, 33, 34, 35, 36, 37, 38, 39, 40, 41, 42, 43, 44, 45, 46, 47, 48, 49] (by decide +kernel) (by decide +kernel)
set_option maxRecDepth 20000 in
theorem gX8_isSo_X8_isAsked : GoodIn wsX8_isSo (wsV RX8 138 RX8 yX8_isAsked wsX8_isAsked) := goodIn_app (goodIn_of _ (by decide +kernel)) ggX8_isSo_X8_isAsked
theorem dX8_isSo_0 : decode cX8_isSo 0 = .ok (.iload_n 1, 1) := by decide +kernel
theorem dX8_isSo_1 : decode cX8_isSo 1 = .ok (.tableswitch 233 0 9 #[55, 78, 95, 133, 233, 233, 233, 233, 199, 222], 55) := by decide +kernel
theorem dX8_isSo_56 : decode cX8_isSo 56 = .ok (.aload_n 0, 1) := by decide +kernel
theorem dX8_isSo_57 : decode cX8_isSo 57 = .ok (.getfield 161, 3) := by decide +kernel
theorem dX8_isSo_60 : decode cX8_isSo 60 = .ok (.iconst 4, 1) := by decide +kernel
theorem dX8_isSo_61 : decode cX8_isSo 61 = .ok (.if_icmp .lt 16, 3) := by decide +kernel
theorem dX8_isSo_64 : decode cX8_isSo 64 = .ok (.aload_n 0, 1) := by decide +kernel
theorem dX8_isSo_65 : decode cX8_isSo 65 = .ok (.getfield 161, 3) := by decide +kernel
theorem dX8_isSo_68 : decode cX8_isSo 68 = .ok (.bipush 40, 2) := by decide +kernel
theorem dX8_isSo_70 : decode cX8_isSo 70 = .ok (.if_icmp .gt 7, 3) := by decide +kernel
theorem dX8_isSo_73 : decode cX8_isSo 73 = .ok (.iconst 1, 1) := by decide +kernel
theorem dX8_isSo_74 : decode cX8_isSo 74 = .ok (.goto 4, 3) := by decide +kernel
theorem dX8_isSo_77 : decode cX8_isSo 77 = .ok (.iconst 0, 1) := by decide +kernel
theorem dX8_isSo_78 : decode cX8_isSo 78 = .ok (.ireturn, 1) := by decide +kernel
theorem dX8_isSo_79 : decode cX8_isSo 79 = .ok (.aload_n 0, 1) := by decide +kernel
theorem dX8_isSo_80 : decode cX8_isSo 80 = .ok (.getfield 161, 3) := by decide +kernel
theorem dX8_isSo_83 : decode cX8_isSo 83 = .ok (.aload_n 0, 1) := by decide +kernel
theorem dX8_isSo_84 : decode cX8_isSo 84 = .ok (.getfield 7, 3) := by decide +kernel
theorem dX8_isSo_87 : decode cX8_isSo 87 = .ok (.if_icmp .ge 7, 3) := by decide +kernel
theorem dX8_isSo_90 : decode cX8_isSo 90 = .ok (.iconst 1, 1) := by decide +kernel
theorem dX8_isSo_91 : decode cX8_isSo 91 = .ok (.goto 4, 3) := by decide +kernel
theorem dX8_isSo_94 : decode cX8_isSo 94 = .ok (.iconst 0, 1) := by decide +kernel
theorem dX8_isSo_95 : decode cX8_isSo 95 = .ok (.ireturn, 1) := by decide +kernel
theorem dX8_isSo_96 : decode cX8_isSo 96 = .ok (.iload_n 2, 1) := by decide +kernel
theorem dX8_isSo_97 : decode cX8_isSo 97 = .ok (.ifCond .ne 22, 3) := by decide +kernel
theorem dX8_isSo_100 : decode cX8_isSo 100 = .ok (.aload_n 0, 1) := by decide +kernel
theorem dX8_isSo_101 : decode cX8_isSo 101 = .ok (.getfield 161, 3) := by decide +kernel
theorem dX8_isSo_104 : decode cX8_isSo 104 = .ok (.aload_n 0, 1) := by decide +kernel
theorem dX8_isSo_105 : decode cX8_isSo 105 = .ok (.getfield 7, 3) := by decide +kernel
theorem dX8_isSo_108 : decode cX8_isSo 108 = .ok (.if_icmp .ge 7, 3) := by decide +kernel
theorem dX8_isSo_111 : decode cX8_isSo 111 = .ok (.iconst 1, 1) := by decide +kernel
theorem dX8_isSo_112 : decode cX8_isSo 112 = .ok (.goto 21, 3) := by decide +kernel
theorem dX8_isSo_115 : decode cX8_isSo 115 = .ok (.iconst 0, 1) := by decide +kernel
theorem dX8_isSo_116 : decode cX8_isSo 116 = .ok (.goto 17, 3) := by decide +kernel
theorem dX8_isSo_119 : decode cX8_isSo 119 = .ok (.aload_n 0, 1) := by decide +kernel
theorem dX8_isSo_120 : decode cX8_isSo 120 = .ok (.getfield 161, 3) := by decide +kernel
theorem dX8_isSo_123 : decode cX8_isSo 123 = .ok (.bipush 9, 2) := by decide +kernel
theorem dX8_isSo_125 : decode cX8_isSo 125 = .ok (.if_icmp .gt 7, 3) := by decide +kernel
theorem dX8_isSo_128 : decode cX8_isSo 128 = .ok (.iconst 1, 1) := by decide +kernel
theorem dX8_isSo_129 : decode cX8_isSo 129 = .ok (.goto 4, 3) := by decide +kernel
theorem dX8_isSo_132 : decode cX8_isSo 132 = .ok (.iconst 0, 1) := by decide +kernel
theorem dX8_isSo_133 : decode cX8_isSo 133 = .ok (.ireturn, 1) := by decide +kernel
theorem dX8_isSo_134 : decode cX8_isSo 134 = .ok (.iload_n 2, 1) := by decide +kernel
theorem dX8_isSo_135 : decode cX8_isSo 135 = .ok (.ifCond .ne 20, 3) := by decide +kernel
theorem dX8_isSo_138 : decode cX8_isSo 138 = .ok (.aload_n 0, 1) := by decide +kernel
theorem dX8_isSo_139 : decode cX8_isSo 139 = .ok (.getfield 161, 3) := by decide +kernel
theorem dX8_isSo_142 : decode cX8_isSo 142 = .ok (.bipush 6, 2) := by decide +kernel
theorem dX8_isSo_144 : decode cX8_isSo 144 = .ok (.if_icmp .gt 7, 3) := by decide +kernel
theorem dX8_isSo_147 : decode cX8_isSo 147 = .ok (.iconst 1, 1) := by decide +kernel
theorem dX8_isSo_148 : decode cX8_isSo 148 = .ok (.goto 51, 3) := by decide +kernel
theorem dX8_isSo_151 : decode cX8_isSo 151 = .ok (.iconst 0, 1) := by decide +kernel
theorem dX8_isSo_152 : decode cX8_isSo 152 = .ok (.goto 47, 3) := by decide +kernel
theorem dX8_isSo_155 : decode cX8_isSo 155 = .ok (.iload_n 2, 1) := by decide +kernel
theorem dX8_isSo_156 : decode cX8_isSo 156 = .ok (.iconst 1, 1) := by decide +kernel
theorem dX8_isSo_157 : decode cX8_isSo 157 = .ok (.if_icmp .ne 20, 3) := by decide +kernel
theorem dX8_isSo_160 : decode cX8_isSo 160 = .ok (.aload_n 0, 1) := by decide +kernel
theorem dX8_isSo_161 : decode cX8_isSo 161 = .ok (.getfield 161, 3) := by decide +kernel
theorem dX8_isSo_164 : decode cX8_isSo 164 = .ok (.bipush 9, 2) := by decide +kernel
theorem dX8_isSo_166 : decode cX8_isSo 166 = .ok (.if_icmp .gt 7, 3) := by decide +kernel
theorem dX8_isSo_169 : decode cX8_isSo 169 = .ok (.iconst 1, 1) := by decide +kernel
theorem dX8_isSo_170 : decode cX8_isSo 170 = .ok (.goto 29, 3) := by decide +kernel
theorem dX8_isSo_173 : decode cX8_isSo 173 = .ok (.iconst 0, 1) := by decide +kernel
theorem dX8_isSo_174 : decode cX8_isSo 174 = .ok (.goto 25, 3) := by decide +kernel
theorem dX8_isSo_177 : decode cX8_isSo 177 = .ok (.aload_n 0, 1) := by decide +kernel
theorem dX8_isSo_178 : decode cX8_isSo 178 = .ok (.getfield 161, 3) := by decide +kernel
theorem dX8_isSo_181 : decode cX8_isSo 181 = .ok (.iconst 1, 1) := by decide +kernel
theorem dX8_isSo_182 : decode cX8_isSo 182 = .ok (.if_icmp .lt 16, 3) := by decide +kernel
theorem dX8_isSo_185 : decode cX8_isSo 185 = .ok (.aload_n 0, 1) := by decide +kernel
theorem dX8_isSo_186 : decode cX8_isSo 186 = .ok (.getfield 161, 3) := by decide +kernel
theorem dX8_isSo_189 : decode cX8_isSo 189 = .ok (.bipush 60, 2) := by decide +kernel
theorem dX8_isSo_191 : decode cX8_isSo 191 = .ok (.if_icmp .gt 7, 3) := by decide +kernel
theorem dX8_isSo_194 : decode cX8_isSo 194 = .ok (.iconst 1, 1) := by decide +kernel
theorem dX8_isSo_195 : decode cX8_isSo 195 = .ok (.goto 4, 3) := by decide +kernel
theorem dX8_isSo_198 : decode cX8_isSo 198 = .ok (.iconst 0, 1) := by decide +kernel
theorem dX8_isSo_199 : decode cX8_isSo 199 = .ok (.ireturn, 1) := by decide +kernel
theorem dX8_isSo_200 : decode cX8_isSo 200 = .ok (.aload_n 0, 1) := by decide +kernel
theorem dX8_isSo_201 : decode cX8_isSo 201 = .ok (.getfield 161, 3) := by decide +kernel
theorem dX8_isSo_204 : decode cX8_isSo 204 = .ok (.iload_n 2, 1) := by decide +kernel
theorem dX8_isSo_205 : decode cX8_isSo 205 = .ok (.ifCond .ne 7, 3) := by decide +kernel
theorem dX8_isSo_208 : decode cX8_isSo 208 = .ok (.iconst 2, 1) := by decide +kernel
theorem dX8_isSo_209 : decode cX8_isSo 209 = .ok (.goto 5, 3) := by decide +kernel
theorem dX8_isSo_212 : decode cX8_isSo 212 = .ok (.bipush 99, 2) := by decide +kernel
theorem dX8_isSo_214 : decode cX8_isSo 214 = .ok (.if_icmp .gt 7, 3) := by decide +kernel
theorem dX8_isSo_217 : decode cX8_isSo 217 = .ok (.iconst 1, 1) := by decide +kernel
theorem dX8_isSo_218 : decode cX8_isSo 218 = .ok (.goto 4, 3) := by decide +kernel
theorem dX8_isSo_221 : decode cX8_isSo 221 = .ok (.iconst 0, 1) := by decide +kernel
theorem dX8_isSo_222 : decode cX8_isSo 222 = .ok (.ireturn, 1) := by decide +kernel
theorem dX8_isSo_223 : decode cX8_isSo 223 = .ok (.aload_n 0, 1) := by decide +kernel
theorem dX8_isSo_224 : decode cX8_isSo 224 = .ok (.bipush 7, 2) := by decide +kernel
theorem dX8_isSo_226 : decode cX8_isSo 226 = .ok (.aload_n 0, 1) := by decide +kernel
theorem dX8_isSo_227 : decode cX8_isSo 227 = .ok (.getfield 161, 3) := by decide +kernel
theorem dX8_isSo_230 : decode cX8_isSo 230 = .ok (.invokevirtual 138, 3) := by decide +kernel
theorem dX8_isSo_233 : decode cX8_isSo 233 = .ok (.ireturn, 1) := by decide +kernel
theorem dX8_isSo_234 : decode cX8_isSo 234 = .ok (.aload_n 0, 1) := by decide +kernel
theorem dX8_isSo_235 : decode cX8_isSo 235 = .ok (.iload_n 1, 1) := by decide +kernel
theorem dX8_isSo_236 : decode cX8_isSo 236 = .ok (.iconst 4, 1) := by decide +kernel
theorem dX8_isSo_237 : decode cX8_isSo 237 = .ok (.isub, 1) := by decide +kernel
theorem dX8_isSo_238 : decode cX8_isSo 238 = .ok (.aload_n 0, 1) := by decide +kernel
theorem dX8_isSo_239 : decode cX8_isSo 239 = .ok (.getfield 161, 3) := by decide +kernel
theorem dX8_isSo_242 : decode cX8_isSo 242 = .ok (.invokevirtual 138, 3) := by decide +kernel
theorem dX8_isSo_245 : decode cX8_isSo 245 = .ok (.ireturn, 1) := by decide +kernel
set_option maxRecDepth 20000 in
theorem ggX8_item_X8_stands : GoodIn wsX8_item wsX8_stands := goodIn_r _ [17, 18, 2, 4, 5, 6, 68, 69, 70, 71, 72, 73, 74, 75, 76, 77, 78, 79, 80, 81, 82, 83, 84, 85, 86, 87, 88, 89, 90, 91, 92, 93, 94, 95, 96, 97, 98, 99, 100, 101, 102, 103, 104, 105] (by decide +kernel) (by decide +kernel)
set_option maxRecDepth 20000 in
theorem gX8_item_X8_stands : GoodIn wsX8_item (wsV RX8 171 RX8 yX8_stands wsX8_stands) := goodIn_app (goodIn_of _ (by decide +kernel)) ggX8_item_X8_stands
set_option maxRecDepth 20000 in
theorem ggX8_item_X8_wrong : GoodIn wsX8_item wsX8_wrong := goodIn_r _ [22, 23, 68, 69, 70, 71, 72, 73, 74, 75, 76, 77, 78, 79, 80, 81, 82, 83, 84, 85, 86, 87, 88, 89, 90, 91, 92, 93, 94, 95, 96, 97, 98, 99, 100, 101, 102, 103, 104, 105] (by decide +kernel) (by decide +kernel)
set_option maxRecDepth 20000 in
theorem gX8_item_X8_wrong : GoodIn wsX8_item (wsV RX8 168 RX8 yX8_wrong wsX8_wrong) := goodIn_app (goodIn_of _ (by decide +kernel)) ggX8_item_X8_wrong
set_option maxRecDepth 20000 in
theorem ggX8_item_X8_word : GoodIn wsX8_item wsX8_word := goodIn_r _ [27, 2, 18, 4, 5, 6, 23, 68, 69, 70, 71, 72, 73, 74, 75, 76, 77, 78, 79, 80, 81, 82, 83, 84, 85, 86, 87, 88, 89, 90, 91, 92, 93, 94, 95, 96, 97, 98, 99, 100, 101, 102, 103, 104, 105] (by decide +kernel) (by decide +kernel)
set_option maxRecDepth 20000 in
theorem gX8_item_X8_word : GoodIn wsX8_item (wsV RX8 174 RX8 yX8_word wsX8_word) := goodIn_app (goodIn_of _ (by decide +kernel)) ggX8_item_X8_word
set_option maxRecDepth 20000 in
theorem ggX8_item_X8_reads : GoodIn wsX8_item wsX8_reads := goodIn_r _ [31, 8, 2, 5, 6, 32, 33, 34, 16, 35, 4, 19, 20, 21, 22, 23, 68, 69, 70, 71, 72, 73, 74, 75, 76, 77, 78, 79, 80, 81, 82, 83, 84, 85, 86, 87, 88, 89, 90, 91, 92, 93, 94, 95, 96, 97, 98, 99, 100, 101, 102, 103, 104, 105] (by decide +kernel) (by decide +kernel)
set_option maxRecDepth 20000 in
theorem gX8_item_X8_reads : GoodIn wsX8_item (wsV RX8 178 RX8 yX8_reads wsX8_reads) := goodIn_app (goodIn_of _ (by decide +kernel)) ggX8_item_X8_reads
set_option maxRecDepth 20000 in
theorem ggX8_item_X8_isSo : GoodIn wsX8_item wsX8_isSo := goodIn_r _ [39, 8, 40, 41, 42, 43, 16, 44, 45, 46, 47, 48, 68, 69, 70, 71, 72, 73, 74, 75, 76, 77, 78, 79, 80, 81, 82, 83, 84, 85, 86, 87, 88, 89, 90, 91, 92, 93, 94, 95, 96, 97, 98, 99, 100, 101, 102, 103, 104, 105] (by decide +kernel) (by decide +kernel)
set_option maxRecDepth 20000 in
theorem gX8_item_X8_isSo : GoodIn wsX8_item (wsV RX8 181 RX8 yX8_isSo wsX8_isSo) := goodIn_app (goodIn_of _ (by decide +kernel)) ggX8_item_X8_isSo
set_option maxRecDepth 20000 in
theorem ggX8_item_X8_sews : GoodIn wsX8_item wsX8_sews := goodIn_r _ [52, 40, 12, 9, 10, 68, 69, 70, 71, 72, 73, 74, 75, 76, 77, 78, 79, 80, 81, 82, 83, 84, 85, 86, 87, 88, 89, 90, 91, 92, 93, 94, 95, 96, 97, 98, 99, 100, 101, 102, 103, 104, 105] (by decide +kernel) (by decide +kernel)
set_option maxRecDepth 20000 in
theorem gX8_item_X8_sews : GoodIn wsX8_item (wsV RX8 125 RX8 yX8_sews wsX8_sews) := goodIn_app (goodIn_of _ (by decide +kernel)) ggX8_item_X8_sews
set_option maxRecDepth 20000 in
theorem ggX8_item_X8_addsPull : GoodIn wsX8_item wsX8_addsPull := goodIn_r _ [56, 57, 1, 58, 59, 68, 69, 70, 71, 72, 73, 74, 75, 76, 77, 78, 79, 80, 81, 82, 83, 84, 85, 86, 87, 88, 89, 90, 91, 92, 93, 94, 95, 96, 97, 98, 99, 100, 101, 102, 103, 104, 105] (by decide +kernel) (by decide +kernel)
set_option maxRecDepth 20000 in
theorem gX8_item_X8_addsPull : GoodIn wsX8_item (wsV RX8 111 RX8 yX8_addsPull wsX8_addsPull) := goodIn_app (goodIn_of _ (by decide +kernel)) ggX8_item_X8_addsPull
set_option maxRecDepth 20000 in
theorem ggX8_item_X8_tells : GoodIn wsX8_item wsX8_tells := goodIn_r _ [63, 64, 65, 66, 67, 12, 11, 68, 69, 70, 71, 72, 73, 74, 75, 76, 77, 78, 79, 80, 81, 82, 83, 84, 85, 86, 87, 88, 89, 90, 91, 92, 93, 94, 95, 96, 97, 98, 99, 100, 101, 102, 103, 104, 105] (by decide +kernel) (by decide +kernel)
set_option maxRecDepth 20000 in
theorem gX8_item_X8_tells : GoodIn wsX8_item (wsV RX8 145 RX8 yX8_tells wsX8_tells) := goodIn_app (goodIn_of _ (by decide +kernel)) ggX8_item_X8_tells
theorem dX8_item_0 : decode cX8_item 0 = .ok (.aload_n 0, 1) := by decide +kernel
theorem dX8_item_1 : decode cX8_item 1 = .ok (.iconst 3, 1) := by decide +kernel
theorem dX8_item_2 : decode cX8_item 2 = .ok (.invokevirtual 171, 3) := by decide +kernel
theorem dX8_item_5 : decode cX8_item 5 = .ok (.ifCond .eq 21, 3) := by decide +kernel
theorem dX8_item_8 : decode cX8_item 8 = .ok (.aload_n 0, 1) := by decide +kernel
theorem dX8_item_9 : decode cX8_item 9 = .ok (.getfield 90, 3) := by decide +kernel
theorem dX8_item_12 : decode cX8_item 12 = .ok (.bipush 8, 2) := by decide +kernel
theorem dX8_item_14 : decode cX8_item 14 = .ok (.if_icmp .ne 12, 3) := by decide +kernel
theorem dX8_item_17 : decode cX8_item 17 = .ok (.aload_n 0, 1) := by decide +kernel
theorem dX8_item_18 : decode cX8_item 18 = .ok (.aload_n 0, 1) := by decide +kernel
theorem dX8_item_19 : decode cX8_item 19 = .ok (.getfield 152, 3) := by decide +kernel
theorem dX8_item_22 : decode cX8_item 22 = .ok (.invokevirtual 168, 3) := by decide +kernel
theorem dX8_item_25 : decode cX8_item 25 = .ok (.ireturn, 1) := by decide +kernel
theorem dX8_item_26 : decode cX8_item 26 = .ok (.aload_n 0, 1) := by decide +kernel
theorem dX8_item_27 : decode cX8_item 27 = .ok (.invokevirtual 174, 3) := by decide +kernel
theorem dX8_item_30 : decode cX8_item 30 = .ok (.istore_n 1, 1) := by decide +kernel
theorem dX8_item_31 : decode cX8_item 31 = .ok (.iload_n 1, 1) := by decide +kernel
theorem dX8_item_32 : decode cX8_item 32 = .ok (.iconst (-1), 1) := by decide +kernel
theorem dX8_item_33 : decode cX8_item 33 = .ok (.if_icmp .ne 5, 3) := by decide +kernel
theorem dX8_item_36 : decode cX8_item 36 = .ok (.iconst 0, 1) := by decide +kernel
theorem dX8_item_37 : decode cX8_item 37 = .ok (.ireturn, 1) := by decide +kernel
theorem dX8_item_38 : decode cX8_item 38 = .ok (.iconst 0, 1) := by decide +kernel
theorem dX8_item_39 : decode cX8_item 39 = .ok (.istore_n 2, 1) := by decide +kernel
theorem dX8_item_40 : decode cX8_item 40 = .ok (.iload_n 2, 1) := by decide +kernel
theorem dX8_item_41 : decode cX8_item 41 = .ok (.aload_n 0, 1) := by decide +kernel
theorem dX8_item_42 : decode cX8_item 42 = .ok (.getfield 69, 3) := by decide +kernel
theorem dX8_item_45 : decode cX8_item 45 = .ok (.iload_n 1, 1) := by decide +kernel
theorem dX8_item_46 : decode cX8_item 46 = .ok (.iaload, 1) := by decide +kernel
theorem dX8_item_47 : decode cX8_item 47 = .ok (.if_icmp .ge 102, 3) := by decide +kernel
theorem dX8_item_50 : decode cX8_item 50 = .ok (.iload_n 2, 1) := by decide +kernel
theorem dX8_item_51 : decode cX8_item 51 = .ok (.ifCond .le 53, 3) := by decide +kernel
theorem dX8_item_54 : decode cX8_item 54 = .ok (.aload_n 0, 1) := by decide +kernel
theorem dX8_item_55 : decode cX8_item 55 = .ok (.getfield 152, 3) := by decide +kernel
theorem dX8_item_58 : decode cX8_item 58 = .ok (.aload_n 0, 1) := by decide +kernel
theorem dX8_item_59 : decode cX8_item 59 = .ok (.getfield 155, 3) := by decide +kernel
theorem dX8_item_62 : decode cX8_item 62 = .ok (.if_icmp .ge 23, 3) := by decide +kernel
theorem dX8_item_65 : decode cX8_item 65 = .ok (.aload_n 0, 1) := by decide +kernel
theorem dX8_item_66 : decode cX8_item 66 = .ok (.getfield 59, 3) := by decide +kernel
theorem dX8_item_69 : decode cX8_item 69 = .ok (.aload_n 0, 1) := by decide +kernel
theorem dX8_item_70 : decode cX8_item 70 = .ok (.getfield 158, 3) := by decide +kernel
theorem dX8_item_73 : decode cX8_item 73 = .ok (.aload_n 0, 1) := by decide +kernel
theorem dX8_item_74 : decode cX8_item 74 = .ok (.getfield 152, 3) := by decide +kernel
theorem dX8_item_77 : decode cX8_item 77 = .ok (.iadd, 1) := by decide +kernel
theorem dX8_item_78 : decode cX8_item 78 = .ok (.laload, 1) := by decide +kernel
theorem dX8_item_79 : decode cX8_item 79 = .ok (.l2i, 1) := by decide +kernel
theorem dX8_item_80 : decode cX8_item 80 = .ok (.bipush 32, 2) := by decide +kernel
theorem dX8_item_82 : decode cX8_item 82 = .ok (.if_icmp .eq 12, 3) := by decide +kernel
theorem dX8_item_85 : decode cX8_item 85 = .ok (.aload_n 0, 1) := by decide +kernel
theorem dX8_item_86 : decode cX8_item 86 = .ok (.aload_n 0, 1) := by decide +kernel
theorem dX8_item_87 : decode cX8_item 87 = .ok (.getfield 152, 3) := by decide +kernel
theorem dX8_item_90 : decode cX8_item 90 = .ok (.invokevirtual 168, 3) := by decide +kernel
theorem dX8_item_93 : decode cX8_item 93 = .ok (.ireturn, 1) := by decide +kernel
theorem dX8_item_94 : decode cX8_item 94 = .ok (.aload_n 0, 1) := by decide +kernel
theorem dX8_item_95 : decode cX8_item 95 = .ok (.dup, 1) := by decide +kernel
theorem dX8_item_96 : decode cX8_item 96 = .ok (.getfield 152, 3) := by decide +kernel
theorem dX8_item_99 : decode cX8_item 99 = .ok (.iconst 1, 1) := by decide +kernel
theorem dX8_item_100 : decode cX8_item 100 = .ok (.iadd, 1) := by decide +kernel
theorem dX8_item_101 : decode cX8_item 101 = .ok (.putfield 152, 3) := by decide +kernel
theorem dX8_item_104 : decode cX8_item 104 = .ok (.aload_n 0, 1) := by decide +kernel
theorem dX8_item_105 : decode cX8_item 105 = .ok (.getfield 152, 3) := by decide +kernel
theorem dX8_item_108 : decode cX8_item 108 = .ok (.istore_n 3, 1) := by decide +kernel
theorem dX8_item_109 : decode cX8_item 109 = .ok (.aload_n 0, 1) := by decide +kernel
theorem dX8_item_110 : decode cX8_item 110 = .ok (.invokevirtual 178, 3) := by decide +kernel
theorem dX8_item_113 : decode cX8_item 113 = .ok (.ifCond .ne 5, 3) := by decide +kernel
theorem dX8_item_116 : decode cX8_item 116 = .ok (.iconst 0, 1) := by decide +kernel
theorem dX8_item_117 : decode cX8_item 117 = .ok (.ireturn, 1) := by decide +kernel
theorem dX8_item_118 : decode cX8_item 118 = .ok (.aload_n 0, 1) := by decide +kernel
theorem dX8_item_119 : decode cX8_item 119 = .ok (.iload_n 1, 1) := by decide +kernel
theorem dX8_item_120 : decode cX8_item 120 = .ok (.iload_n 2, 1) := by decide +kernel
theorem dX8_item_121 : decode cX8_item 121 = .ok (.invokevirtual 181, 3) := by decide +kernel
theorem dX8_item_124 : decode cX8_item 124 = .ok (.ifCond .ne 9, 3) := by decide +kernel
theorem dX8_item_127 : decode cX8_item 127 = .ok (.aload_n 0, 1) := by decide +kernel
theorem dX8_item_128 : decode cX8_item 128 = .ok (.iload_n 3, 1) := by decide +kernel
theorem dX8_item_129 : decode cX8_item 129 = .ok (.invokevirtual 168, 3) := by decide +kernel
theorem dX8_item_132 : decode cX8_item 132 = .ok (.ireturn, 1) := by decide +kernel
theorem dX8_item_133 : decode cX8_item 133 = .ok (.aload_n 0, 1) := by decide +kernel
theorem dX8_item_134 : decode cX8_item 134 = .ok (.getfield 72, 3) := by decide +kernel
theorem dX8_item_137 : decode cX8_item 137 = .ok (.iload_n 2, 1) := by decide +kernel
theorem dX8_item_138 : decode cX8_item 138 = .ok (.aload_n 0, 1) := by decide +kernel
theorem dX8_item_139 : decode cX8_item 139 = .ok (.getfield 161, 3) := by decide +kernel
theorem dX8_item_142 : decode cX8_item 142 = .ok (.iastore, 1) := by decide +kernel
theorem dX8_item_143 : decode cX8_item 143 = .ok (.iinc 2 1, 3) := by decide +kernel
theorem dX8_item_146 : decode cX8_item 146 = .ok (.goto (-106), 3) := by decide +kernel
theorem dX8_item_149 : decode cX8_item 149 = .ok (.iload_n 1, 1) := by decide +kernel
theorem dX8_item_150 : decode cX8_item 150 = .ok (.tableswitch 161 0 9 #[54, 67, 82, 102, 161, 161, 161, 161, 128, 148], 54) := by decide +kernel
theorem dX8_item_204 : decode cX8_item 204 = .ok (.aload_n 0, 1) := by decide +kernel
theorem dX8_item_205 : decode cX8_item 205 = .ok (.aload_n 0, 1) := by decide +kernel
theorem dX8_item_206 : decode cX8_item 206 = .ok (.getfield 72, 3) := by decide +kernel
theorem dX8_item_209 : decode cX8_item 209 = .ok (.iconst 0, 1) := by decide +kernel
theorem dX8_item_210 : decode cX8_item 210 = .ok (.iaload, 1) := by decide +kernel
theorem dX8_item_211 : decode cX8_item 211 = .ok (.invokevirtual 125, 3) := by decide +kernel
theorem dX8_item_214 : decode cX8_item 214 = .ok (.goto 110, 3) := by decide +kernel
theorem dX8_item_217 : decode cX8_item 217 = .ok (.aload_n 0, 1) := by decide +kernel
theorem dX8_item_218 : decode cX8_item 218 = .ok (.getfield 38, 3) := by decide +kernel
theorem dX8_item_221 : decode cX8_item 221 = .ok (.aload_n 0, 1) := by decide +kernel
theorem dX8_item_222 : decode cX8_item 222 = .ok (.getfield 72, 3) := by decide +kernel
theorem dX8_item_225 : decode cX8_item 225 = .ok (.iconst 0, 1) := by decide +kernel
theorem dX8_item_226 : decode cX8_item 226 = .ok (.iaload, 1) := by decide +kernel
theorem dX8_item_227 : decode cX8_item 227 = .ok (.iconst 1, 1) := by decide +kernel
theorem dX8_item_228 : decode cX8_item 228 = .ok (.iastore, 1) := by decide +kernel
theorem dX8_item_229 : decode cX8_item 229 = .ok (.goto 95, 3) := by decide +kernel
theorem dX8_item_232 : decode cX8_item 232 = .ok (.aload_n 0, 1) := by decide +kernel
theorem dX8_item_233 : decode cX8_item 233 = .ok (.getfield 41, 3) := by decide +kernel
theorem dX8_item_236 : decode cX8_item 236 = .ok (.aload_n 0, 1) := by decide +kernel
theorem dX8_item_237 : decode cX8_item 237 = .ok (.getfield 72, 3) := by decide +kernel
theorem dX8_item_240 : decode cX8_item 240 = .ok (.iconst 0, 1) := by decide +kernel
theorem dX8_item_241 : decode cX8_item 241 = .ok (.iaload, 1) := by decide +kernel
theorem dX8_item_242 : decode cX8_item 242 = .ok (.aload_n 0, 1) := by decide +kernel
theorem dX8_item_243 : decode cX8_item 243 = .ok (.getfield 72, 3) := by decide +kernel
theorem dX8_item_246 : decode cX8_item 246 = .ok (.iconst 1, 1) := by decide +kernel
theorem dX8_item_247 : decode cX8_item 247 = .ok (.iaload, 1) := by decide +kernel
theorem dX8_item_248 : decode cX8_item 248 = .ok (.iastore, 1) := by decide +kernel
theorem dX8_item_249 : decode cX8_item 249 = .ok (.goto 75, 3) := by decide +kernel
theorem dX8_item_252 : decode cX8_item 252 = .ok (.aload_n 0, 1) := by decide +kernel
theorem dX8_item_253 : decode cX8_item 253 = .ok (.aload_n 0, 1) := by decide +kernel
theorem dX8_item_254 : decode cX8_item 254 = .ok (.getfield 72, 3) := by decide +kernel
theorem dX8_item_257 : decode cX8_item 257 = .ok (.iconst 0, 1) := by decide +kernel
theorem dX8_item_258 : decode cX8_item 258 = .ok (.iaload, 1) := by decide +kernel
theorem dX8_item_259 : decode cX8_item 259 = .ok (.aload_n 0, 1) := by decide +kernel
theorem dX8_item_260 : decode cX8_item 260 = .ok (.getfield 72, 3) := by decide +kernel
theorem dX8_item_263 : decode cX8_item 263 = .ok (.iconst 1, 1) := by decide +kernel
theorem dX8_item_264 : decode cX8_item 264 = .ok (.iaload, 1) := by decide +kernel
theorem dX8_item_265 : decode cX8_item 265 = .ok (.aload_n 0, 1) := by decide +kernel
theorem dX8_item_266 : decode cX8_item 266 = .ok (.getfield 72, 3) := by decide +kernel
theorem dX8_item_269 : decode cX8_item 269 = .ok (.iconst 2, 1) := by decide +kernel
theorem dX8_item_270 : decode cX8_item 270 = .ok (.iaload, 1) := by decide +kernel
theorem dX8_item_271 : decode cX8_item 271 = .ok (.invokevirtual 111, 3) := by decide +kernel
theorem dX8_item_274 : decode cX8_item 274 = .ok (.pop, 1) := by decide +kernel
theorem dX8_item_275 : decode cX8_item 275 = .ok (.goto 49, 3) := by decide +kernel
theorem dX8_item_278 : decode cX8_item 278 = .ok (.aload_n 0, 1) := by decide +kernel
theorem dX8_item_279 : decode cX8_item 279 = .ok (.getfield 44, 3) := by decide +kernel
theorem dX8_item_282 : decode cX8_item 282 = .ok (.aload_n 0, 1) := by decide +kernel
theorem dX8_item_283 : decode cX8_item 283 = .ok (.getfield 72, 3) := by decide +kernel
theorem dX8_item_286 : decode cX8_item 286 = .ok (.iconst 0, 1) := by decide +kernel
theorem dX8_item_287 : decode cX8_item 287 = .ok (.iaload, 1) := by decide +kernel
theorem dX8_item_288 : decode cX8_item 288 = .ok (.aload_n 0, 1) := by decide +kernel
theorem dX8_item_289 : decode cX8_item 289 = .ok (.getfield 72, 3) := by decide +kernel
theorem dX8_item_292 : decode cX8_item 292 = .ok (.iconst 1, 1) := by decide +kernel
theorem dX8_item_293 : decode cX8_item 293 = .ok (.iaload, 1) := by decide +kernel
theorem dX8_item_294 : decode cX8_item 294 = .ok (.iastore, 1) := by decide +kernel
theorem dX8_item_295 : decode cX8_item 295 = .ok (.goto 29, 3) := by decide +kernel
theorem dX8_item_298 : decode cX8_item 298 = .ok (.aload_n 0, 1) := by decide +kernel
theorem dX8_item_299 : decode cX8_item 299 = .ok (.aload_n 0, 1) := by decide +kernel
theorem dX8_item_300 : decode cX8_item 300 = .ok (.getfield 72, 3) := by decide +kernel
theorem dX8_item_303 : decode cX8_item 303 = .ok (.iconst 0, 1) := by decide +kernel
theorem dX8_item_304 : decode cX8_item 304 = .ok (.iaload, 1) := by decide +kernel
theorem dX8_item_305 : decode cX8_item 305 = .ok (.putfield 122, 3) := by decide +kernel
theorem dX8_item_308 : decode cX8_item 308 = .ok (.goto 16, 3) := by decide +kernel
theorem dX8_item_311 : decode cX8_item 311 = .ok (.aload_n 0, 1) := by decide +kernel
theorem dX8_item_312 : decode cX8_item 312 = .ok (.iload_n 1, 1) := by decide +kernel
theorem dX8_item_313 : decode cX8_item 313 = .ok (.iconst 4, 1) := by decide +kernel
theorem dX8_item_314 : decode cX8_item 314 = .ok (.isub, 1) := by decide +kernel
theorem dX8_item_315 : decode cX8_item 315 = .ok (.aload_n 0, 1) := by decide +kernel
theorem dX8_item_316 : decode cX8_item 316 = .ok (.getfield 72, 3) := by decide +kernel
theorem dX8_item_319 : decode cX8_item 319 = .ok (.iconst 0, 1) := by decide +kernel
theorem dX8_item_320 : decode cX8_item 320 = .ok (.iaload, 1) := by decide +kernel
theorem dX8_item_321 : decode cX8_item 321 = .ok (.invokevirtual 145, 3) := by decide +kernel
theorem dX8_item_324 : decode cX8_item 324 = .ok (.iconst 1, 1) := by decide +kernel
theorem dX8_item_325 : decode cX8_item 325 = .ok (.ireturn, 1) := by decide +kernel
theorem dX8_carries_0 : decode cX8_carries 0 = .ok (.iconst 0, 1) := by decide +kernel
theorem dX8_carries_1 : decode cX8_carries 1 = .ok (.istore 6, 2) := by decide +kernel
theorem dX8_carries_3 : decode cX8_carries 3 = .ok (.iload 6, 2) := by decide +kernel
theorem dX8_carries_5 : decode cX8_carries 5 = .ok (.iload_n 2, 1) := by decide +kernel
theorem dX8_carries_6 : decode cX8_carries 6 = .ok (.if_icmp .ge 39, 3) := by decide +kernel
theorem dX8_carries_9 : decode cX8_carries 9 = .ok (.iload 5, 2) := by decide +kernel
theorem dX8_carries_11 : decode cX8_carries 11 = .ok (.ifCond .eq 17, 3) := by decide +kernel
theorem dX8_carries_14 : decode cX8_carries 14 = .ok (.aload_n 1, 1) := by decide +kernel
theorem dX8_carries_15 : decode cX8_carries 15 = .ok (.iload 6, 2) := by decide +kernel
theorem dX8_carries_17 : decode cX8_carries 17 = .ok (.aload_n 3, 1) := by decide +kernel
theorem dX8_carries_18 : decode cX8_carries 18 = .ok (.iload 4, 2) := by decide +kernel
theorem dX8_carries_20 : decode cX8_carries 20 = .ok (.iload 6, 2) := by decide +kernel
theorem dX8_carries_22 : decode cX8_carries 22 = .ok (.iadd, 1) := by decide +kernel
theorem dX8_carries_23 : decode cX8_carries 23 = .ok (.iaload, 1) := by decide +kernel
theorem dX8_carries_24 : decode cX8_carries 24 = .ok (.iastore, 1) := by decide +kernel
theorem dX8_carries_25 : decode cX8_carries 25 = .ok (.goto 14, 3) := by decide +kernel
theorem dX8_carries_28 : decode cX8_carries 28 = .ok (.aload_n 3, 1) := by decide +kernel
theorem dX8_carries_29 : decode cX8_carries 29 = .ok (.iload 4, 2) := by decide +kernel
theorem dX8_carries_31 : decode cX8_carries 31 = .ok (.iload 6, 2) := by decide +kernel
theorem dX8_carries_33 : decode cX8_carries 33 = .ok (.iadd, 1) := by decide +kernel
theorem dX8_carries_34 : decode cX8_carries 34 = .ok (.aload_n 1, 1) := by decide +kernel
theorem dX8_carries_35 : decode cX8_carries 35 = .ok (.iload 6, 2) := by decide +kernel
theorem dX8_carries_37 : decode cX8_carries 37 = .ok (.iaload, 1) := by decide +kernel
theorem dX8_carries_38 : decode cX8_carries 38 = .ok (.iastore, 1) := by decide +kernel
theorem dX8_carries_39 : decode cX8_carries 39 = .ok (.iinc 6 1, 3) := by decide +kernel
theorem dX8_carries_42 : decode cX8_carries 42 = .ok (.goto (-39), 3) := by decide +kernel
theorem dX8_carries_45 : decode cX8_carries 45 = .ok (.iload 4, 2) := by decide +kernel
theorem dX8_carries_47 : decode cX8_carries 47 = .ok (.iload_n 2, 1) := by decide +kernel
theorem dX8_carries_48 : decode cX8_carries 48 = .ok (.iadd, 1) := by decide +kernel
theorem dX8_carries_49 : decode cX8_carries 49 = .ok (.ireturn, 1) := by decide +kernel
set_option maxRecDepth 20000 in
theorem ggX8_all_X8_carries : GoodIn wsX8_all wsX8_carries := goodIn_r _ [20] (by decide +kernel) (by decide +kernel)
set_option maxRecDepth 20000 in
theorem gX8_all_X8_carries : GoodIn wsX8_all (wsV RX8 184 RX8 yX8_carries wsX8_carries) := goodIn_app (goodIn_of _ (by decide +kernel)) ggX8_all_X8_carries
theorem dX8_all_0 : decode cX8_all 0 = .ok (.aload_n 0, 1) := by decide +kernel
theorem dX8_all_1 : decode cX8_all 1 = .ok (.aload_n 0, 1) := by decide +kernel
theorem dX8_all_2 : decode cX8_all 2 = .ok (.getfield 29, 3) := by decide +kernel
theorem dX8_all_5 : decode cX8_all 5 = .ok (.bipush 8, 2) := by decide +kernel
theorem dX8_all_7 : decode cX8_all 7 = .ok (.aload_n 1, 1) := by decide +kernel
theorem dX8_all_8 : decode cX8_all 8 = .ok (.iconst 0, 1) := by decide +kernel
theorem dX8_all_9 : decode cX8_all 9 = .ok (.iload_n 2, 1) := by decide +kernel
theorem dX8_all_10 : decode cX8_all 10 = .ok (.invokevirtual 184, 3) := by decide +kernel
theorem dX8_all_13 : decode cX8_all 13 = .ok (.istore_n 3, 1) := by decide +kernel
theorem dX8_all_14 : decode cX8_all 14 = .ok (.aload_n 0, 1) := by decide +kernel
theorem dX8_all_15 : decode cX8_all 15 = .ok (.aload_n 0, 1) := by decide +kernel
theorem dX8_all_16 : decode cX8_all 16 = .ok (.getfield 32, 3) := by decide +kernel
theorem dX8_all_19 : decode cX8_all 19 = .ok (.bipush 8, 2) := by decide +kernel
theorem dX8_all_21 : decode cX8_all 21 = .ok (.aload_n 1, 1) := by decide +kernel
theorem dX8_all_22 : decode cX8_all 22 = .ok (.iload_n 3, 1) := by decide +kernel
theorem dX8_all_23 : decode cX8_all 23 = .ok (.iload_n 2, 1) := by decide +kernel
theorem dX8_all_24 : decode cX8_all 24 = .ok (.invokevirtual 184, 3) := by decide +kernel
theorem dX8_all_27 : decode cX8_all 27 = .ok (.istore_n 3, 1) := by decide +kernel
theorem dX8_all_28 : decode cX8_all 28 = .ok (.aload_n 0, 1) := by decide +kernel
theorem dX8_all_29 : decode cX8_all 29 = .ok (.aload_n 0, 1) := by decide +kernel
theorem dX8_all_30 : decode cX8_all 30 = .ok (.getfield 35, 3) := by decide +kernel
theorem dX8_all_33 : decode cX8_all 33 = .ok (.bipush 8, 2) := by decide +kernel
theorem dX8_all_35 : decode cX8_all 35 = .ok (.aload_n 1, 1) := by decide +kernel
theorem dX8_all_36 : decode cX8_all 36 = .ok (.iload_n 3, 1) := by decide +kernel
theorem dX8_all_37 : decode cX8_all 37 = .ok (.iload_n 2, 1) := by decide +kernel
theorem dX8_all_38 : decode cX8_all 38 = .ok (.invokevirtual 184, 3) := by decide +kernel
theorem dX8_all_41 : decode cX8_all 41 = .ok (.istore_n 3, 1) := by decide +kernel
theorem dX8_all_42 : decode cX8_all 42 = .ok (.aload_n 0, 1) := by decide +kernel
theorem dX8_all_43 : decode cX8_all 43 = .ok (.aload_n 0, 1) := by decide +kernel
theorem dX8_all_44 : decode cX8_all 44 = .ok (.getfield 38, 3) := by decide +kernel
theorem dX8_all_47 : decode cX8_all 47 = .ok (.bipush 40, 2) := by decide +kernel
theorem dX8_all_49 : decode cX8_all 49 = .ok (.aload_n 1, 1) := by decide +kernel
theorem dX8_all_50 : decode cX8_all 50 = .ok (.iload_n 3, 1) := by decide +kernel
theorem dX8_all_51 : decode cX8_all 51 = .ok (.iload_n 2, 1) := by decide +kernel
theorem dX8_all_52 : decode cX8_all 52 = .ok (.invokevirtual 184, 3) := by decide +kernel
theorem dX8_all_55 : decode cX8_all 55 = .ok (.istore_n 3, 1) := by decide +kernel
theorem dX8_all_56 : decode cX8_all 56 = .ok (.aload_n 0, 1) := by decide +kernel
theorem dX8_all_57 : decode cX8_all 57 = .ok (.aload_n 0, 1) := by decide +kernel
theorem dX8_all_58 : decode cX8_all 58 = .ok (.getfield 41, 3) := by decide +kernel
theorem dX8_all_61 : decode cX8_all 61 = .ok (.bipush 40, 2) := by decide +kernel
theorem dX8_all_63 : decode cX8_all 63 = .ok (.aload_n 1, 1) := by decide +kernel
theorem dX8_all_64 : decode cX8_all 64 = .ok (.iload_n 3, 1) := by decide +kernel
theorem dX8_all_65 : decode cX8_all 65 = .ok (.iload_n 2, 1) := by decide +kernel
theorem dX8_all_66 : decode cX8_all 66 = .ok (.invokevirtual 184, 3) := by decide +kernel
theorem dX8_all_69 : decode cX8_all 69 = .ok (.istore_n 3, 1) := by decide +kernel
theorem dX8_all_70 : decode cX8_all 70 = .ok (.aload_n 0, 1) := by decide +kernel
theorem dX8_all_71 : decode cX8_all 71 = .ok (.aload_n 0, 1) := by decide +kernel
theorem dX8_all_72 : decode cX8_all 72 = .ok (.getfield 44, 3) := by decide +kernel
theorem dX8_all_75 : decode cX8_all 75 = .ok (.iconst 3, 1) := by decide +kernel
theorem dX8_all_76 : decode cX8_all 76 = .ok (.aload_n 1, 1) := by decide +kernel
theorem dX8_all_77 : decode cX8_all 77 = .ok (.iload_n 3, 1) := by decide +kernel
theorem dX8_all_78 : decode cX8_all 78 = .ok (.iload_n 2, 1) := by decide +kernel
theorem dX8_all_79 : decode cX8_all 79 = .ok (.invokevirtual 184, 3) := by decide +kernel
theorem dX8_all_82 : decode cX8_all 82 = .ok (.istore_n 3, 1) := by decide +kernel
theorem dX8_all_83 : decode cX8_all 83 = .ok (.iload_n 2, 1) := by decide +kernel
theorem dX8_all_84 : decode cX8_all 84 = .ok (.ifCond .eq 88, 3) := by decide +kernel
theorem dX8_all_87 : decode cX8_all 87 = .ok (.aload_n 0, 1) := by decide +kernel
theorem dX8_all_88 : decode cX8_all 88 = .ok (.aload_n 1, 1) := by decide +kernel
theorem dX8_all_89 : decode cX8_all 89 = .ok (.iload_n 3, 1) := by decide +kernel
theorem dX8_all_90 : decode cX8_all 90 = .ok (.iaload, 1) := by decide +kernel
theorem dX8_all_91 : decode cX8_all 91 = .ok (.putfield 90, 3) := by decide +kernel
theorem dX8_all_94 : decode cX8_all 94 = .ok (.aload_n 0, 1) := by decide +kernel
theorem dX8_all_95 : decode cX8_all 95 = .ok (.aload_n 1, 1) := by decide +kernel
theorem dX8_all_96 : decode cX8_all 96 = .ok (.iload_n 3, 1) := by decide +kernel
theorem dX8_all_97 : decode cX8_all 97 = .ok (.iconst 1, 1) := by decide +kernel
theorem dX8_all_98 : decode cX8_all 98 = .ok (.iadd, 1) := by decide +kernel
theorem dX8_all_99 : decode cX8_all 99 = .ok (.iaload, 1) := by decide +kernel
theorem dX8_all_100 : decode cX8_all 100 = .ok (.putfield 7, 3) := by decide +kernel
theorem dX8_all_103 : decode cX8_all 103 = .ok (.aload_n 0, 1) := by decide +kernel
theorem dX8_all_104 : decode cX8_all 104 = .ok (.aload_n 1, 1) := by decide +kernel
theorem dX8_all_105 : decode cX8_all 105 = .ok (.iload_n 3, 1) := by decide +kernel
theorem dX8_all_106 : decode cX8_all 106 = .ok (.iconst 2, 1) := by decide +kernel
theorem dX8_all_107 : decode cX8_all 107 = .ok (.iadd, 1) := by decide +kernel
theorem dX8_all_108 : decode cX8_all 108 = .ok (.iaload, 1) := by decide +kernel
theorem dX8_all_109 : decode cX8_all 109 = .ok (.putfield 122, 3) := by decide +kernel
theorem dX8_all_112 : decode cX8_all 112 = .ok (.aload_n 0, 1) := by decide +kernel
theorem dX8_all_113 : decode cX8_all 113 = .ok (.aload_n 1, 1) := by decide +kernel
theorem dX8_all_114 : decode cX8_all 114 = .ok (.iload_n 3, 1) := by decide +kernel
theorem dX8_all_115 : decode cX8_all 115 = .ok (.iconst 3, 1) := by decide +kernel
theorem dX8_all_116 : decode cX8_all 116 = .ok (.iadd, 1) := by decide +kernel
theorem dX8_all_117 : decode cX8_all 117 = .ok (.iaload, 1) := by decide +kernel
theorem dX8_all_118 : decode cX8_all 118 = .ok (.putfield 115, 3) := by decide +kernel
theorem dX8_all_121 : decode cX8_all 121 = .ok (.aload_n 0, 1) := by decide +kernel
theorem dX8_all_122 : decode cX8_all 122 = .ok (.aload_n 1, 1) := by decide +kernel
theorem dX8_all_123 : decode cX8_all 123 = .ok (.iload_n 3, 1) := by decide +kernel
theorem dX8_all_124 : decode cX8_all 124 = .ok (.iconst 4, 1) := by decide +kernel
theorem dX8_all_125 : decode cX8_all 125 = .ok (.iadd, 1) := by decide +kernel
theorem dX8_all_126 : decode cX8_all 126 = .ok (.iaload, 1) := by decide +kernel
theorem dX8_all_127 : decode cX8_all 127 = .ok (.putfield 188, 3) := by decide +kernel
theorem dX8_all_130 : decode cX8_all 130 = .ok (.aload_n 0, 1) := by decide +kernel
theorem dX8_all_131 : decode cX8_all 131 = .ok (.aload_n 1, 1) := by decide +kernel
theorem dX8_all_132 : decode cX8_all 132 = .ok (.iload_n 3, 1) := by decide +kernel
theorem dX8_all_133 : decode cX8_all 133 = .ok (.iconst 5, 1) := by decide +kernel
theorem dX8_all_134 : decode cX8_all 134 = .ok (.iadd, 1) := by decide +kernel
theorem dX8_all_135 : decode cX8_all 135 = .ok (.iaload, 1) := by decide +kernel
theorem dX8_all_136 : decode cX8_all 136 = .ok (.putfield 13, 3) := by decide +kernel
theorem dX8_all_139 : decode cX8_all 139 = .ok (.aload_n 0, 1) := by decide +kernel
theorem dX8_all_140 : decode cX8_all 140 = .ok (.aload_n 1, 1) := by decide +kernel
theorem dX8_all_141 : decode cX8_all 141 = .ok (.iload_n 3, 1) := by decide +kernel
theorem dX8_all_142 : decode cX8_all 142 = .ok (.bipush 6, 2) := by decide +kernel
theorem dX8_all_144 : decode cX8_all 144 = .ok (.iadd, 1) := by decide +kernel
theorem dX8_all_145 : decode cX8_all 145 = .ok (.iaload, 1) := by decide +kernel
theorem dX8_all_146 : decode cX8_all 146 = .ok (.putfield 135, 3) := by decide +kernel
theorem dX8_all_149 : decode cX8_all 149 = .ok (.aload_n 0, 1) := by decide +kernel
theorem dX8_all_150 : decode cX8_all 150 = .ok (.aload_n 1, 1) := by decide +kernel
theorem dX8_all_151 : decode cX8_all 151 = .ok (.iload_n 3, 1) := by decide +kernel
theorem dX8_all_152 : decode cX8_all 152 = .ok (.bipush 7, 2) := by decide +kernel
theorem dX8_all_154 : decode cX8_all 154 = .ok (.iadd, 1) := by decide +kernel
theorem dX8_all_155 : decode cX8_all 155 = .ok (.iaload, 1) := by decide +kernel
theorem dX8_all_156 : decode cX8_all 156 = .ok (.putfield 16, 3) := by decide +kernel
theorem dX8_all_159 : decode cX8_all 159 = .ok (.aload_n 0, 1) := by decide +kernel
theorem dX8_all_160 : decode cX8_all 160 = .ok (.aload_n 1, 1) := by decide +kernel
theorem dX8_all_161 : decode cX8_all 161 = .ok (.iload_n 3, 1) := by decide +kernel
theorem dX8_all_162 : decode cX8_all 162 = .ok (.bipush 8, 2) := by decide +kernel
theorem dX8_all_164 : decode cX8_all 164 = .ok (.iadd, 1) := by decide +kernel
theorem dX8_all_165 : decode cX8_all 165 = .ok (.iaload, 1) := by decide +kernel
theorem dX8_all_166 : decode cX8_all 166 = .ok (.putfield 19, 3) := by decide +kernel
theorem dX8_all_169 : decode cX8_all 169 = .ok (.goto 85, 3) := by decide +kernel
theorem dX8_all_172 : decode cX8_all 172 = .ok (.aload_n 1, 1) := by decide +kernel
theorem dX8_all_173 : decode cX8_all 173 = .ok (.iload_n 3, 1) := by decide +kernel
theorem dX8_all_174 : decode cX8_all 174 = .ok (.aload_n 0, 1) := by decide +kernel
theorem dX8_all_175 : decode cX8_all 175 = .ok (.getfield 90, 3) := by decide +kernel
theorem dX8_all_178 : decode cX8_all 178 = .ok (.iastore, 1) := by decide +kernel
theorem dX8_all_179 : decode cX8_all 179 = .ok (.aload_n 1, 1) := by decide +kernel
theorem dX8_all_180 : decode cX8_all 180 = .ok (.iload_n 3, 1) := by decide +kernel
theorem dX8_all_181 : decode cX8_all 181 = .ok (.iconst 1, 1) := by decide +kernel
theorem dX8_all_182 : decode cX8_all 182 = .ok (.iadd, 1) := by decide +kernel
theorem dX8_all_183 : decode cX8_all 183 = .ok (.aload_n 0, 1) := by decide +kernel
theorem dX8_all_184 : decode cX8_all 184 = .ok (.getfield 7, 3) := by decide +kernel
theorem dX8_all_187 : decode cX8_all 187 = .ok (.iastore, 1) := by decide +kernel
theorem dX8_all_188 : decode cX8_all 188 = .ok (.aload_n 1, 1) := by decide +kernel
theorem dX8_all_189 : decode cX8_all 189 = .ok (.iload_n 3, 1) := by decide +kernel
theorem dX8_all_190 : decode cX8_all 190 = .ok (.iconst 2, 1) := by decide +kernel
theorem dX8_all_191 : decode cX8_all 191 = .ok (.iadd, 1) := by decide +kernel
theorem dX8_all_192 : decode cX8_all 192 = .ok (.aload_n 0, 1) := by decide +kernel
theorem dX8_all_193 : decode cX8_all 193 = .ok (.getfield 122, 3) := by decide +kernel
theorem dX8_all_196 : decode cX8_all 196 = .ok (.iastore, 1) := by decide +kernel
theorem dX8_all_197 : decode cX8_all 197 = .ok (.aload_n 1, 1) := by decide +kernel
theorem dX8_all_198 : decode cX8_all 198 = .ok (.iload_n 3, 1) := by decide +kernel
theorem dX8_all_199 : decode cX8_all 199 = .ok (.iconst 3, 1) := by decide +kernel
theorem dX8_all_200 : decode cX8_all 200 = .ok (.iadd, 1) := by decide +kernel
theorem dX8_all_201 : decode cX8_all 201 = .ok (.aload_n 0, 1) := by decide +kernel
theorem dX8_all_202 : decode cX8_all 202 = .ok (.getfield 115, 3) := by decide +kernel
theorem dX8_all_205 : decode cX8_all 205 = .ok (.iastore, 1) := by decide +kernel
theorem dX8_all_206 : decode cX8_all 206 = .ok (.aload_n 1, 1) := by decide +kernel
theorem dX8_all_207 : decode cX8_all 207 = .ok (.iload_n 3, 1) := by decide +kernel
theorem dX8_all_208 : decode cX8_all 208 = .ok (.iconst 4, 1) := by decide +kernel
theorem dX8_all_209 : decode cX8_all 209 = .ok (.iadd, 1) := by decide +kernel
theorem dX8_all_210 : decode cX8_all 210 = .ok (.aload_n 0, 1) := by decide +kernel
theorem dX8_all_211 : decode cX8_all 211 = .ok (.getfield 188, 3) := by decide +kernel
theorem dX8_all_214 : decode cX8_all 214 = .ok (.iastore, 1) := by decide +kernel
theorem dX8_all_215 : decode cX8_all 215 = .ok (.aload_n 1, 1) := by decide +kernel
theorem dX8_all_216 : decode cX8_all 216 = .ok (.iload_n 3, 1) := by decide +kernel
theorem dX8_all_217 : decode cX8_all 217 = .ok (.iconst 5, 1) := by decide +kernel
theorem dX8_all_218 : decode cX8_all 218 = .ok (.iadd, 1) := by decide +kernel
theorem dX8_all_219 : decode cX8_all 219 = .ok (.aload_n 0, 1) := by decide +kernel
theorem dX8_all_220 : decode cX8_all 220 = .ok (.getfield 13, 3) := by decide +kernel
theorem dX8_all_223 : decode cX8_all 223 = .ok (.iastore, 1) := by decide +kernel
theorem dX8_all_224 : decode cX8_all 224 = .ok (.aload_n 1, 1) := by decide +kernel
theorem dX8_all_225 : decode cX8_all 225 = .ok (.iload_n 3, 1) := by decide +kernel
theorem dX8_all_226 : decode cX8_all 226 = .ok (.bipush 6, 2) := by decide +kernel
theorem dX8_all_228 : decode cX8_all 228 = .ok (.iadd, 1) := by decide +kernel
theorem dX8_all_229 : decode cX8_all 229 = .ok (.aload_n 0, 1) := by decide +kernel
theorem dX8_all_230 : decode cX8_all 230 = .ok (.getfield 135, 3) := by decide +kernel
theorem dX8_all_233 : decode cX8_all 233 = .ok (.iastore, 1) := by decide +kernel
theorem dX8_all_234 : decode cX8_all 234 = .ok (.aload_n 1, 1) := by decide +kernel
theorem dX8_all_235 : decode cX8_all 235 = .ok (.iload_n 3, 1) := by decide +kernel
theorem dX8_all_236 : decode cX8_all 236 = .ok (.bipush 7, 2) := by decide +kernel
theorem dX8_all_238 : decode cX8_all 238 = .ok (.iadd, 1) := by decide +kernel
theorem dX8_all_239 : decode cX8_all 239 = .ok (.aload_n 0, 1) := by decide +kernel
theorem dX8_all_240 : decode cX8_all 240 = .ok (.getfield 16, 3) := by decide +kernel
theorem dX8_all_243 : decode cX8_all 243 = .ok (.iastore, 1) := by decide +kernel
theorem dX8_all_244 : decode cX8_all 244 = .ok (.aload_n 1, 1) := by decide +kernel
theorem dX8_all_245 : decode cX8_all 245 = .ok (.iload_n 3, 1) := by decide +kernel
theorem dX8_all_246 : decode cX8_all 246 = .ok (.bipush 8, 2) := by decide +kernel
theorem dX8_all_248 : decode cX8_all 248 = .ok (.iadd, 1) := by decide +kernel
theorem dX8_all_249 : decode cX8_all 249 = .ok (.aload_n 0, 1) := by decide +kernel
theorem dX8_all_250 : decode cX8_all 250 = .ok (.getfield 19, 3) := by decide +kernel
theorem dX8_all_253 : decode cX8_all 253 = .ok (.iastore, 1) := by decide +kernel
theorem dX8_all_254 : decode cX8_all 254 = .ok (.return_, 1) := by decide +kernel
set_option maxRecDepth 20000 in
theorem ggX8_jacket_X8_wanted : GoodIn wsX8_jacket wsX8_wanted := goodIn_r _ [13, 14, 15, 16, 17, 12, 18, 99, 100, 101, 102, 103, 104, 105, 106, 107, 108, 109, 110, 111, 112, 113, 114, 115, 116, 117, 118, 119, 120, 121, 122, 123, 124, 125, 126, 127, 128, 129, 130, 131, 132, 133, 134, 135, 136] (by decide +kernel) (by decide +kernel)
set_option maxRecDepth 20000 in
theorem gX8_jacket_X8_wanted : GoodIn wsX8_jacket (wsV RX8 191 RX8 yX8_wanted wsX8_wanted) := goodIn_app (goodIn_of _ (by decide +kernel)) ggX8_jacket_X8_wanted
set_option maxRecDepth 20000 in
theorem ggX8_jacket_X8_no : GoodIn wsX8_jacket wsX8_no := goodIn_r _ [22, 23, 99, 100, 101, 102, 103, 104, 105, 106, 107, 108, 109, 110, 111, 112, 113, 114, 115, 116, 117, 118, 119, 120, 121, 122, 123, 124, 125, 126, 127, 128, 129, 130, 131, 132, 133, 134, 135, 136] (by decide +kernel) (by decide +kernel)
set_option maxRecDepth 20000 in
theorem gX8_jacket_X8_no : GoodIn wsX8_jacket (wsV RX8 97 RX8 yX8_no wsX8_no) := goodIn_app (goodIn_of _ (by decide +kernel)) ggX8_jacket_X8_no
set_option maxRecDepth 20000 in
theorem ggX8_jacket_X8_all : GoodIn wsX8_jacket wsX8_all := goodIn_r _ [27, 28, 29, 30, 31, 32, 33, 34, 35, 36, 37, 38, 39, 40, 41, 42, 43, 44, 45, 12, 46, 99, 100, 101, 102, 103, 104, 105, 106, 107, 108, 109, 110, 111, 112, 113, 114, 115, 116, 117, 118, 119, 120, 121, 122, 123, 124, 125, 126, 127, 128, 129, 130, 131, 132, 133, 134, 135, 136] (by decide +kernel) (by decide +kernel)
set_option maxRecDepth 20000 in
theorem gX8_jacket_X8_all : GoodIn wsX8_jacket (wsV RX8 194 RX8 yX8_all wsX8_all) := goodIn_app (goodIn_of _ (by decide +kernel)) ggX8_jacket_X8_all
set_option maxRecDepth 20000 in
theorem ggX8_jacket_X8_item : GoodIn wsX8_jacket wsX8_item := goodIn_r _ [50, 34, 3, 51, 5, 7, 2, 52, 53, 31, 32, 33, 36, 54, 55, 56, 12, 57, 58, 59, 60, 61, 62, 8, 63, 64, 65, 66, 67, 68, 69, 70, 71, 72, 73, 74, 75, 76, 77, 78, 35, 79, 80, 81, 82, 83, 84, 85, 86, 87, 88, 89, 90, 91, 92, 93, 94, 28, 29, 30, 95, 96, 97, 98, 37, 39, 40, 41, 99, 100, 101, 102, 103, 104, 105, 106, 107, 108, 109, 110, 111, 112, 113, 114, 115, 116, 117, 118, 119, 120, 121, 122, 123, 124, 125, 126, 127, 128, 129, 130, 131, 132, 133, 134, 135, 136] (by decide +kernel) (by decide +kernel)
set_option maxRecDepth 20000 in
theorem gX8_jacket_X8_item : GoodIn wsX8_jacket (wsV RX8 198 RX8 yX8_item wsX8_item) := goodIn_app (goodIn_of _ (by decide +kernel)) ggX8_jacket_X8_item
set_option maxRecDepth 20000 in
theorem ggX8_jacket_X8_wrong : GoodIn wsX8_jacket wsX8_wrong := goodIn_r _ [62, 8, 99, 100, 101, 102, 103, 104, 105, 106, 107, 108, 109, 110, 111, 112, 113, 114, 115, 116, 117, 118, 119, 120, 121, 122, 123, 124, 125, 126, 127, 128, 129, 130, 131, 132, 133, 134, 135, 136] (by decide +kernel) (by decide +kernel)
set_option maxRecDepth 20000 in
theorem gX8_jacket_X8_wrong : GoodIn wsX8_jacket (wsV RX8 168 RX8 yX8_wrong wsX8_wrong) := goodIn_app (goodIn_of _ (by decide +kernel)) ggX8_jacket_X8_wrong
theorem dX8_jacket_0 : decode cX8_jacket 0 = .ok (.aload_n 0, 1) := by decide +kernel
theorem dX8_jacket_1 : decode cX8_jacket 1 = .ok (.iload_n 1, 1) := by decide +kernel
theorem dX8_jacket_2 : decode cX8_jacket 2 = .ok (.invokevirtual 191, 3) := by decide +kernel
theorem dX8_jacket_5 : decode cX8_jacket 5 = .ok (.istore_n 2, 1) := by decide +kernel
theorem dX8_jacket_6 : decode cX8_jacket 6 = .ok (.iload_n 2, 1) := by decide +kernel
theorem dX8_jacket_7 : decode cX8_jacket 7 = .ok (.ifCond .eq 9, 3) := by decide +kernel
theorem dX8_jacket_10 : decode cX8_jacket 10 = .ok (.aload_n 0, 1) := by decide +kernel
theorem dX8_jacket_11 : decode cX8_jacket 11 = .ok (.iload_n 2, 1) := by decide +kernel
theorem dX8_jacket_12 : decode cX8_jacket 12 = .ok (.invokevirtual 97, 3) := by decide +kernel
theorem dX8_jacket_15 : decode cX8_jacket 15 = .ok (.ireturn, 1) := by decide +kernel
theorem dX8_jacket_16 : decode cX8_jacket 16 = .ok (.aload_n 0, 1) := by decide +kernel
theorem dX8_jacket_17 : decode cX8_jacket 17 = .ok (.aload_n 0, 1) := by decide +kernel
theorem dX8_jacket_18 : decode cX8_jacket 18 = .ok (.getfield 75, 3) := by decide +kernel
theorem dX8_jacket_21 : decode cX8_jacket 21 = .ok (.iconst 0, 1) := by decide +kernel
theorem dX8_jacket_22 : decode cX8_jacket 22 = .ok (.invokevirtual 194, 3) := by decide +kernel
theorem dX8_jacket_25 : decode cX8_jacket 25 = .ok (.aload_n 0, 1) := by decide +kernel
theorem dX8_jacket_26 : decode cX8_jacket 26 = .ok (.sipush 160, 3) := by decide +kernel
theorem dX8_jacket_29 : decode cX8_jacket 29 = .ok (.iload_n 1, 1) := by decide +kernel
theorem dX8_jacket_30 : decode cX8_jacket 30 = .ok (.imul, 1) := by decide +kernel
theorem dX8_jacket_31 : decode cX8_jacket 31 = .ok (.putfield 158, 3) := by decide +kernel
theorem dX8_jacket_34 : decode cX8_jacket 34 = .ok (.aload_n 0, 1) := by decide +kernel
theorem dX8_jacket_35 : decode cX8_jacket 35 = .ok (.iconst 0, 1) := by decide +kernel
theorem dX8_jacket_36 : decode cX8_jacket 36 = .ok (.putfield 152, 3) := by decide +kernel
theorem dX8_jacket_39 : decode cX8_jacket 39 = .ok (.aload_n 0, 1) := by decide +kernel
theorem dX8_jacket_40 : decode cX8_jacket 40 = .ok (.aload_n 0, 1) := by decide +kernel
theorem dX8_jacket_41 : decode cX8_jacket 41 = .ok (.getfield 53, 3) := by decide +kernel
theorem dX8_jacket_44 : decode cX8_jacket 44 = .ok (.iload_n 1, 1) := by decide +kernel
theorem dX8_jacket_45 : decode cX8_jacket 45 = .ok (.iaload, 1) := by decide +kernel
theorem dX8_jacket_46 : decode cX8_jacket 46 = .ok (.putfield 155, 3) := by decide +kernel
theorem dX8_jacket_49 : decode cX8_jacket 49 = .ok (.aload_n 0, 1) := by decide +kernel
theorem dX8_jacket_50 : decode cX8_jacket 50 = .ok (.iconst (-1), 1) := by decide +kernel
theorem dX8_jacket_51 : decode cX8_jacket 51 = .ok (.putfield 22, 3) := by decide +kernel
theorem dX8_jacket_54 : decode cX8_jacket 54 = .ok (.iconst 1, 1) := by decide +kernel
theorem dX8_jacket_55 : decode cX8_jacket 55 = .ok (.istore_n 3, 1) := by decide +kernel
theorem dX8_jacket_56 : decode cX8_jacket 56 = .ok (.aload_n 0, 1) := by decide +kernel
theorem dX8_jacket_57 : decode cX8_jacket 57 = .ok (.invokevirtual 198, 3) := by decide +kernel
theorem dX8_jacket_60 : decode cX8_jacket 60 = .ok (.istore 4, 2) := by decide +kernel
theorem dX8_jacket_62 : decode cX8_jacket 62 = .ok (.iload 4, 2) := by decide +kernel
theorem dX8_jacket_64 : decode cX8_jacket 64 = .ok (.ifCond .eq 69, 3) := by decide +kernel
theorem dX8_jacket_67 : decode cX8_jacket 67 = .ok (.aload_n 0, 1) := by decide +kernel
theorem dX8_jacket_68 : decode cX8_jacket 68 = .ok (.getfield 152, 3) := by decide +kernel
theorem dX8_jacket_71 : decode cX8_jacket 71 = .ok (.aload_n 0, 1) := by decide +kernel
theorem dX8_jacket_72 : decode cX8_jacket 72 = .ok (.getfield 155, 3) := by decide +kernel
theorem dX8_jacket_75 : decode cX8_jacket 75 = .ok (.if_icmp .ge 58, 3) := by decide +kernel
theorem dX8_jacket_78 : decode cX8_jacket 78 = .ok (.aload_n 0, 1) := by decide +kernel
theorem dX8_jacket_79 : decode cX8_jacket 79 = .ok (.getfield 59, 3) := by decide +kernel
theorem dX8_jacket_82 : decode cX8_jacket 82 = .ok (.aload_n 0, 1) := by decide +kernel
theorem dX8_jacket_83 : decode cX8_jacket 83 = .ok (.getfield 158, 3) := by decide +kernel
theorem dX8_jacket_86 : decode cX8_jacket 86 = .ok (.aload_n 0, 1) := by decide +kernel
theorem dX8_jacket_87 : decode cX8_jacket 87 = .ok (.getfield 152, 3) := by decide +kernel
theorem dX8_jacket_90 : decode cX8_jacket 90 = .ok (.iadd, 1) := by decide +kernel
theorem dX8_jacket_91 : decode cX8_jacket 91 = .ok (.laload, 1) := by decide +kernel
theorem dX8_jacket_92 : decode cX8_jacket 92 = .ok (.l2i, 1) := by decide +kernel
theorem dX8_jacket_93 : decode cX8_jacket 93 = .ok (.bipush 59, 2) := by decide +kernel
theorem dX8_jacket_95 : decode cX8_jacket 95 = .ok (.if_icmp .eq 16, 3) := by decide +kernel
theorem dX8_jacket_98 : decode cX8_jacket 98 = .ok (.aload_n 0, 1) := by decide +kernel
theorem dX8_jacket_99 : decode cX8_jacket 99 = .ok (.aload_n 0, 1) := by decide +kernel
theorem dX8_jacket_100 : decode cX8_jacket 100 = .ok (.getfield 152, 3) := by decide +kernel
theorem dX8_jacket_103 : decode cX8_jacket 103 = .ok (.invokevirtual 168, 3) := by decide +kernel
theorem dX8_jacket_106 : decode cX8_jacket 106 = .ok (.istore 4, 2) := by decide +kernel
theorem dX8_jacket_108 : decode cX8_jacket 108 = .ok (.goto (-46), 3) := by decide +kernel
theorem dX8_jacket_111 : decode cX8_jacket 111 = .ok (.aload_n 0, 1) := by decide +kernel
theorem dX8_jacket_112 : decode cX8_jacket 112 = .ok (.dup, 1) := by decide +kernel
theorem dX8_jacket_113 : decode cX8_jacket 113 = .ok (.getfield 152, 3) := by decide +kernel
theorem dX8_jacket_116 : decode cX8_jacket 116 = .ok (.iconst 1, 1) := by decide +kernel
theorem dX8_jacket_117 : decode cX8_jacket 117 = .ok (.iadd, 1) := by decide +kernel
theorem dX8_jacket_118 : decode cX8_jacket 118 = .ok (.putfield 152, 3) := by decide +kernel
theorem dX8_jacket_121 : decode cX8_jacket 121 = .ok (.iinc 3 1, 3) := by decide +kernel
theorem dX8_jacket_124 : decode cX8_jacket 124 = .ok (.aload_n 0, 1) := by decide +kernel
theorem dX8_jacket_125 : decode cX8_jacket 125 = .ok (.invokevirtual 198, 3) := by decide +kernel
theorem dX8_jacket_128 : decode cX8_jacket 128 = .ok (.istore 4, 2) := by decide +kernel
theorem dX8_jacket_130 : decode cX8_jacket 130 = .ok (.goto (-68), 3) := by decide +kernel
theorem dX8_jacket_133 : decode cX8_jacket 133 = .ok (.iload 4, 2) := by decide +kernel
theorem dX8_jacket_135 : decode cX8_jacket 135 = .ok (.ifCond .eq 5, 3) := by decide +kernel
theorem dX8_jacket_138 : decode cX8_jacket 138 = .ok (.iload_n 3, 1) := by decide +kernel
theorem dX8_jacket_139 : decode cX8_jacket 139 = .ok (.ireturn, 1) := by decide +kernel
theorem dX8_jacket_140 : decode cX8_jacket 140 = .ok (.aload_n 0, 1) := by decide +kernel
theorem dX8_jacket_141 : decode cX8_jacket 141 = .ok (.aload_n 0, 1) := by decide +kernel
theorem dX8_jacket_142 : decode cX8_jacket 142 = .ok (.getfield 75, 3) := by decide +kernel
theorem dX8_jacket_145 : decode cX8_jacket 145 = .ok (.iconst 1, 1) := by decide +kernel
theorem dX8_jacket_146 : decode cX8_jacket 146 = .ok (.invokevirtual 194, 3) := by decide +kernel
theorem dX8_jacket_149 : decode cX8_jacket 149 = .ok (.aload_n 0, 1) := by decide +kernel
theorem dX8_jacket_150 : decode cX8_jacket 150 = .ok (.aload_n 0, 1) := by decide +kernel
theorem dX8_jacket_151 : decode cX8_jacket 151 = .ok (.getfield 149, 3) := by decide +kernel
theorem dX8_jacket_154 : decode cX8_jacket 154 = .ok (.putfield 22, 3) := by decide +kernel
theorem dX8_jacket_157 : decode cX8_jacket 157 = .ok (.aload_n 0, 1) := by decide +kernel
theorem dX8_jacket_158 : decode cX8_jacket 158 = .ok (.bipush (-6), 2) := by decide +kernel
theorem dX8_jacket_160 : decode cX8_jacket 160 = .ok (.invokevirtual 97, 3) := by decide +kernel
theorem dX8_jacket_163 : decode cX8_jacket 163 = .ok (.ireturn, 1) := by decide +kernel
theorem dX8_fault_0 : decode cX8_fault 0 = .ok (.aload_n 0, 1) := by decide +kernel
theorem dX8_fault_1 : decode cX8_fault 1 = .ok (.getfield 22, 3) := by decide +kernel
theorem dX8_fault_4 : decode cX8_fault 4 = .ok (.ireturn, 1) := by decide +kernel
theorem dX8_ways_0 : decode cX8_ways 0 = .ok (.bipush 6, 2) := by decide +kernel
theorem dX8_ways_2 : decode cX8_ways 2 = .ok (.iload_n 2, 1) := by decide +kernel
theorem dX8_ways_3 : decode cX8_ways 3 = .ok (.iconst 4, 1) := by decide +kernel
theorem dX8_ways_4 : decode cX8_ways 4 = .ok (.idiv, 1) := by decide +kernel
theorem dX8_ways_5 : decode cX8_ways 5 = .ok (.isub, 1) := by decide +kernel
theorem dX8_ways_6 : decode cX8_ways 6 = .ok (.istore_n 3, 1) := by decide +kernel
theorem dX8_ways_7 : decode cX8_ways 7 = .ok (.aload_n 0, 1) := by decide +kernel
theorem dX8_ways_8 : decode cX8_ways 8 = .ok (.getfield 29, 3) := by decide +kernel
theorem dX8_ways_11 : decode cX8_ways 11 = .ok (.iload_n 1, 1) := by decide +kernel
theorem dX8_ways_12 : decode cX8_ways 12 = .ok (.iaload, 1) := by decide +kernel
theorem dX8_ways_13 : decode cX8_ways 13 = .ok (.tableswitch 100 1 6 #[39, 61, 45, 75, 97, 86], 39) := by decide +kernel
theorem dX8_ways_52 : decode cX8_ways 52 = .ok (.iinc 3 2, 3) := by decide +kernel
theorem dX8_ways_55 : decode cX8_ways 55 = .ok (.goto 58, 3) := by decide +kernel
theorem dX8_ways_58 : decode cX8_ways 58 = .ok (.iload_n 3, 1) := by decide +kernel
theorem dX8_ways_59 : decode cX8_ways 59 = .ok (.iconst 2, 1) := by decide +kernel
theorem dX8_ways_60 : decode cX8_ways 60 = .ok (.aload_n 0, 1) := by decide +kernel
theorem dX8_ways_61 : decode cX8_ways 61 = .ok (.getfield 32, 3) := by decide +kernel
theorem dX8_ways_64 : decode cX8_ways 64 = .ok (.iload_n 1, 1) := by decide +kernel
theorem dX8_ways_65 : decode cX8_ways 65 = .ok (.iaload, 1) := by decide +kernel
theorem dX8_ways_66 : decode cX8_ways 66 = .ok (.iconst 2, 1) := by decide +kernel
theorem dX8_ways_67 : decode cX8_ways 67 = .ok (.idiv, 1) := by decide +kernel
theorem dX8_ways_68 : decode cX8_ways 68 = .ok (.iadd, 1) := by decide +kernel
theorem dX8_ways_69 : decode cX8_ways 69 = .ok (.iadd, 1) := by decide +kernel
theorem dX8_ways_70 : decode cX8_ways 70 = .ok (.istore_n 3, 1) := by decide +kernel
theorem dX8_ways_71 : decode cX8_ways 71 = .ok (.goto 42, 3) := by decide +kernel
theorem dX8_ways_74 : decode cX8_ways 74 = .ok (.iload_n 3, 1) := by decide +kernel
theorem dX8_ways_75 : decode cX8_ways 75 = .ok (.aload_n 0, 1) := by decide +kernel
theorem dX8_ways_76 : decode cX8_ways 76 = .ok (.getfield 32, 3) := by decide +kernel
theorem dX8_ways_79 : decode cX8_ways 79 = .ok (.iload_n 1, 1) := by decide +kernel
theorem dX8_ways_80 : decode cX8_ways 80 = .ok (.iaload, 1) := by decide +kernel
theorem dX8_ways_81 : decode cX8_ways 81 = .ok (.iconst 3, 1) := by decide +kernel
theorem dX8_ways_82 : decode cX8_ways 82 = .ok (.idiv, 1) := by decide +kernel
theorem dX8_ways_83 : decode cX8_ways 83 = .ok (.iadd, 1) := by decide +kernel
theorem dX8_ways_84 : decode cX8_ways 84 = .ok (.istore_n 3, 1) := by decide +kernel
theorem dX8_ways_85 : decode cX8_ways 85 = .ok (.goto 28, 3) := by decide +kernel
theorem dX8_ways_88 : decode cX8_ways 88 = .ok (.bipush 8, 2) := by decide +kernel
theorem dX8_ways_90 : decode cX8_ways 90 = .ok (.iload_n 2, 1) := by decide +kernel
theorem dX8_ways_91 : decode cX8_ways 91 = .ok (.bipush 6, 2) := by decide +kernel
theorem dX8_ways_93 : decode cX8_ways 93 = .ok (.idiv, 1) := by decide +kernel
theorem dX8_ways_94 : decode cX8_ways 94 = .ok (.isub, 1) := by decide +kernel
theorem dX8_ways_95 : decode cX8_ways 95 = .ok (.istore_n 3, 1) := by decide +kernel
theorem dX8_ways_96 : decode cX8_ways 96 = .ok (.goto 17, 3) := by decide +kernel
theorem dX8_ways_99 : decode cX8_ways 99 = .ok (.bipush 10, 2) := by decide +kernel
theorem dX8_ways_101 : decode cX8_ways 101 = .ok (.iload_n 2, 1) := by decide +kernel
theorem dX8_ways_102 : decode cX8_ways 102 = .ok (.bipush 6, 2) := by decide +kernel
theorem dX8_ways_104 : decode cX8_ways 104 = .ok (.idiv, 1) := by decide +kernel
theorem dX8_ways_105 : decode cX8_ways 105 = .ok (.isub, 1) := by decide +kernel
theorem dX8_ways_106 : decode cX8_ways 106 = .ok (.istore_n 3, 1) := by decide +kernel
theorem dX8_ways_107 : decode cX8_ways 107 = .ok (.goto 6, 3) := by decide +kernel
theorem dX8_ways_110 : decode cX8_ways 110 = .ok (.bipush 12, 2) := by decide +kernel
theorem dX8_ways_112 : decode cX8_ways 112 = .ok (.ireturn, 1) := by decide +kernel
theorem dX8_ways_113 : decode cX8_ways 113 = .ok (.iload_n 3, 1) := by decide +kernel
theorem dX8_ways_114 : decode cX8_ways 114 = .ok (.aload_n 0, 1) := by decide +kernel
theorem dX8_ways_115 : decode cX8_ways 115 = .ok (.getfield 135, 3) := by decide +kernel
theorem dX8_ways_118 : decode cX8_ways 118 = .ok (.iconst 3, 1) := by decide +kernel
theorem dX8_ways_119 : decode cX8_ways 119 = .ok (.idiv, 1) := by decide +kernel
theorem dX8_ways_120 : decode cX8_ways 120 = .ok (.isub, 1) := by decide +kernel
theorem dX8_ways_121 : decode cX8_ways 121 = .ok (.istore_n 3, 1) := by decide +kernel
theorem dX8_ways_122 : decode cX8_ways 122 = .ok (.iload_n 3, 1) := by decide +kernel
theorem dX8_ways_123 : decode cX8_ways 123 = .ok (.ifCond .ge 7, 3) := by decide +kernel
theorem dX8_ways_126 : decode cX8_ways 126 = .ok (.iconst 0, 1) := by decide +kernel
theorem dX8_ways_127 : decode cX8_ways 127 = .ok (.goto 15, 3) := by decide +kernel
theorem dX8_ways_130 : decode cX8_ways 130 = .ok (.iload_n 3, 1) := by decide +kernel
theorem dX8_ways_131 : decode cX8_ways 131 = .ok (.bipush 12, 2) := by decide +kernel
theorem dX8_ways_133 : decode cX8_ways 133 = .ok (.if_icmp .le 8, 3) := by decide +kernel
theorem dX8_ways_136 : decode cX8_ways 136 = .ok (.bipush 12, 2) := by decide +kernel
theorem dX8_ways_138 : decode cX8_ways 138 = .ok (.goto 4, 3) := by decide +kernel
theorem dX8_ways_141 : decode cX8_ways 141 = .ok (.iload_n 3, 1) := by decide +kernel
theorem dX8_ways_142 : decode cX8_ways 142 = .ok (.ireturn, 1) := by decide +kernel
theorem dX8_step_0 : decode cX8_step 0 = .ok (.aload_n 0, 1) := by decide +kernel
theorem dX8_step_1 : decode cX8_step 1 = .ok (.getfield 29, 3) := by decide +kernel
theorem dX8_step_4 : decode cX8_step 4 = .ok (.iload_n 1, 1) := by decide +kernel
theorem dX8_step_5 : decode cX8_step 5 = .ok (.iaload, 1) := by decide +kernel
theorem dX8_step_6 : decode cX8_step 6 = .ok (.tableswitch 49 2 6 #[34, 49, 45, 47, 45], 34) := by decide +kernel
theorem dX8_step_40 : decode cX8_step 40 = .ok (.iconst 2, 1) := by decide +kernel
theorem dX8_step_41 : decode cX8_step 41 = .ok (.aload_n 0, 1) := by decide +kernel
theorem dX8_step_42 : decode cX8_step 42 = .ok (.getfield 32, 3) := by decide +kernel
theorem dX8_step_45 : decode cX8_step 45 = .ok (.iload_n 1, 1) := by decide +kernel
theorem dX8_step_46 : decode cX8_step 46 = .ok (.iaload, 1) := by decide +kernel
theorem dX8_step_47 : decode cX8_step 47 = .ok (.iconst 3, 1) := by decide +kernel
theorem dX8_step_48 : decode cX8_step 48 = .ok (.idiv, 1) := by decide +kernel
theorem dX8_step_49 : decode cX8_step 49 = .ok (.iadd, 1) := by decide +kernel
theorem dX8_step_50 : decode cX8_step 50 = .ok (.ireturn, 1) := by decide +kernel
theorem dX8_step_51 : decode cX8_step 51 = .ok (.iconst 2, 1) := by decide +kernel
theorem dX8_step_52 : decode cX8_step 52 = .ok (.ireturn, 1) := by decide +kernel
theorem dX8_step_53 : decode cX8_step 53 = .ok (.iconst 4, 1) := by decide +kernel
theorem dX8_step_54 : decode cX8_step 54 = .ok (.ireturn, 1) := by decide +kernel
theorem dX8_step_55 : decode cX8_step 55 = .ok (.iconst 1, 1) := by decide +kernel
theorem dX8_step_56 : decode cX8_step 56 = .ok (.ireturn, 1) := by decide +kernel
set_option maxRecDepth 20000 in
theorem ggX8_deep_X8_step : GoodIn wsX8_deep wsX8_step := goodIn_r _ [8, 1, 2, 9, 10, 11, 12, 13, 14, 15, 16, 17, 18, 19, 20, 21, 22, 23, 24, 25, 26, 27, 28, 29, 30, 31, 32, 33, 34, 35, 36, 37, 38, 39, 40, 41, 42, 43, 44, 45, 46] (by decide +kernel) (by decide +kernel)
set_option maxRecDepth 20000 in
theorem gX8_deep_X8_step : GoodIn wsX8_deep (wsV RX8 104 RX8 yX8_step wsX8_step) := goodIn_app (goodIn_of _ (by decide +kernel)) ggX8_deep_X8_step
theorem dX8_deep_0 : decode cX8_deep 0 = .ok (.iload_n 3, 1) := by decide +kernel
theorem dX8_deep_1 : decode cX8_deep 1 = .ok (.ifCond .eq 24, 3) := by decide +kernel
theorem dX8_deep_4 : decode cX8_deep 4 = .ok (.iload_n 2, 1) := by decide +kernel
theorem dX8_deep_5 : decode cX8_deep 5 = .ok (.aload_n 0, 1) := by decide +kernel
theorem dX8_deep_6 : decode cX8_deep 6 = .ok (.iload_n 1, 1) := by decide +kernel
theorem dX8_deep_7 : decode cX8_deep 7 = .ok (.invokevirtual 104, 3) := by decide +kernel
theorem dX8_deep_10 : decode cX8_deep 10 = .ok (.if_icmp .le 13, 3) := by decide +kernel
theorem dX8_deep_13 : decode cX8_deep 13 = .ok (.iload_n 2, 1) := by decide +kernel
theorem dX8_deep_14 : decode cX8_deep 14 = .ok (.aload_n 0, 1) := by decide +kernel
theorem dX8_deep_15 : decode cX8_deep 15 = .ok (.iload_n 1, 1) := by decide +kernel
theorem dX8_deep_16 : decode cX8_deep 16 = .ok (.invokevirtual 104, 3) := by decide +kernel
theorem dX8_deep_19 : decode cX8_deep 19 = .ok (.isub, 1) := by decide +kernel
theorem dX8_deep_20 : decode cX8_deep 20 = .ok (.goto 4, 3) := by decide +kernel
theorem dX8_deep_23 : decode cX8_deep 23 = .ok (.iconst 0, 1) := by decide +kernel
theorem dX8_deep_24 : decode cX8_deep 24 = .ok (.ireturn, 1) := by decide +kernel
theorem dX8_deep_25 : decode cX8_deep 25 = .ok (.aload_n 0, 1) := by decide +kernel
theorem dX8_deep_26 : decode cX8_deep 26 = .ok (.getfield 29, 3) := by decide +kernel
theorem dX8_deep_29 : decode cX8_deep 29 = .ok (.iload_n 1, 1) := by decide +kernel
theorem dX8_deep_30 : decode cX8_deep 30 = .ok (.iaload, 1) := by decide +kernel
theorem dX8_deep_31 : decode cX8_deep 31 = .ok (.iconst 5, 1) := by decide +kernel
theorem dX8_deep_32 : decode cX8_deep 32 = .ok (.if_icmp .ne 5, 3) := by decide +kernel
theorem dX8_deep_35 : decode cX8_deep 35 = .ok (.iload_n 2, 1) := by decide +kernel
theorem dX8_deep_36 : decode cX8_deep 36 = .ok (.ireturn, 1) := by decide +kernel
theorem dX8_deep_37 : decode cX8_deep 37 = .ok (.iload_n 2, 1) := by decide +kernel
theorem dX8_deep_38 : decode cX8_deep 38 = .ok (.aload_n 0, 1) := by decide +kernel
theorem dX8_deep_39 : decode cX8_deep 39 = .ok (.getfield 29, 3) := by decide +kernel
theorem dX8_deep_42 : decode cX8_deep 42 = .ok (.iload_n 1, 1) := by decide +kernel
theorem dX8_deep_43 : decode cX8_deep 43 = .ok (.iaload, 1) := by decide +kernel
theorem dX8_deep_44 : decode cX8_deep 44 = .ok (.iconst 2, 1) := by decide +kernel
theorem dX8_deep_45 : decode cX8_deep 45 = .ok (.if_icmp .ne 16, 3) := by decide +kernel
theorem dX8_deep_48 : decode cX8_deep 48 = .ok (.iconst 1, 1) := by decide +kernel
theorem dX8_deep_49 : decode cX8_deep 49 = .ok (.aload_n 0, 1) := by decide +kernel
theorem dX8_deep_50 : decode cX8_deep 50 = .ok (.getfield 32, 3) := by decide +kernel
theorem dX8_deep_53 : decode cX8_deep 53 = .ok (.iload_n 1, 1) := by decide +kernel
theorem dX8_deep_54 : decode cX8_deep 54 = .ok (.iaload, 1) := by decide +kernel
theorem dX8_deep_55 : decode cX8_deep 55 = .ok (.iconst 3, 1) := by decide +kernel
theorem dX8_deep_56 : decode cX8_deep 56 = .ok (.idiv, 1) := by decide +kernel
theorem dX8_deep_57 : decode cX8_deep 57 = .ok (.iadd, 1) := by decide +kernel
