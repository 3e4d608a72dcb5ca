theorem d_La_law_0 : decode code 0 = .ok (.new 7, 3) := by decide +kernel
theorem d_La_law_3 : decode code 3 = .ok (.dup, 1) := by decide +kernel
theorem d_La_law_4 : decode code 4 = .ok (.invokespecial 9, 3) := by decide +kernel
theorem d_La_law_7 : decode code 7 = .ok (.astore_n 1, 1) := by decide +kernel
theorem d_La_law_8 : decode code 8 = .ok (.new 10, 3) := by decide +kernel
theorem d_La_law_11 : decode code 11 = .ok (.dup, 1) := by decide +kernel
theorem d_La_law_12 : decode code 12 = .ok (.invokespecial 12, 3) := by decide +kernel
theorem d_La_law_15 : decode code 15 = .ok (.astore_n 2, 1) := by decide +kernel
theorem d_La_law_16 : decode code 16 = .ok (.iconst 0, 1) := by decide +kernel
theorem d_La_law_17 : decode code 17 = .ok (.istore_n 3, 1) := by decide +kernel
theorem d_La_law_18 : decode code 18 = .ok (.iload_n 3, 1) := by decide +kernel
theorem d_La_law_19 : decode code 19 = .ok (.aload_n 0, 1) := by decide +kernel
theorem d_La_law_20 : decode code 20 = .ok (.arraylength, 1) := by decide +kernel
theorem d_La_law_21 : decode code 21 = .ok (.bipush 9, 2) := by decide +kernel
theorem d_La_law_23 : decode code 23 = .ok (.isub, 1) := by decide +kernel
theorem d_La_law_24 : decode code 24 = .ok (.if_icmp .gt 893, 3) := by decide +kernel
theorem d_La_law_27 : decode code 27 = .ok (.aload_n 0, 1) := by decide +kernel
theorem d_La_law_28 : decode code 28 = .ok (.iload_n 3, 1) := by decide +kernel
theorem d_La_law_29 : decode code 29 = .ok (.iaload, 1) := by decide +kernel
theorem d_La_law_30 : decode code 30 = .ok (.bipush 31, 2) := by decide +kernel
theorem d_La_law_32 : decode code 32 = .ok (.iand, 1) := by decide +kernel
theorem d_La_law_33 : decode code 33 = .ok (.tableswitch 878 0 18 #[91, 144, 323, 396, 419, 482, 535, 598, 612, 665, 688, 711, 725, 739, 752, 775, 799, 822, 845], 91) := by decide +kernel
theorem d_La_law_124 : decode code 124 = .ok (.aload_n 1, 1) := by decide +kernel
theorem d_La_law_125 : decode code 125 = .ok (.aload_n 0, 1) := by decide +kernel
theorem d_La_law_126 : decode code 126 = .ok (.iload_n 3, 1) := by decide +kernel
theorem d_La_law_127 : decode code 127 = .ok (.iconst 1, 1) := by decide +kernel
theorem d_La_law_128 : decode code 128 = .ok (.iadd, 1) := by decide +kernel
theorem d_La_law_129 : decode code 129 = .ok (.iaload, 1) := by decide +kernel
theorem d_La_law_130 : decode code 130 = .ok (.i2l, 1) := by decide +kernel
theorem d_La_law_131 : decode code 131 = .ok (.bipush 32, 2) := by decide +kernel
theorem d_La_law_133 : decode code 133 = .ok (.lshl, 1) := by decide +kernel
theorem d_La_law_134 : decode code 134 = .ok (.aload_n 0, 1) := by decide +kernel
theorem d_La_law_135 : decode code 135 = .ok (.iload_n 3, 1) := by decide +kernel
theorem d_La_law_136 : decode code 136 = .ok (.iconst 2, 1) := by decide +kernel
theorem d_La_law_137 : decode code 137 = .ok (.iadd, 1) := by decide +kernel
theorem d_La_law_138 : decode code 138 = .ok (.iaload, 1) := by decide +kernel
theorem d_La_law_139 : decode code 139 = .ok (.i2l, 1) := by decide +kernel
theorem d_La_law_140 : decode code 140 = .ok (.ldc2_w 13, 3) := by decide +kernel
theorem d_La_law_143 : decode code 143 = .ok (.land, 1) := by decide +kernel
theorem d_La_law_144 : decode code 144 = .ok (.lor, 1) := by decide +kernel
theorem d_La_law_145 : decode code 145 = .ok (.invokevirtual 15, 3) := by decide +kernel
theorem d_La_law_148 : decode code 148 = .ok (.aload_n 2, 1) := by decide +kernel
theorem d_La_law_149 : decode code 149 = .ok (.aload_n 0, 1) := by decide +kernel
theorem d_La_law_150 : decode code 150 = .ok (.iload_n 3, 1) := by decide +kernel
theorem d_La_law_151 : decode code 151 = .ok (.iconst 1, 1) := by decide +kernel
theorem d_La_law_152 : decode code 152 = .ok (.iadd, 1) := by decide +kernel
theorem d_La_law_153 : decode code 153 = .ok (.iaload, 1) := by decide +kernel
theorem d_La_law_154 : decode code 154 = .ok (.i2l, 1) := by decide +kernel
theorem d_La_law_155 : decode code 155 = .ok (.bipush 32, 2) := by decide +kernel
theorem d_La_law_157 : decode code 157 = .ok (.lshl, 1) := by decide +kernel
theorem d_La_law_158 : decode code 158 = .ok (.aload_n 0, 1) := by decide +kernel
theorem d_La_law_159 : decode code 159 = .ok (.iload_n 3, 1) := by decide +kernel
theorem d_La_law_160 : decode code 160 = .ok (.iconst 2, 1) := by decide +kernel
theorem d_La_law_161 : decode code 161 = .ok (.iadd, 1) := by decide +kernel
theorem d_La_law_162 : decode code 162 = .ok (.iaload, 1) := by decide +kernel
theorem d_La_law_163 : decode code 163 = .ok (.i2l, 1) := by decide +kernel
theorem d_La_law_164 : decode code 164 = .ok (.ldc2_w 13, 3) := by decide +kernel
theorem d_La_law_167 : decode code 167 = .ok (.land, 1) := by decide +kernel
theorem d_La_law_168 : decode code 168 = .ok (.lor, 1) := by decide +kernel
theorem d_La_law_169 : decode code 169 = .ok (.invokevirtual 19, 3) := by decide +kernel
theorem d_La_law_172 : decode code 172 = .ok (.if_icmp .eq 739, 3) := by decide +kernel
theorem d_La_law_175 : decode code 175 = .ok (.iconst 0, 1) := by decide +kernel
theorem d_La_law_176 : decode code 176 = .ok (.ireturn, 1) := by decide +kernel
theorem d_La_law_177 : decode code 177 = .ok (.aload_n 1, 1) := by decide +kernel
theorem d_La_law_178 : decode code 178 = .ok (.aload_n 0, 1) := by decide +kernel
theorem d_La_law_179 : decode code 179 = .ok (.iload_n 3, 1) := by decide +kernel
theorem d_La_law_180 : decode code 180 = .ok (.iconst 1, 1) := by decide +kernel
theorem d_La_law_181 : decode code 181 = .ok (.iadd, 1) := by decide +kernel
theorem d_La_law_182 : decode code 182 = .ok (.iaload, 1) := by decide +kernel
theorem d_La_law_183 : decode code 183 = .ok (.i2l, 1) := by decide +kernel
theorem d_La_law_184 : decode code 184 = .ok (.bipush 32, 2) := by decide +kernel
theorem d_La_law_186 : decode code 186 = .ok (.lshl, 1) := by decide +kernel
theorem d_La_law_187 : decode code 187 = .ok (.aload_n 0, 1) := by decide +kernel
theorem d_La_law_188 : decode code 188 = .ok (.iload_n 3, 1) := by decide +kernel
theorem d_La_law_189 : decode code 189 = .ok (.iconst 2, 1) := by decide +kernel
theorem d_La_law_190 : decode code 190 = .ok (.iadd, 1) := by decide +kernel
theorem d_La_law_191 : decode code 191 = .ok (.iaload, 1) := by decide +kernel
theorem d_La_law_192 : decode code 192 = .ok (.i2l, 1) := by decide +kernel
theorem d_La_law_193 : decode code 193 = .ok (.ldc2_w 13, 3) := by decide +kernel
theorem d_La_law_196 : decode code 196 = .ok (.land, 1) := by decide +kernel
theorem d_La_law_197 : decode code 197 = .ok (.lor, 1) := by decide +kernel
theorem d_La_law_198 : decode code 198 = .ok (.aload_n 0, 1) := by decide +kernel
theorem d_La_law_199 : decode code 199 = .ok (.iload_n 3, 1) := by decide +kernel
theorem d_La_law_200 : decode code 200 = .ok (.iconst 3, 1) := by decide +kernel
theorem d_La_law_201 : decode code 201 = .ok (.iadd, 1) := by decide +kernel
theorem d_La_law_202 : decode code 202 = .ok (.iaload, 1) := by decide +kernel
theorem d_La_law_203 : decode code 203 = .ok (.i2l, 1) := by decide +kernel
theorem d_La_law_204 : decode code 204 = .ok (.bipush 32, 2) := by decide +kernel
theorem d_La_law_206 : decode code 206 = .ok (.lshl, 1) := by decide +kernel
theorem d_La_law_207 : decode code 207 = .ok (.aload_n 0, 1) := by decide +kernel
theorem d_La_law_208 : decode code 208 = .ok (.iload_n 3, 1) := by decide +kernel
theorem d_La_law_209 : decode code 209 = .ok (.iconst 4, 1) := by decide +kernel
theorem d_La_law_210 : decode code 210 = .ok (.iadd, 1) := by decide +kernel
theorem d_La_law_211 : decode code 211 = .ok (.iaload, 1) := by decide +kernel
theorem d_La_law_212 : decode code 212 = .ok (.i2l, 1) := by decide +kernel
theorem d_La_law_213 : decode code 213 = .ok (.ldc2_w 13, 3) := by decide +kernel
theorem d_La_law_216 : decode code 216 = .ok (.land, 1) := by decide +kernel
theorem d_La_law_217 : decode code 217 = .ok (.lor, 1) := by decide +kernel
theorem d_La_law_218 : decode code 218 = .ok (.aload_n 0, 1) := by decide +kernel
theorem d_La_law_219 : decode code 219 = .ok (.iload_n 3, 1) := by decide +kernel
theorem d_La_law_220 : decode code 220 = .ok (.iconst 5, 1) := by decide +kernel
theorem d_La_law_221 : decode code 221 = .ok (.iadd, 1) := by decide +kernel
theorem d_La_law_222 : decode code 222 = .ok (.iaload, 1) := by decide +kernel
theorem d_La_law_223 : decode code 223 = .ok (.i2l, 1) := by decide +kernel
theorem d_La_law_224 : decode code 224 = .ok (.bipush 32, 2) := by decide +kernel
theorem d_La_law_226 : decode code 226 = .ok (.lshl, 1) := by decide +kernel
theorem d_La_law_227 : decode code 227 = .ok (.aload_n 0, 1) := by decide +kernel
theorem d_La_law_228 : decode code 228 = .ok (.iload_n 3, 1) := by decide +kernel
theorem d_La_law_229 : decode code 229 = .ok (.bipush 6, 2) := by decide +kernel
theorem d_La_law_231 : decode code 231 = .ok (.iadd, 1) := by decide +kernel
theorem d_La_law_232 : decode code 232 = .ok (.iaload, 1) := by decide +kernel
theorem d_La_law_233 : decode code 233 = .ok (.i2l, 1) := by decide +kernel
theorem d_La_law_234 : decode code 234 = .ok (.ldc2_w 13, 3) := by decide +kernel
theorem d_La_law_237 : decode code 237 = .ok (.land, 1) := by decide +kernel
theorem d_La_law_238 : decode code 238 = .ok (.lor, 1) := by decide +kernel
theorem d_La_law_239 : decode code 239 = .ok (.aload_n 0, 1) := by decide +kernel
theorem d_La_law_240 : decode code 240 = .ok (.iload_n 3, 1) := by decide +kernel
theorem d_La_law_241 : decode code 241 = .ok (.bipush 7, 2) := by decide +kernel
theorem d_La_law_243 : decode code 243 = .ok (.iadd, 1) := by decide +kernel
theorem d_La_law_244 : decode code 244 = .ok (.iaload, 1) := by decide +kernel
theorem d_La_law_245 : decode code 245 = .ok (.i2l, 1) := by decide +kernel
theorem d_La_law_246 : decode code 246 = .ok (.bipush 32, 2) := by decide +kernel
theorem d_La_law_248 : decode code 248 = .ok (.lshl, 1) := by decide +kernel
theorem d_La_law_249 : decode code 249 = .ok (.aload_n 0, 1) := by decide +kernel
theorem d_La_law_250 : decode code 250 = .ok (.iload_n 3, 1) := by decide +kernel
theorem d_La_law_251 : decode code 251 = .ok (.bipush 8, 2) := by decide +kernel
theorem d_La_law_253 : decode code 253 = .ok (.iadd, 1) := by decide +kernel
theorem d_La_law_254 : decode code 254 = .ok (.iaload, 1) := by decide +kernel
theorem d_La_law_255 : decode code 255 = .ok (.i2l, 1) := by decide +kernel
theorem d_La_law_256 : decode code 256 = .ok (.ldc2_w 13, 3) := by decide +kernel
theorem d_La_law_259 : decode code 259 = .ok (.land, 1) := by decide +kernel
theorem d_La_law_260 : decode code 260 = .ok (.lor, 1) := by decide +kernel
theorem d_La_law_261 : decode code 261 = .ok (.invokevirtual 20, 3) := by decide +kernel
theorem d_La_law_264 : decode code 264 = .ok (.aload_n 2, 1) := by decide +kernel
theorem d_La_law_265 : decode code 265 = .ok (.aload_n 0, 1) := by decide +kernel
theorem d_La_law_266 : decode code 266 = .ok (.iload_n 3, 1) := by decide +kernel
theorem d_La_law_267 : decode code 267 = .ok (.iconst 1, 1) := by decide +kernel
theorem d_La_law_268 : decode code 268 = .ok (.iadd, 1) := by decide +kernel
theorem d_La_law_269 : decode code 269 = .ok (.iaload, 1) := by decide +kernel
theorem d_La_law_270 : decode code 270 = .ok (.i2l, 1) := by decide +kernel
theorem d_La_law_271 : decode code 271 = .ok (.bipush 32, 2) := by decide +kernel
theorem d_La_law_273 : decode code 273 = .ok (.lshl, 1) := by decide +kernel
theorem d_La_law_274 : decode code 274 = .ok (.aload_n 0, 1) := by decide +kernel
theorem d_La_law_275 : decode code 275 = .ok (.iload_n 3, 1) := by decide +kernel
theorem d_La_law_276 : decode code 276 = .ok (.iconst 2, 1) := by decide +kernel
theorem d_La_law_277 : decode code 277 = .ok (.iadd, 1) := by decide +kernel
theorem d_La_law_278 : decode code 278 = .ok (.iaload, 1) := by decide +kernel
theorem d_La_law_279 : decode code 279 = .ok (.i2l, 1) := by decide +kernel
theorem d_La_law_280 : decode code 280 = .ok (.ldc2_w 13, 3) := by decide +kernel
theorem d_La_law_283 : decode code 283 = .ok (.land, 1) := by decide +kernel
theorem d_La_law_284 : decode code 284 = .ok (.lor, 1) := by decide +kernel
theorem d_La_law_285 : decode code 285 = .ok (.aload_n 0, 1) := by decide +kernel
theorem d_La_law_286 : decode code 286 = .ok (.iload_n 3, 1) := by decide +kernel
theorem d_La_law_287 : decode code 287 = .ok (.iconst 3, 1) := by decide +kernel
theorem d_La_law_288 : decode code 288 = .ok (.iadd, 1) := by decide +kernel
theorem d_La_law_289 : decode code 289 = .ok (.iaload, 1) := by decide +kernel
theorem d_La_law_290 : decode code 290 = .ok (.i2l, 1) := by decide +kernel
theorem d_La_law_291 : decode code 291 = .ok (.bipush 32, 2) := by decide +kernel
theorem d_La_law_293 : decode code 293 = .ok (.lshl, 1) := by decide +kernel
theorem d_La_law_294 : decode code 294 = .ok (.aload_n 0, 1) := by decide +kernel
theorem d_La_law_295 : decode code 295 = .ok (.iload_n 3, 1) := by decide +kernel
theorem d_La_law_296 : decode code 296 = .ok (.iconst 4, 1) := by decide +kernel
theorem d_La_law_297 : decode code 297 = .ok (.iadd, 1) := by decide +kernel
theorem d_La_law_298 : decode code 298 = .ok (.iaload, 1) := by decide +kernel
theorem d_La_law_299 : decode code 299 = .ok (.i2l, 1) := by decide +kernel
theorem d_La_law_300 : decode code 300 = .ok (.ldc2_w 13, 3) := by decide +kernel
theorem d_La_law_303 : decode code 303 = .ok (.land, 1) := by decide +kernel
theorem d_La_law_304 : decode code 304 = .ok (.lor, 1) := by decide +kernel
theorem d_La_law_305 : decode code 305 = .ok (.aload_n 0, 1) := by decide +kernel
theorem d_La_law_306 : decode code 306 = .ok (.iload_n 3, 1) := by decide +kernel
theorem d_La_law_307 : decode code 307 = .ok (.iconst 5, 1) := by decide +kernel
theorem d_La_law_308 : decode code 308 = .ok (.iadd, 1) := by decide +kernel
theorem d_La_law_309 : decode code 309 = .ok (.iaload, 1) := by decide +kernel
theorem d_La_law_310 : decode code 310 = .ok (.i2l, 1) := by decide +kernel
theorem d_La_law_311 : decode code 311 = .ok (.bipush 32, 2) := by decide +kernel
theorem d_La_law_313 : decode code 313 = .ok (.lshl, 1) := by decide +kernel
theorem d_La_law_314 : decode code 314 = .ok (.aload_n 0, 1) := by decide +kernel
theorem d_La_law_315 : decode code 315 = .ok (.iload_n 3, 1) := by decide +kernel
theorem d_La_law_316 : decode code 316 = .ok (.bipush 6, 2) := by decide +kernel
theorem d_La_law_318 : decode code 318 = .ok (.iadd, 1) := by decide +kernel
theorem d_La_law_319 : decode code 319 = .ok (.iaload, 1) := by decide +kernel
theorem d_La_law_320 : decode code 320 = .ok (.i2l, 1) := by decide +kernel
theorem d_La_law_321 : decode code 321 = .ok (.ldc2_w 13, 3) := by decide +kernel
theorem d_La_law_324 : decode code 324 = .ok (.land, 1) := by decide +kernel
theorem d_La_law_325 : decode code 325 = .ok (.lor, 1) := by decide +kernel
theorem d_La_law_326 : decode code 326 = .ok (.aload_n 0, 1) := by decide +kernel
theorem d_La_law_327 : decode code 327 = .ok (.iload_n 3, 1) := by decide +kernel
theorem d_La_law_328 : decode code 328 = .ok (.bipush 7, 2) := by decide +kernel
theorem d_La_law_330 : decode code 330 = .ok (.iadd, 1) := by decide +kernel
theorem d_La_law_331 : decode code 331 = .ok (.iaload, 1) := by decide +kernel
theorem d_La_law_332 : decode code 332 = .ok (.i2l, 1) := by decide +kernel
theorem d_La_law_333 : decode code 333 = .ok (.bipush 32, 2) := by decide +kernel
theorem d_La_law_335 : decode code 335 = .ok (.lshl, 1) := by decide +kernel
theorem d_La_law_336 : decode code 336 = .ok (.aload_n 0, 1) := by decide +kernel
theorem d_La_law_337 : decode code 337 = .ok (.iload_n 3, 1) := by decide +kernel
theorem d_La_law_338 : decode code 338 = .ok (.bipush 8, 2) := by decide +kernel
theorem d_La_law_340 : decode code 340 = .ok (.iadd, 1) := by decide +kernel
theorem d_La_law_341 : decode code 341 = .ok (.iaload, 1) := by decide +kernel
theorem d_La_law_342 : decode code 342 = .ok (.i2l, 1) := by decide +kernel
theorem d_La_law_343 : decode code 343 = .ok (.ldc2_w 13, 3) := by decide +kernel
theorem d_La_law_346 : decode code 346 = .ok (.land, 1) := by decide +kernel
theorem d_La_law_347 : decode code 347 = .ok (.lor, 1) := by decide +kernel
theorem d_La_law_348 : decode code 348 = .ok (.invokevirtual 24, 3) := by decide +kernel
theorem d_La_law_351 : decode code 351 = .ok (.if_icmp .eq 560, 3) := by decide +kernel
theorem d_La_law_354 : decode code 354 = .ok (.iconst 0, 1) := by decide +kernel
theorem d_La_law_355 : decode code 355 = .ok (.ireturn, 1) := by decide +kernel
theorem d_La_law_356 : decode code 356 = .ok (.aload_n 1, 1) := by decide +kernel
theorem d_La_law_357 : decode code 357 = .ok (.aload_n 0, 1) := by decide +kernel
theorem d_La_law_358 : decode code 358 = .ok (.iload_n 3, 1) := by decide +kernel
theorem d_La_law_359 : decode code 359 = .ok (.iconst 1, 1) := by decide +kernel
theorem d_La_law_360 : decode code 360 = .ok (.iadd, 1) := by decide +kernel
theorem d_La_law_361 : decode code 361 = .ok (.iaload, 1) := by decide +kernel
theorem d_La_law_362 : decode code 362 = .ok (.aload_n 0, 1) := by decide +kernel
theorem d_La_law_363 : decode code 363 = .ok (.iload_n 3, 1) := by decide +kernel
theorem d_La_law_364 : decode code 364 = .ok (.iconst 2, 1) := by decide +kernel
theorem d_La_law_365 : decode code 365 = .ok (.iadd, 1) := by decide +kernel
theorem d_La_law_366 : decode code 366 = .ok (.iaload, 1) := by decide +kernel
theorem d_La_law_367 : decode code 367 = .ok (.aload_n 0, 1) := by decide +kernel
theorem d_La_law_368 : decode code 368 = .ok (.iload_n 3, 1) := by decide +kernel
theorem d_La_law_369 : decode code 369 = .ok (.iconst 3, 1) := by decide +kernel
theorem d_La_law_370 : decode code 370 = .ok (.iadd, 1) := by decide +kernel
theorem d_La_law_371 : decode code 371 = .ok (.iaload, 1) := by decide +kernel
theorem d_La_law_372 : decode code 372 = .ok (.i2l, 1) := by decide +kernel
theorem d_La_law_373 : decode code 373 = .ok (.bipush 32, 2) := by decide +kernel
theorem d_La_law_375 : decode code 375 = .ok (.lshl, 1) := by decide +kernel
theorem d_La_law_376 : decode code 376 = .ok (.aload_n 0, 1) := by decide +kernel
theorem d_La_law_377 : decode code 377 = .ok (.iload_n 3, 1) := by decide +kernel
theorem d_La_law_378 : decode code 378 = .ok (.iconst 4, 1) := by decide +kernel
theorem d_La_law_379 : decode code 379 = .ok (.iadd, 1) := by decide +kernel
theorem d_La_law_380 : decode code 380 = .ok (.iaload, 1) := by decide +kernel
theorem d_La_law_381 : decode code 381 = .ok (.i2l, 1) := by decide +kernel
theorem d_La_law_382 : decode code 382 = .ok (.ldc2_w 13, 3) := by decide +kernel
theorem d_La_law_385 : decode code 385 = .ok (.land, 1) := by decide +kernel
theorem d_La_law_386 : decode code 386 = .ok (.lor, 1) := by decide +kernel
theorem d_La_law_387 : decode code 387 = .ok (.invokevirtual 25, 3) := by decide +kernel
theorem d_La_law_390 : decode code 390 = .ok (.aload_n 2, 1) := by decide +kernel
theorem d_La_law_391 : decode code 391 = .ok (.aload_n 0, 1) := by decide +kernel
theorem d_La_law_392 : decode code 392 = .ok (.iload_n 3, 1) := by decide +kernel
theorem d_La_law_393 : decode code 393 = .ok (.iconst 1, 1) := by decide +kernel
theorem d_La_law_394 : decode code 394 = .ok (.iadd, 1) := by decide +kernel
theorem d_La_law_395 : decode code 395 = .ok (.iaload, 1) := by decide +kernel
theorem d_La_law_396 : decode code 396 = .ok (.aload_n 0, 1) := by decide +kernel
theorem d_La_law_397 : decode code 397 = .ok (.iload_n 3, 1) := by decide +kernel
theorem d_La_law_398 : decode code 398 = .ok (.iconst 2, 1) := by decide +kernel
theorem d_La_law_399 : decode code 399 = .ok (.iadd, 1) := by decide +kernel
theorem d_La_law_400 : decode code 400 = .ok (.iaload, 1) := by decide +kernel
theorem d_La_law_401 : decode code 401 = .ok (.aload_n 0, 1) := by decide +kernel
theorem d_La_law_402 : decode code 402 = .ok (.iload_n 3, 1) := by decide +kernel
theorem d_La_law_403 : decode code 403 = .ok (.iconst 3, 1) := by decide +kernel
theorem d_La_law_404 : decode code 404 = .ok (.iadd, 1) := by decide +kernel
theorem d_La_law_405 : decode code 405 = .ok (.iaload, 1) := by decide +kernel
theorem d_La_law_406 : decode code 406 = .ok (.i2l, 1) := by decide +kernel
theorem d_La_law_407 : decode code 407 = .ok (.bipush 32, 2) := by decide +kernel
theorem d_La_law_409 : decode code 409 = .ok (.lshl, 1) := by decide +kernel
theorem d_La_law_410 : decode code 410 = .ok (.aload_n 0, 1) := by decide +kernel
theorem d_La_law_411 : decode code 411 = .ok (.iload_n 3, 1) := by decide +kernel
theorem d_La_law_412 : decode code 412 = .ok (.iconst 4, 1) := by decide +kernel
theorem d_La_law_413 : decode code 413 = .ok (.iadd, 1) := by decide +kernel
theorem d_La_law_414 : decode code 414 = .ok (.iaload, 1) := by decide +kernel
theorem d_La_law_415 : decode code 415 = .ok (.i2l, 1) := by decide +kernel
theorem d_La_law_416 : decode code 416 = .ok (.ldc2_w 13, 3) := by decide +kernel
theorem d_La_law_419 : decode code 419 = .ok (.land, 1) := by decide +kernel
theorem d_La_law_420 : decode code 420 = .ok (.lor, 1) := by decide +kernel
theorem d_La_law_421 : decode code 421 = .ok (.invokevirtual 29, 3) := by decide +kernel
theorem d_La_law_424 : decode code 424 = .ok (.if_icmp .eq 487, 3) := by decide +kernel
theorem d_La_law_427 : decode code 427 = .ok (.iconst 0, 1) := by decide +kernel
theorem d_La_law_428 : decode code 428 = .ok (.ireturn, 1) := by decide +kernel
theorem d_La_law_429 : decode code 429 = .ok (.aload_n 1, 1) := by decide +kernel
theorem d_La_law_430 : decode code 430 = .ok (.aload_n 0, 1) := by decide +kernel
theorem d_La_law_431 : decode code 431 = .ok (.iload_n 3, 1) := by decide +kernel
theorem d_La_law_432 : decode code 432 = .ok (.iconst 1, 1) := by decide +kernel
theorem d_La_law_433 : decode code 433 = .ok (.iadd, 1) := by decide +kernel
theorem d_La_law_434 : decode code 434 = .ok (.iaload, 1) := by decide +kernel
theorem d_La_law_435 : decode code 435 = .ok (.invokevirtual 30, 3) := by decide +kernel
theorem d_La_law_438 : decode code 438 = .ok (.aload_n 2, 1) := by decide +kernel
theorem d_La_law_439 : decode code 439 = .ok (.aload_n 0, 1) := by decide +kernel
theorem d_La_law_440 : decode code 440 = .ok (.iload_n 3, 1) := by decide +kernel
theorem d_La_law_441 : decode code 441 = .ok (.iconst 1, 1) := by decide +kernel
theorem d_La_law_442 : decode code 442 = .ok (.iadd, 1) := by decide +kernel
theorem d_La_law_443 : decode code 443 = .ok (.iaload, 1) := by decide +kernel
theorem d_La_law_444 : decode code 444 = .ok (.invokevirtual 34, 3) := by decide +kernel
theorem d_La_law_447 : decode code 447 = .ok (.if_icmp .eq 464, 3) := by decide +kernel
theorem d_La_law_450 : decode code 450 = .ok (.iconst 0, 1) := by decide +kernel
theorem d_La_law_451 : decode code 451 = .ok (.ireturn, 1) := by decide +kernel
theorem d_La_law_452 : decode code 452 = .ok (.aload_n 1, 1) := by decide +kernel
theorem d_La_law_453 : decode code 453 = .ok (.aload_n 0, 1) := by decide +kernel
theorem d_La_law_454 : decode code 454 = .ok (.iload_n 3, 1) := by decide +kernel
theorem d_La_law_455 : decode code 455 = .ok (.iconst 1, 1) := by decide +kernel
theorem d_La_law_456 : decode code 456 = .ok (.iadd, 1) := by decide +kernel
theorem d_La_law_457 : decode code 457 = .ok (.iaload, 1) := by decide +kernel
theorem d_La_law_458 : decode code 458 = .ok (.aload_n 0, 1) := by decide +kernel
theorem d_La_law_459 : decode code 459 = .ok (.iload_n 3, 1) := by decide +kernel
theorem d_La_law_460 : decode code 460 = .ok (.iconst 2, 1) := by decide +kernel
theorem d_La_law_461 : decode code 461 = .ok (.iadd, 1) := by decide +kernel
theorem d_La_law_462 : decode code 462 = .ok (.iaload, 1) := by decide +kernel
theorem d_La_law_463 : decode code 463 = .ok (.i2l, 1) := by decide +kernel
theorem d_La_law_464 : decode code 464 = .ok (.bipush 32, 2) := by decide +kernel
theorem d_La_law_466 : decode code 466 = .ok (.lshl, 1) := by decide +kernel
theorem d_La_law_467 : decode code 467 = .ok (.aload_n 0, 1) := by decide +kernel
theorem d_La_law_468 : decode code 468 = .ok (.iload_n 3, 1) := by decide +kernel
theorem d_La_law_469 : decode code 469 = .ok (.iconst 3, 1) := by decide +kernel
theorem d_La_law_470 : decode code 470 = .ok (.iadd, 1) := by decide +kernel
theorem d_La_law_471 : decode code 471 = .ok (.iaload, 1) := by decide +kernel
theorem d_La_law_472 : decode code 472 = .ok (.i2l, 1) := by decide +kernel
theorem d_La_law_473 : decode code 473 = .ok (.ldc2_w 13, 3) := by decide +kernel
theorem d_La_law_476 : decode code 476 = .ok (.land, 1) := by decide +kernel
theorem d_La_law_477 : decode code 477 = .ok (.lor, 1) := by decide +kernel
theorem d_La_law_478 : decode code 478 = .ok (.invokevirtual 35, 3) := by decide +kernel
theorem d_La_law_481 : decode code 481 = .ok (.aload_n 2, 1) := by decide +kernel
theorem d_La_law_482 : decode code 482 = .ok (.aload_n 0, 1) := by decide +kernel
theorem d_La_law_483 : decode code 483 = .ok (.iload_n 3, 1) := by decide +kernel
theorem d_La_law_484 : decode code 484 = .ok (.iconst 1, 1) := by decide +kernel
theorem d_La_law_485 : decode code 485 = .ok (.iadd, 1) := by decide +kernel
theorem d_La_law_486 : decode code 486 = .ok (.iaload, 1) := by decide +kernel
theorem d_La_law_487 : decode code 487 = .ok (.aload_n 0, 1) := by decide +kernel
theorem d_La_law_488 : decode code 488 = .ok (.iload_n 3, 1) := by decide +kernel
theorem d_La_law_489 : decode code 489 = .ok (.iconst 2, 1) := by decide +kernel
theorem d_La_law_490 : decode code 490 = .ok (.iadd, 1) := by decide +kernel
theorem d_La_law_491 : decode code 491 = .ok (.iaload, 1) := by decide +kernel
theorem d_La_law_492 : decode code 492 = .ok (.i2l, 1) := by decide +kernel
theorem d_La_law_493 : decode code 493 = .ok (.bipush 32, 2) := by decide +kernel
theorem d_La_law_495 : decode code 495 = .ok (.lshl, 1) := by decide +kernel
theorem d_La_law_496 : decode code 496 = .ok (.aload_n 0, 1) := by decide +kernel
theorem d_La_law_497 : decode code 497 = .ok (.iload_n 3, 1) := by decide +kernel
theorem d_La_law_498 : decode code 498 = .ok (.iconst 3, 1) := by decide +kernel
theorem d_La_law_499 : decode code 499 = .ok (.iadd, 1) := by decide +kernel
theorem d_La_law_500 : decode code 500 = .ok (.iaload, 1) := by decide +kernel
theorem d_La_law_501 : decode code 501 = .ok (.i2l, 1) := by decide +kernel
theorem d_La_law_502 : decode code 502 = .ok (.ldc2_w 13, 3) := by decide +kernel
theorem d_La_law_505 : decode code 505 = .ok (.land, 1) := by decide +kernel
theorem d_La_law_506 : decode code 506 = .ok (.lor, 1) := by decide +kernel
theorem d_La_law_507 : decode code 507 = .ok (.invokevirtual 39, 3) := by decide +kernel
theorem d_La_law_510 : decode code 510 = .ok (.if_icmp .eq 401, 3) := by decide +kernel
theorem d_La_law_513 : decode code 513 = .ok (.iconst 0, 1) := by decide +kernel
theorem d_La_law_514 : decode code 514 = .ok (.ireturn, 1) := by decide +kernel
theorem d_La_law_515 : decode code 515 = .ok (.aload_n 1, 1) := by decide +kernel
theorem d_La_law_516 : decode code 516 = .ok (.aload_n 0, 1) := by decide +kernel
theorem d_La_law_517 : decode code 517 = .ok (.iload_n 3, 1) := by decide +kernel
theorem d_La_law_518 : decode code 518 = .ok (.iconst 1, 1) := by decide +kernel
theorem d_La_law_519 : decode code 519 = .ok (.iadd, 1) := by decide +kernel
theorem d_La_law_520 : decode code 520 = .ok (.iaload, 1) := by decide +kernel
theorem d_La_law_521 : decode code 521 = .ok (.i2l, 1) := by decide +kernel
theorem d_La_law_522 : decode code 522 = .ok (.bipush 32, 2) := by decide +kernel
theorem d_La_law_524 : decode code 524 = .ok (.lshl, 1) := by decide +kernel
theorem d_La_law_525 : decode code 525 = .ok (.aload_n 0, 1) := by decide +kernel
theorem d_La_law_526 : decode code 526 = .ok (.iload_n 3, 1) := by decide +kernel
theorem d_La_law_527 : decode code 527 = .ok (.iconst 2, 1) := by decide +kernel
theorem d_La_law_528 : decode code 528 = .ok (.iadd, 1) := by decide +kernel
theorem d_La_law_529 : decode code 529 = .ok (.iaload, 1) := by decide +kernel
theorem d_La_law_530 : decode code 530 = .ok (.i2l, 1) := by decide +kernel
theorem d_La_law_531 : decode code 531 = .ok (.ldc2_w 13, 3) := by decide +kernel
theorem d_La_law_534 : decode code 534 = .ok (.land, 1) := by decide +kernel
theorem d_La_law_535 : decode code 535 = .ok (.lor, 1) := by decide +kernel
theorem d_La_law_536 : decode code 536 = .ok (.invokevirtual 40, 3) := by decide +kernel
theorem d_La_law_539 : decode code 539 = .ok (.aload_n 2, 1) := by decide +kernel
theorem d_La_law_540 : decode code 540 = .ok (.aload_n 0, 1) := by decide +kernel
theorem d_La_law_541 : decode code 541 = .ok (.iload_n 3, 1) := by decide +kernel
theorem d_La_law_542 : decode code 542 = .ok (.iconst 1, 1) := by decide +kernel
theorem d_La_law_543 : decode code 543 = .ok (.iadd, 1) := by decide +kernel
theorem d_La_law_544 : decode code 544 = .ok (.iaload, 1) := by decide +kernel
theorem d_La_law_545 : decode code 545 = .ok (.i2l, 1) := by decide +kernel
theorem d_La_law_546 : decode code 546 = .ok (.bipush 32, 2) := by decide +kernel
theorem d_La_law_548 : decode code 548 = .ok (.lshl, 1) := by decide +kernel
theorem d_La_law_549 : decode code 549 = .ok (.aload_n 0, 1) := by decide +kernel
theorem d_La_law_550 : decode code 550 = .ok (.iload_n 3, 1) := by decide +kernel
theorem d_La_law_551 : decode code 551 = .ok (.iconst 2, 1) := by decide +kernel
theorem d_La_law_552 : decode code 552 = .ok (.iadd, 1) := by decide +kernel
theorem d_La_law_553 : decode code 553 = .ok (.iaload, 1) := by decide +kernel
theorem d_La_law_554 : decode code 554 = .ok (.i2l, 1) := by decide +kernel
theorem d_La_law_555 : decode code 555 = .ok (.ldc2_w 13, 3) := by decide +kernel
theorem d_La_law_558 : decode code 558 = .ok (.land, 1) := by decide +kernel
theorem d_La_law_559 : decode code 559 = .ok (.lor, 1) := by decide +kernel
theorem d_La_law_560 : decode code 560 = .ok (.invokevirtual 44, 3) := by decide +kernel
theorem d_La_law_563 : decode code 563 = .ok (.if_icmp .eq 348, 3) := by decide +kernel
theorem d_La_law_566 : decode code 566 = .ok (.iconst 0, 1) := by decide +kernel
theorem d_La_law_567 : decode code 567 = .ok (.ireturn, 1) := by decide +kernel
theorem d_La_law_568 : decode code 568 = .ok (.aload_n 1, 1) := by decide +kernel
theorem d_La_law_569 : decode code 569 = .ok (.aload_n 0, 1) := by decide +kernel
theorem d_La_law_570 : decode code 570 = .ok (.iload_n 3, 1) := by decide +kernel
theorem d_La_law_571 : decode code 571 = .ok (.iconst 1, 1) := by decide +kernel
theorem d_La_law_572 : decode code 572 = .ok (.iadd, 1) := by decide +kernel
theorem d_La_law_573 : decode code 573 = .ok (.iaload, 1) := by decide +kernel
theorem d_La_law_574 : decode code 574 = .ok (.aload_n 0, 1) := by decide +kernel
theorem d_La_law_575 : decode code 575 = .ok (.iload_n 3, 1) := by decide +kernel
theorem d_La_law_576 : decode code 576 = .ok (.iconst 2, 1) := by decide +kernel
theorem d_La_law_577 : decode code 577 = .ok (.iadd, 1) := by decide +kernel
theorem d_La_law_578 : decode code 578 = .ok (.iaload, 1) := by decide +kernel
theorem d_La_law_579 : decode code 579 = .ok (.i2l, 1) := by decide +kernel
theorem d_La_law_580 : decode code 580 = .ok (.bipush 32, 2) := by decide +kernel
theorem d_La_law_582 : decode code 582 = .ok (.lshl, 1) := by decide +kernel
theorem d_La_law_583 : decode code 583 = .ok (.aload_n 0, 1) := by decide +kernel
theorem d_La_law_584 : decode code 584 = .ok (.iload_n 3, 1) := by decide +kernel
theorem d_La_law_585 : decode code 585 = .ok (.iconst 3, 1) := by decide +kernel
theorem d_La_law_586 : decode code 586 = .ok (.iadd, 1) := by decide +kernel
theorem d_La_law_587 : decode code 587 = .ok (.iaload, 1) := by decide +kernel
theorem d_La_law_588 : decode code 588 = .ok (.i2l, 1) := by decide +kernel
theorem d_La_law_589 : decode code 589 = .ok (.ldc2_w 13, 3) := by decide +kernel
theorem d_La_law_592 : decode code 592 = .ok (.land, 1) := by decide +kernel
theorem d_La_law_593 : decode code 593 = .ok (.lor, 1) := by decide +kernel
theorem d_La_law_594 : decode code 594 = .ok (.invokevirtual 45, 3) := by decide +kernel
theorem d_La_law_597 : decode code 597 = .ok (.aload_n 2, 1) := by decide +kernel
theorem d_La_law_598 : decode code 598 = .ok (.aload_n 0, 1) := by decide +kernel
theorem d_La_law_599 : decode code 599 = .ok (.iload_n 3, 1) := by decide +kernel
theorem d_La_law_600 : decode code 600 = .ok (.iconst 1, 1) := by decide +kernel
theorem d_La_law_601 : decode code 601 = .ok (.iadd, 1) := by decide +kernel
theorem d_La_law_602 : decode code 602 = .ok (.iaload, 1) := by decide +kernel
theorem d_La_law_603 : decode code 603 = .ok (.aload_n 0, 1) := by decide +kernel
theorem d_La_law_604 : decode code 604 = .ok (.iload_n 3, 1) := by decide +kernel
theorem d_La_law_605 : decode code 605 = .ok (.iconst 2, 1) := by decide +kernel
theorem d_La_law_606 : decode code 606 = .ok (.iadd, 1) := by decide +kernel
theorem d_La_law_607 : decode code 607 = .ok (.iaload, 1) := by decide +kernel
theorem d_La_law_608 : decode code 608 = .ok (.i2l, 1) := by decide +kernel
theorem d_La_law_609 : decode code 609 = .ok (.bipush 32, 2) := by decide +kernel
theorem d_La_law_611 : decode code 611 = .ok (.lshl, 1) := by decide +kernel
theorem d_La_law_612 : decode code 612 = .ok (.aload_n 0, 1) := by decide +kernel
theorem d_La_law_613 : decode code 613 = .ok (.iload_n 3, 1) := by decide +kernel
theorem d_La_law_614 : decode code 614 = .ok (.iconst 3, 1) := by decide +kernel
theorem d_La_law_615 : decode code 615 = .ok (.iadd, 1) := by decide +kernel
theorem d_La_law_616 : decode code 616 = .ok (.iaload, 1) := by decide +kernel
theorem d_La_law_617 : decode code 617 = .ok (.i2l, 1) := by decide +kernel
theorem d_La_law_618 : decode code 618 = .ok (.ldc2_w 13, 3) := by decide +kernel
theorem d_La_law_621 : decode code 621 = .ok (.land, 1) := by decide +kernel
theorem d_La_law_622 : decode code 622 = .ok (.lor, 1) := by decide +kernel
theorem d_La_law_623 : decode code 623 = .ok (.invokevirtual 48, 3) := by decide +kernel
theorem d_La_law_626 : decode code 626 = .ok (.if_icmp .eq 285, 3) := by decide +kernel
theorem d_La_law_629 : decode code 629 = .ok (.iconst 0, 1) := by decide +kernel
theorem d_La_law_630 : decode code 630 = .ok (.ireturn, 1) := by decide +kernel
theorem d_La_law_631 : decode code 631 = .ok (.aload_n 1, 1) := by decide +kernel
theorem d_La_law_632 : decode code 632 = .ok (.invokevirtual 49, 3) := by decide +kernel
theorem d_La_law_635 : decode code 635 = .ok (.aload_n 2, 1) := by decide +kernel
theorem d_La_law_636 : decode code 636 = .ok (.invokevirtual 53, 3) := by decide +kernel
theorem d_La_law_639 : decode code 639 = .ok (.lcmp, 1) := by decide +kernel
theorem d_La_law_640 : decode code 640 = .ok (.ifCond .eq 271, 3) := by decide +kernel
theorem d_La_law_643 : decode code 643 = .ok (.iconst 0, 1) := by decide +kernel
theorem d_La_law_644 : decode code 644 = .ok (.ireturn, 1) := by decide +kernel
theorem d_La_law_645 : decode code 645 = .ok (.aload_n 1, 1) := by decide +kernel
theorem d_La_law_646 : decode code 646 = .ok (.aload_n 0, 1) := by decide +kernel
theorem d_La_law_647 : decode code 647 = .ok (.iload_n 3, 1) := by decide +kernel
theorem d_La_law_648 : decode code 648 = .ok (.iconst 1, 1) := by decide +kernel
theorem d_La_law_649 : decode code 649 = .ok (.iadd, 1) := by decide +kernel
theorem d_La_law_650 : decode code 650 = .ok (.iaload, 1) := by decide +kernel
theorem d_La_law_651 : decode code 651 = .ok (.i2l, 1) := by decide +kernel
theorem d_La_law_652 : decode code 652 = .ok (.bipush 32, 2) := by decide +kernel
theorem d_La_law_654 : decode code 654 = .ok (.lshl, 1) := by decide +kernel
theorem d_La_law_655 : decode code 655 = .ok (.aload_n 0, 1) := by decide +kernel
theorem d_La_law_656 : decode code 656 = .ok (.iload_n 3, 1) := by decide +kernel
theorem d_La_law_657 : decode code 657 = .ok (.iconst 2, 1) := by decide +kernel
theorem d_La_law_658 : decode code 658 = .ok (.iadd, 1) := by decide +kernel
theorem d_La_law_659 : decode code 659 = .ok (.iaload, 1) := by decide +kernel
theorem d_La_law_660 : decode code 660 = .ok (.i2l, 1) := by decide +kernel
theorem d_La_law_661 : decode code 661 = .ok (.ldc2_w 13, 3) := by decide +kernel
theorem d_La_law_664 : decode code 664 = .ok (.land, 1) := by decide +kernel
theorem d_La_law_665 : decode code 665 = .ok (.lor, 1) := by decide +kernel
theorem d_La_law_666 : decode code 666 = .ok (.invokevirtual 54, 3) := by decide +kernel
theorem d_La_law_669 : decode code 669 = .ok (.aload_n 2, 1) := by decide +kernel
theorem d_La_law_670 : decode code 670 = .ok (.aload_n 0, 1) := by decide +kernel
theorem d_La_law_671 : decode code 671 = .ok (.iload_n 3, 1) := by decide +kernel
theorem d_La_law_672 : decode code 672 = .ok (.iconst 1, 1) := by decide +kernel
theorem d_La_law_673 : decode code 673 = .ok (.iadd, 1) := by decide +kernel
theorem d_La_law_674 : decode code 674 = .ok (.iaload, 1) := by decide +kernel
theorem d_La_law_675 : decode code 675 = .ok (.i2l, 1) := by decide +kernel
theorem d_La_law_676 : decode code 676 = .ok (.bipush 32, 2) := by decide +kernel
theorem d_La_law_678 : decode code 678 = .ok (.lshl, 1) := by decide +kernel
theorem d_La_law_679 : decode code 679 = .ok (.aload_n 0, 1) := by decide +kernel
theorem d_La_law_680 : decode code 680 = .ok (.iload_n 3, 1) := by decide +kernel
theorem d_La_law_681 : decode code 681 = .ok (.iconst 2, 1) := by decide +kernel
theorem d_La_law_682 : decode code 682 = .ok (.iadd, 1) := by decide +kernel
theorem d_La_law_683 : decode code 683 = .ok (.iaload, 1) := by decide +kernel
theorem d_La_law_684 : decode code 684 = .ok (.i2l, 1) := by decide +kernel
theorem d_La_law_685 : decode code 685 = .ok (.ldc2_w 13, 3) := by decide +kernel
theorem d_La_law_688 : decode code 688 = .ok (.land, 1) := by decide +kernel
theorem d_La_law_689 : decode code 689 = .ok (.lor, 1) := by decide +kernel
theorem d_La_law_690 : decode code 690 = .ok (.invokevirtual 57, 3) := by decide +kernel
theorem d_La_law_693 : decode code 693 = .ok (.if_icmp .eq 218, 3) := by decide +kernel
theorem d_La_law_696 : decode code 696 = .ok (.iconst 0, 1) := by decide +kernel
theorem d_La_law_697 : decode code 697 = .ok (.ireturn, 1) := by decide +kernel
theorem d_La_law_698 : decode code 698 = .ok (.aload_n 1, 1) := by decide +kernel
theorem d_La_law_699 : decode code 699 = .ok (.aload_n 0, 1) := by decide +kernel
theorem d_La_law_700 : decode code 700 = .ok (.iload_n 3, 1) := by decide +kernel
theorem d_La_law_701 : decode code 701 = .ok (.iconst 1, 1) := by decide +kernel
theorem d_La_law_702 : decode code 702 = .ok (.iadd, 1) := by decide +kernel
theorem d_La_law_703 : decode code 703 = .ok (.iaload, 1) := by decide +kernel
theorem d_La_law_704 : decode code 704 = .ok (.invokevirtual 58, 3) := by decide +kernel
theorem d_La_law_707 : decode code 707 = .ok (.aload_n 2, 1) := by decide +kernel
theorem d_La_law_708 : decode code 708 = .ok (.aload_n 0, 1) := by decide +kernel
theorem d_La_law_709 : decode code 709 = .ok (.iload_n 3, 1) := by decide +kernel
theorem d_La_law_710 : decode code 710 = .ok (.iconst 1, 1) := by decide +kernel
theorem d_La_law_711 : decode code 711 = .ok (.iadd, 1) := by decide +kernel
theorem d_La_law_712 : decode code 712 = .ok (.iaload, 1) := by decide +kernel
theorem d_La_law_713 : decode code 713 = .ok (.invokevirtual 61, 3) := by decide +kernel
theorem d_La_law_716 : decode code 716 = .ok (.if_icmp .eq 195, 3) := by decide +kernel
theorem d_La_law_719 : decode code 719 = .ok (.iconst 0, 1) := by decide +kernel
theorem d_La_law_720 : decode code 720 = .ok (.ireturn, 1) := by decide +kernel
theorem d_La_law_721 : decode code 721 = .ok (.aload_n 1, 1) := by decide +kernel
theorem d_La_law_722 : decode code 722 = .ok (.aload_n 0, 1) := by decide +kernel
theorem d_La_law_723 : decode code 723 = .ok (.iload_n 3, 1) := by decide +kernel
theorem d_La_law_724 : decode code 724 = .ok (.iconst 1, 1) := by decide +kernel
theorem d_La_law_725 : decode code 725 = .ok (.iadd, 1) := by decide +kernel
theorem d_La_law_726 : decode code 726 = .ok (.iaload, 1) := by decide +kernel
theorem d_La_law_727 : decode code 727 = .ok (.invokevirtual 62, 3) := by decide +kernel
theorem d_La_law_730 : decode code 730 = .ok (.aload_n 2, 1) := by decide +kernel
theorem d_La_law_731 : decode code 731 = .ok (.aload_n 0, 1) := by decide +kernel
theorem d_La_law_732 : decode code 732 = .ok (.iload_n 3, 1) := by decide +kernel
theorem d_La_law_733 : decode code 733 = .ok (.iconst 1, 1) := by decide +kernel
theorem d_La_law_734 : decode code 734 = .ok (.iadd, 1) := by decide +kernel
theorem d_La_law_735 : decode code 735 = .ok (.iaload, 1) := by decide +kernel
theorem d_La_law_736 : decode code 736 = .ok (.invokevirtual 66, 3) := by decide +kernel
theorem d_La_law_739 : decode code 739 = .ok (.if_icmp .eq 172, 3) := by decide +kernel
theorem d_La_law_742 : decode code 742 = .ok (.iconst 0, 1) := by decide +kernel
theorem d_La_law_743 : decode code 743 = .ok (.ireturn, 1) := by decide +kernel
theorem d_La_law_744 : decode code 744 = .ok (.aload_n 1, 1) := by decide +kernel
theorem d_La_law_745 : decode code 745 = .ok (.invokevirtual 67, 3) := by decide +kernel
theorem d_La_law_748 : decode code 748 = .ok (.aload_n 2, 1) := by decide +kernel
theorem d_La_law_749 : decode code 749 = .ok (.invokevirtual 70, 3) := by decide +kernel
theorem d_La_law_752 : decode code 752 = .ok (.lcmp, 1) := by decide +kernel
theorem d_La_law_753 : decode code 753 = .ok (.ifCond .eq 158, 3) := by decide +kernel
theorem d_La_law_756 : decode code 756 = .ok (.iconst 0, 1) := by decide +kernel
theorem d_La_law_757 : decode code 757 = .ok (.ireturn, 1) := by decide +kernel
theorem d_La_law_758 : decode code 758 = .ok (.aload_n 1, 1) := by decide +kernel
theorem d_La_law_759 : decode code 759 = .ok (.invokevirtual 71, 3) := by decide +kernel
theorem d_La_law_762 : decode code 762 = .ok (.aload_n 2, 1) := by decide +kernel
theorem d_La_law_763 : decode code 763 = .ok (.invokevirtual 74, 3) := by decide +kernel
theorem d_La_law_766 : decode code 766 = .ok (.lcmp, 1) := by decide +kernel
theorem d_La_law_767 : decode code 767 = .ok (.ifCond .eq 144, 3) := by decide +kernel
theorem d_La_law_770 : decode code 770 = .ok (.iconst 0, 1) := by decide +kernel
theorem d_La_law_771 : decode code 771 = .ok (.ireturn, 1) := by decide +kernel
theorem d_La_law_772 : decode code 772 = .ok (.aload_n 1, 1) := by decide +kernel
theorem d_La_law_773 : decode code 773 = .ok (.invokevirtual 75, 3) := by decide +kernel
theorem d_La_law_776 : decode code 776 = .ok (.aload_n 2, 1) := by decide +kernel
theorem d_La_law_777 : decode code 777 = .ok (.invokevirtual 79, 3) := by decide +kernel
theorem d_La_law_780 : decode code 780 = .ok (.if_icmp .eq 131, 3) := by decide +kernel
theorem d_La_law_783 : decode code 783 = .ok (.iconst 0, 1) := by decide +kernel
theorem d_La_law_784 : decode code 784 = .ok (.ireturn, 1) := by decide +kernel
theorem d_La_law_785 : decode code 785 = .ok (.aload_n 1, 1) := by decide +kernel
theorem d_La_law_786 : decode code 786 = .ok (.aload_n 0, 1) := by decide +kernel
theorem d_La_law_787 : decode code 787 = .ok (.iload_n 3, 1) := by decide +kernel
theorem d_La_law_788 : decode code 788 = .ok (.iconst 1, 1) := by decide +kernel
theorem d_La_law_789 : decode code 789 = .ok (.iadd, 1) := by decide +kernel
theorem d_La_law_790 : decode code 790 = .ok (.iaload, 1) := by decide +kernel
theorem d_La_law_791 : decode code 791 = .ok (.invokevirtual 80, 3) := by decide +kernel
theorem d_La_law_794 : decode code 794 = .ok (.aload_n 2, 1) := by decide +kernel
theorem d_La_law_795 : decode code 795 = .ok (.aload_n 0, 1) := by decide +kernel
theorem d_La_law_796 : decode code 796 = .ok (.iload_n 3, 1) := by decide +kernel
theorem d_La_law_797 : decode code 797 = .ok (.iconst 1, 1) := by decide +kernel
theorem d_La_law_798 : decode code 798 = .ok (.iadd, 1) := by decide +kernel
theorem d_La_law_799 : decode code 799 = .ok (.iaload, 1) := by decide +kernel
theorem d_La_law_800 : decode code 800 = .ok (.invokevirtual 83, 3) := by decide +kernel
theorem d_La_law_803 : decode code 803 = .ok (.if_icmp .eq 108, 3) := by decide +kernel
theorem d_La_law_806 : decode code 806 = .ok (.iconst 0, 1) := by decide +kernel
theorem d_La_law_807 : decode code 807 = .ok (.ireturn, 1) := by decide +kernel
theorem d_La_law_808 : decode code 808 = .ok (.aload_n 1, 1) := by decide +kernel
theorem d_La_law_809 : decode code 809 = .ok (.aload_n 0, 1) := by decide +kernel
theorem d_La_law_810 : decode code 810 = .ok (.iload_n 3, 1) := by decide +kernel
theorem d_La_law_811 : decode code 811 = .ok (.iconst 1, 1) := by decide +kernel
theorem d_La_law_812 : decode code 812 = .ok (.iadd, 1) := by decide +kernel
theorem d_La_law_813 : decode code 813 = .ok (.iaload, 1) := by decide +kernel
theorem d_La_law_814 : decode code 814 = .ok (.invokevirtual 84, 3) := by decide +kernel
theorem d_La_law_817 : decode code 817 = .ok (.aload_n 2, 1) := by decide +kernel
theorem d_La_law_818 : decode code 818 = .ok (.aload_n 0, 1) := by decide +kernel
theorem d_La_law_819 : decode code 819 = .ok (.iload_n 3, 1) := by decide +kernel
theorem d_La_law_820 : decode code 820 = .ok (.iconst 1, 1) := by decide +kernel
theorem d_La_law_821 : decode code 821 = .ok (.iadd, 1) := by decide +kernel
theorem d_La_law_822 : decode code 822 = .ok (.iaload, 1) := by decide +kernel
theorem d_La_law_823 : decode code 823 = .ok (.invokevirtual 88, 3) := by decide +kernel
theorem d_La_law_826 : decode code 826 = .ok (.lcmp, 1) := by decide +kernel
theorem d_La_law_827 : decode code 827 = .ok (.ifCond .eq 84, 3) := by decide +kernel
theorem d_La_law_830 : decode code 830 = .ok (.iconst 0, 1) := by decide +kernel
theorem d_La_law_831 : decode code 831 = .ok (.ireturn, 1) := by decide +kernel
theorem d_La_law_832 : decode code 832 = .ok (.aload_n 1, 1) := by decide +kernel
theorem d_La_law_833 : decode code 833 = .ok (.aload_n 0, 1) := by decide +kernel
theorem d_La_law_834 : decode code 834 = .ok (.iload_n 3, 1) := by decide +kernel
theorem d_La_law_835 : decode code 835 = .ok (.iconst 1, 1) := by decide +kernel
theorem d_La_law_836 : decode code 836 = .ok (.iadd, 1) := by decide +kernel
theorem d_La_law_837 : decode code 837 = .ok (.iaload, 1) := by decide +kernel
theorem d_La_law_838 : decode code 838 = .ok (.invokevirtual 89, 3) := by decide +kernel
theorem d_La_law_841 : decode code 841 = .ok (.aload_n 2, 1) := by decide +kernel
theorem d_La_law_842 : decode code 842 = .ok (.aload_n 0, 1) := by decide +kernel
theorem d_La_law_843 : decode code 843 = .ok (.iload_n 3, 1) := by decide +kernel
theorem d_La_law_844 : decode code 844 = .ok (.iconst 1, 1) := by decide +kernel
theorem d_La_law_845 : decode code 845 = .ok (.iadd, 1) := by decide +kernel
theorem d_La_law_846 : decode code 846 = .ok (.iaload, 1) := by decide +kernel
theorem d_La_law_847 : decode code 847 = .ok (.invokevirtual 92, 3) := by decide +kernel
theorem d_La_law_850 : decode code 850 = .ok (.if_icmp .eq 61, 3) := by decide +kernel
theorem d_La_law_853 : decode code 853 = .ok (.iconst 0, 1) := by decide +kernel
theorem d_La_law_854 : decode code 854 = .ok (.ireturn, 1) := by decide +kernel
theorem d_La_law_855 : decode code 855 = .ok (.aload_n 1, 1) := by decide +kernel
theorem d_La_law_856 : decode code 856 = .ok (.aload_n 0, 1) := by decide +kernel
theorem d_La_law_857 : decode code 857 = .ok (.iload_n 3, 1) := by decide +kernel
theorem d_La_law_858 : decode code 858 = .ok (.iconst 1, 1) := by decide +kernel
theorem d_La_law_859 : decode code 859 = .ok (.iadd, 1) := by decide +kernel
theorem d_La_law_860 : decode code 860 = .ok (.iaload, 1) := by decide +kernel
theorem d_La_law_861 : decode code 861 = .ok (.invokevirtual 93, 3) := by decide +kernel
theorem d_La_law_864 : decode code 864 = .ok (.aload_n 2, 1) := by decide +kernel
theorem d_La_law_865 : decode code 865 = .ok (.aload_n 0, 1) := by decide +kernel
theorem d_La_law_866 : decode code 866 = .ok (.iload_n 3, 1) := by decide +kernel
theorem d_La_law_867 : decode code 867 = .ok (.iconst 1, 1) := by decide +kernel
theorem d_La_law_868 : decode code 868 = .ok (.iadd, 1) := by decide +kernel
theorem d_La_law_869 : decode code 869 = .ok (.iaload, 1) := by decide +kernel
theorem d_La_law_870 : decode code 870 = .ok (.invokevirtual 96, 3) := by decide +kernel
theorem d_La_law_873 : decode code 873 = .ok (.if_icmp .eq 38, 3) := by decide +kernel
theorem d_La_law_876 : decode code 876 = .ok (.iconst 0, 1) := by decide +kernel
theorem d_La_law_877 : decode code 877 = .ok (.ireturn, 1) := by decide +kernel
theorem d_La_law_878 : decode code 878 = .ok (.aload_n 1, 1) := by decide +kernel
theorem d_La_law_879 : decode code 879 = .ok (.aload_n 0, 1) := by decide +kernel
theorem d_La_law_880 : decode code 880 = .ok (.iload_n 3, 1) := by decide +kernel
theorem d_La_law_881 : decode code 881 = .ok (.iconst 1, 1) := by decide +kernel
theorem d_La_law_882 : decode code 882 = .ok (.iadd, 1) := by decide +kernel
theorem d_La_law_883 : decode code 883 = .ok (.iaload, 1) := by decide +kernel
theorem d_La_law_884 : decode code 884 = .ok (.aload_n 0, 1) := by decide +kernel
theorem d_La_law_885 : decode code 885 = .ok (.iload_n 3, 1) := by decide +kernel
theorem d_La_law_886 : decode code 886 = .ok (.iconst 2, 1) := by decide +kernel
theorem d_La_law_887 : decode code 887 = .ok (.iadd, 1) := by decide +kernel
theorem d_La_law_888 : decode code 888 = .ok (.iaload, 1) := by decide +kernel
theorem d_La_law_889 : decode code 889 = .ok (.invokevirtual 97, 3) := by decide +kernel
theorem d_La_law_892 : decode code 892 = .ok (.aload_n 2, 1) := by decide +kernel
theorem d_La_law_893 : decode code 893 = .ok (.aload_n 0, 1) := by decide +kernel
theorem d_La_law_894 : decode code 894 = .ok (.iload_n 3, 1) := by decide +kernel
theorem d_La_law_895 : decode code 895 = .ok (.iconst 1, 1) := by decide +kernel
theorem d_La_law_896 : decode code 896 = .ok (.iadd, 1) := by decide +kernel
theorem d_La_law_897 : decode code 897 = .ok (.iaload, 1) := by decide +kernel
theorem d_La_law_898 : decode code 898 = .ok (.aload_n 0, 1) := by decide +kernel
theorem d_La_law_899 : decode code 899 = .ok (.iload_n 3, 1) := by decide +kernel
theorem d_La_law_900 : decode code 900 = .ok (.iconst 2, 1) := by decide +kernel
theorem d_La_law_901 : decode code 901 = .ok (.iadd, 1) := by decide +kernel
theorem d_La_law_902 : decode code 902 = .ok (.iaload, 1) := by decide +kernel
theorem d_La_law_903 : decode code 903 = .ok (.invokevirtual 101, 3) := by decide +kernel
theorem d_La_law_906 : decode code 906 = .ok (.if_icmp .eq 5, 3) := by decide +kernel
theorem d_La_law_909 : decode code 909 = .ok (.iconst 0, 1) := by decide +kernel
theorem d_La_law_910 : decode code 910 = .ok (.ireturn, 1) := by decide +kernel
theorem d_La_law_911 : decode code 911 = .ok (.iinc 3 9, 3) := by decide +kernel
theorem d_La_law_914 : decode code 914 = .ok (.goto (-896), 3) := by decide +kernel
theorem d_La_law_917 : decode code 917 = .ok (.iconst 1, 1) := by decide +kernel
theorem d_La_law_918 : decode code 918 = .ok (.ireturn, 1) := by decide +kernel
