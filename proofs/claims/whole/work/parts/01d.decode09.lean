theorem d_141_0 : decode code 0 = .ok (.new 7, 3) := by decide +kernel
theorem d_141_3 : decode code 3 = .ok (.dup, 1) := by decide +kernel
theorem d_141_4 : decode code 4 = .ok (.aload_n 0, 1) := by decide +kernel
theorem d_141_5 : decode code 5 = .ok (.iconst 0, 1) := by decide +kernel
theorem d_141_6 : decode code 6 = .ok (.invokestatic 9, 3) := by decide +kernel
theorem d_141_9 : decode code 9 = .ok (.aload_n 0, 1) := by decide +kernel
theorem d_141_10 : decode code 10 = .ok (.iconst 1, 1) := by decide +kernel
theorem d_141_11 : decode code 11 = .ok (.invokestatic 9, 3) := by decide +kernel
theorem d_141_14 : decode code 14 = .ok (.invokespecial 15, 3) := by decide +kernel
theorem d_141_17 : decode code 17 = .ok (.astore_n 1, 1) := by decide +kernel
theorem d_141_18 : decode code 18 = .ok (.new 18, 3) := by decide +kernel
theorem d_141_21 : decode code 21 = .ok (.dup, 1) := by decide +kernel
theorem d_141_22 : decode code 22 = .ok (.aload_n 0, 1) := by decide +kernel
theorem d_141_23 : decode code 23 = .ok (.iconst 0, 1) := by decide +kernel
theorem d_141_24 : decode code 24 = .ok (.invokestatic 9, 3) := by decide +kernel
theorem d_141_27 : decode code 27 = .ok (.aload_n 0, 1) := by decide +kernel
theorem d_141_28 : decode code 28 = .ok (.iconst 1, 1) := by decide +kernel
theorem d_141_29 : decode code 29 = .ok (.invokestatic 9, 3) := by decide +kernel
theorem d_141_32 : decode code 32 = .ok (.invokespecial 20, 3) := by decide +kernel
theorem d_141_35 : decode code 35 = .ok (.astore_n 2, 1) := by decide +kernel
theorem d_141_36 : decode code 36 = .ok (.iconst 2, 1) := by decide +kernel
theorem d_141_37 : decode code 37 = .ok (.istore_n 3, 1) := by decide +kernel
theorem d_141_38 : decode code 38 = .ok (.iload_n 3, 1) := by decide +kernel
theorem d_141_39 : decode code 39 = .ok (.aload_n 0, 1) := by decide +kernel
theorem d_141_40 : decode code 40 = .ok (.arraylength, 1) := by decide +kernel
theorem d_141_41 : decode code 41 = .ok (.bipush 6, 2) := by decide +kernel
theorem d_141_43 : decode code 43 = .ok (.isub, 1) := by decide +kernel
theorem d_141_44 : decode code 44 = .ok (.if_icmp .gt 674, 3) := by decide +kernel
theorem d_141_47 : decode code 47 = .ok (.aload_n 0, 1) := by decide +kernel
theorem d_141_48 : decode code 48 = .ok (.iload_n 3, 1) := by decide +kernel
theorem d_141_49 : decode code 49 = .ok (.iaload, 1) := by decide +kernel
theorem d_141_50 : decode code 50 = .ok (.bipush 31, 2) := by decide +kernel
theorem d_141_52 : decode code 52 = .ok (.iand, 1) := by decide +kernel
theorem d_141_53 : decode code 53 = .ok (.tableswitch 659 0 18 #[91, 124, 147, 190, 253, 276, 309, 362, 405, 438, 461, 484, 507, 520, 543, 576, 609, 622, 635], 91) := by decide +kernel
theorem d_141_144 : decode code 144 = .ok (.aload_n 1, 1) := by decide +kernel
theorem d_141_145 : decode code 145 = .ok (.aload_n 0, 1) := by decide +kernel
theorem d_141_146 : decode code 146 = .ok (.iload_n 3, 1) := by decide +kernel
theorem d_141_147 : decode code 147 = .ok (.iconst 1, 1) := by decide +kernel
theorem d_141_148 : decode code 148 = .ok (.iadd, 1) := by decide +kernel
theorem d_141_149 : decode code 149 = .ok (.iaload, 1) := by decide +kernel
theorem d_141_150 : decode code 150 = .ok (.aload_n 0, 1) := by decide +kernel
theorem d_141_151 : decode code 151 = .ok (.iload_n 3, 1) := by decide +kernel
theorem d_141_152 : decode code 152 = .ok (.iconst 2, 1) := by decide +kernel
theorem d_141_153 : decode code 153 = .ok (.iadd, 1) := by decide +kernel
theorem d_141_154 : decode code 154 = .ok (.iaload, 1) := by decide +kernel
theorem d_141_155 : decode code 155 = .ok (.invokevirtual 21, 3) := by decide +kernel
theorem d_141_158 : decode code 158 = .ok (.aload_n 2, 1) := by decide +kernel
theorem d_141_159 : decode code 159 = .ok (.aload_n 0, 1) := by decide +kernel
theorem d_141_160 : decode code 160 = .ok (.iload_n 3, 1) := by decide +kernel
theorem d_141_161 : decode code 161 = .ok (.iconst 1, 1) := by decide +kernel
theorem d_141_162 : decode code 162 = .ok (.iadd, 1) := by decide +kernel
theorem d_141_163 : decode code 163 = .ok (.iaload, 1) := by decide +kernel
theorem d_141_164 : decode code 164 = .ok (.aload_n 0, 1) := by decide +kernel
theorem d_141_165 : decode code 165 = .ok (.iload_n 3, 1) := by decide +kernel
theorem d_141_166 : decode code 166 = .ok (.iconst 2, 1) := by decide +kernel
theorem d_141_167 : decode code 167 = .ok (.iadd, 1) := by decide +kernel
theorem d_141_168 : decode code 168 = .ok (.iaload, 1) := by decide +kernel
theorem d_141_169 : decode code 169 = .ok (.invokevirtual 25, 3) := by decide +kernel
theorem d_141_172 : decode code 172 = .ok (.if_icmp .eq 540, 3) := by decide +kernel
theorem d_141_175 : decode code 175 = .ok (.iconst 0, 1) := by decide +kernel
theorem d_141_176 : decode code 176 = .ok (.ireturn, 1) := by decide +kernel
theorem d_141_177 : decode code 177 = .ok (.aload_n 1, 1) := by decide +kernel
theorem d_141_178 : decode code 178 = .ok (.aload_n 0, 1) := by decide +kernel
theorem d_141_179 : decode code 179 = .ok (.iload_n 3, 1) := by decide +kernel
theorem d_141_180 : decode code 180 = .ok (.iconst 1, 1) := by decide +kernel
theorem d_141_181 : decode code 181 = .ok (.iadd, 1) := by decide +kernel
theorem d_141_182 : decode code 182 = .ok (.iaload, 1) := by decide +kernel
theorem d_141_183 : decode code 183 = .ok (.invokevirtual 26, 3) := by decide +kernel
theorem d_141_186 : decode code 186 = .ok (.aload_n 2, 1) := by decide +kernel
theorem d_141_187 : decode code 187 = .ok (.aload_n 0, 1) := by decide +kernel
theorem d_141_188 : decode code 188 = .ok (.iload_n 3, 1) := by decide +kernel
theorem d_141_189 : decode code 189 = .ok (.iconst 1, 1) := by decide +kernel
theorem d_141_190 : decode code 190 = .ok (.iadd, 1) := by decide +kernel
theorem d_141_191 : decode code 191 = .ok (.iaload, 1) := by decide +kernel
theorem d_141_192 : decode code 192 = .ok (.invokevirtual 30, 3) := by decide +kernel
theorem d_141_195 : decode code 195 = .ok (.if_icmp .eq 517, 3) := by decide +kernel
theorem d_141_198 : decode code 198 = .ok (.iconst 0, 1) := by decide +kernel
theorem d_141_199 : decode code 199 = .ok (.ireturn, 1) := by decide +kernel
theorem d_141_200 : decode code 200 = .ok (.aload_n 1, 1) := by decide +kernel
theorem d_141_201 : decode code 201 = .ok (.aload_n 0, 1) := by decide +kernel
theorem d_141_202 : decode code 202 = .ok (.iload_n 3, 1) := by decide +kernel
theorem d_141_203 : decode code 203 = .ok (.iconst 1, 1) := by decide +kernel
theorem d_141_204 : decode code 204 = .ok (.iadd, 1) := by decide +kernel
theorem d_141_205 : decode code 205 = .ok (.iaload, 1) := by decide +kernel
theorem d_141_206 : decode code 206 = .ok (.aload_n 0, 1) := by decide +kernel
theorem d_141_207 : decode code 207 = .ok (.iload_n 3, 1) := by decide +kernel
theorem d_141_208 : decode code 208 = .ok (.iconst 2, 1) := by decide +kernel
theorem d_141_209 : decode code 209 = .ok (.iadd, 1) := by decide +kernel
theorem d_141_210 : decode code 210 = .ok (.iaload, 1) := by decide +kernel
theorem d_141_211 : decode code 211 = .ok (.aload_n 0, 1) := by decide +kernel
theorem d_141_212 : decode code 212 = .ok (.iload_n 3, 1) := by decide +kernel
theorem d_141_213 : decode code 213 = .ok (.iconst 3, 1) := by decide +kernel
theorem d_141_214 : decode code 214 = .ok (.iadd, 1) := by decide +kernel
theorem d_141_215 : decode code 215 = .ok (.iaload, 1) := by decide +kernel
theorem d_141_216 : decode code 216 = .ok (.invokevirtual 31, 3) := by decide +kernel
theorem d_141_219 : decode code 219 = .ok (.aload_n 2, 1) := by decide +kernel
theorem d_141_220 : decode code 220 = .ok (.aload_n 0, 1) := by decide +kernel
theorem d_141_221 : decode code 221 = .ok (.iload_n 3, 1) := by decide +kernel
theorem d_141_222 : decode code 222 = .ok (.iconst 1, 1) := by decide +kernel
theorem d_141_223 : decode code 223 = .ok (.iadd, 1) := by decide +kernel
theorem d_141_224 : decode code 224 = .ok (.iaload, 1) := by decide +kernel
theorem d_141_225 : decode code 225 = .ok (.aload_n 0, 1) := by decide +kernel
theorem d_141_226 : decode code 226 = .ok (.iload_n 3, 1) := by decide +kernel
theorem d_141_227 : decode code 227 = .ok (.iconst 2, 1) := by decide +kernel
theorem d_141_228 : decode code 228 = .ok (.iadd, 1) := by decide +kernel
theorem d_141_229 : decode code 229 = .ok (.iaload, 1) := by decide +kernel
theorem d_141_230 : decode code 230 = .ok (.aload_n 0, 1) := by decide +kernel
theorem d_141_231 : decode code 231 = .ok (.iload_n 3, 1) := by decide +kernel
theorem d_141_232 : decode code 232 = .ok (.iconst 3, 1) := by decide +kernel
theorem d_141_233 : decode code 233 = .ok (.iadd, 1) := by decide +kernel
theorem d_141_234 : decode code 234 = .ok (.iaload, 1) := by decide +kernel
theorem d_141_235 : decode code 235 = .ok (.invokevirtual 35, 3) := by decide +kernel
theorem d_141_238 : decode code 238 = .ok (.if_icmp .eq 474, 3) := by decide +kernel
theorem d_141_241 : decode code 241 = .ok (.iconst 0, 1) := by decide +kernel
theorem d_141_242 : decode code 242 = .ok (.ireturn, 1) := by decide +kernel
theorem d_141_243 : decode code 243 = .ok (.aload_n 1, 1) := by decide +kernel
theorem d_141_244 : decode code 244 = .ok (.aload_n 0, 1) := by decide +kernel
theorem d_141_245 : decode code 245 = .ok (.iload_n 3, 1) := by decide +kernel
theorem d_141_246 : decode code 246 = .ok (.iconst 1, 1) := by decide +kernel
theorem d_141_247 : decode code 247 = .ok (.iadd, 1) := by decide +kernel
theorem d_141_248 : decode code 248 = .ok (.iaload, 1) := by decide +kernel
theorem d_141_249 : decode code 249 = .ok (.aload_n 0, 1) := by decide +kernel
theorem d_141_250 : decode code 250 = .ok (.iload_n 3, 1) := by decide +kernel
theorem d_141_251 : decode code 251 = .ok (.iconst 2, 1) := by decide +kernel
theorem d_141_252 : decode code 252 = .ok (.iadd, 1) := by decide +kernel
theorem d_141_253 : decode code 253 = .ok (.iaload, 1) := by decide +kernel
theorem d_141_254 : decode code 254 = .ok (.aload_n 0, 1) := by decide +kernel
theorem d_141_255 : decode code 255 = .ok (.iload_n 3, 1) := by decide +kernel
theorem d_141_256 : decode code 256 = .ok (.iconst 3, 1) := by decide +kernel
theorem d_141_257 : decode code 257 = .ok (.iadd, 1) := by decide +kernel
theorem d_141_258 : decode code 258 = .ok (.iaload, 1) := by decide +kernel
theorem d_141_259 : decode code 259 = .ok (.aload_n 0, 1) := by decide +kernel
theorem d_141_260 : decode code 260 = .ok (.iload_n 3, 1) := by decide +kernel
theorem d_141_261 : decode code 261 = .ok (.iconst 4, 1) := by decide +kernel
theorem d_141_262 : decode code 262 = .ok (.iadd, 1) := by decide +kernel
theorem d_141_263 : decode code 263 = .ok (.iaload, 1) := by decide +kernel
theorem d_141_264 : decode code 264 = .ok (.aload_n 0, 1) := by decide +kernel
theorem d_141_265 : decode code 265 = .ok (.iload_n 3, 1) := by decide +kernel
theorem d_141_266 : decode code 266 = .ok (.iconst 5, 1) := by decide +kernel
theorem d_141_267 : decode code 267 = .ok (.iadd, 1) := by decide +kernel
theorem d_141_268 : decode code 268 = .ok (.iaload, 1) := by decide +kernel
theorem d_141_269 : decode code 269 = .ok (.invokevirtual 36, 3) := by decide +kernel
theorem d_141_272 : decode code 272 = .ok (.aload_n 2, 1) := by decide +kernel
theorem d_141_273 : decode code 273 = .ok (.aload_n 0, 1) := by decide +kernel
theorem d_141_274 : decode code 274 = .ok (.iload_n 3, 1) := by decide +kernel
theorem d_141_275 : decode code 275 = .ok (.iconst 1, 1) := by decide +kernel
theorem d_141_276 : decode code 276 = .ok (.iadd, 1) := by decide +kernel
theorem d_141_277 : decode code 277 = .ok (.iaload, 1) := by decide +kernel
theorem d_141_278 : decode code 278 = .ok (.aload_n 0, 1) := by decide +kernel
theorem d_141_279 : decode code 279 = .ok (.iload_n 3, 1) := by decide +kernel
theorem d_141_280 : decode code 280 = .ok (.iconst 2, 1) := by decide +kernel
theorem d_141_281 : decode code 281 = .ok (.iadd, 1) := by decide +kernel
theorem d_141_282 : decode code 282 = .ok (.iaload, 1) := by decide +kernel
theorem d_141_283 : decode code 283 = .ok (.aload_n 0, 1) := by decide +kernel
theorem d_141_284 : decode code 284 = .ok (.iload_n 3, 1) := by decide +kernel
theorem d_141_285 : decode code 285 = .ok (.iconst 3, 1) := by decide +kernel
theorem d_141_286 : decode code 286 = .ok (.iadd, 1) := by decide +kernel
theorem d_141_287 : decode code 287 = .ok (.iaload, 1) := by decide +kernel
theorem d_141_288 : decode code 288 = .ok (.aload_n 0, 1) := by decide +kernel
theorem d_141_289 : decode code 289 = .ok (.iload_n 3, 1) := by decide +kernel
theorem d_141_290 : decode code 290 = .ok (.iconst 4, 1) := by decide +kernel
theorem d_141_291 : decode code 291 = .ok (.iadd, 1) := by decide +kernel
theorem d_141_292 : decode code 292 = .ok (.iaload, 1) := by decide +kernel
theorem d_141_293 : decode code 293 = .ok (.aload_n 0, 1) := by decide +kernel
theorem d_141_294 : decode code 294 = .ok (.iload_n 3, 1) := by decide +kernel
theorem d_141_295 : decode code 295 = .ok (.iconst 5, 1) := by decide +kernel
theorem d_141_296 : decode code 296 = .ok (.iadd, 1) := by decide +kernel
theorem d_141_297 : decode code 297 = .ok (.iaload, 1) := by decide +kernel
theorem d_141_298 : decode code 298 = .ok (.invokevirtual 40, 3) := by decide +kernel
theorem d_141_301 : decode code 301 = .ok (.if_icmp .eq 411, 3) := by decide +kernel
theorem d_141_304 : decode code 304 = .ok (.iconst 0, 1) := by decide +kernel
theorem d_141_305 : decode code 305 = .ok (.ireturn, 1) := by decide +kernel
theorem d_141_306 : decode code 306 = .ok (.aload_n 1, 1) := by decide +kernel
theorem d_141_307 : decode code 307 = .ok (.aload_n 0, 1) := by decide +kernel
theorem d_141_308 : decode code 308 = .ok (.iload_n 3, 1) := by decide +kernel
theorem d_141_309 : decode code 309 = .ok (.iconst 1, 1) := by decide +kernel
theorem d_141_310 : decode code 310 = .ok (.iadd, 1) := by decide +kernel
theorem d_141_311 : decode code 311 = .ok (.iaload, 1) := by decide +kernel
theorem d_141_312 : decode code 312 = .ok (.invokevirtual 41, 3) := by decide +kernel
theorem d_141_315 : decode code 315 = .ok (.aload_n 2, 1) := by decide +kernel
theorem d_141_316 : decode code 316 = .ok (.aload_n 0, 1) := by decide +kernel
theorem d_141_317 : decode code 317 = .ok (.iload_n 3, 1) := by decide +kernel
theorem d_141_318 : decode code 318 = .ok (.iconst 1, 1) := by decide +kernel
theorem d_141_319 : decode code 319 = .ok (.iadd, 1) := by decide +kernel
theorem d_141_320 : decode code 320 = .ok (.iaload, 1) := by decide +kernel
theorem d_141_321 : decode code 321 = .ok (.invokevirtual 44, 3) := by decide +kernel
theorem d_141_324 : decode code 324 = .ok (.if_icmp .eq 388, 3) := by decide +kernel
theorem d_141_327 : decode code 327 = .ok (.iconst 0, 1) := by decide +kernel
theorem d_141_328 : decode code 328 = .ok (.ireturn, 1) := by decide +kernel
theorem d_141_329 : decode code 329 = .ok (.aload_n 1, 1) := by decide +kernel
theorem d_141_330 : decode code 330 = .ok (.aload_n 0, 1) := by decide +kernel
theorem d_141_331 : decode code 331 = .ok (.iload_n 3, 1) := by decide +kernel
theorem d_141_332 : decode code 332 = .ok (.iconst 1, 1) := by decide +kernel
theorem d_141_333 : decode code 333 = .ok (.iadd, 1) := by decide +kernel
theorem d_141_334 : decode code 334 = .ok (.iaload, 1) := by decide +kernel
theorem d_141_335 : decode code 335 = .ok (.aload_n 0, 1) := by decide +kernel
theorem d_141_336 : decode code 336 = .ok (.iload_n 3, 1) := by decide +kernel
theorem d_141_337 : decode code 337 = .ok (.iconst 2, 1) := by decide +kernel
theorem d_141_338 : decode code 338 = .ok (.iadd, 1) := by decide +kernel
theorem d_141_339 : decode code 339 = .ok (.iaload, 1) := by decide +kernel
theorem d_141_340 : decode code 340 = .ok (.invokevirtual 45, 3) := by decide +kernel
theorem d_141_343 : decode code 343 = .ok (.aload_n 2, 1) := by decide +kernel
theorem d_141_344 : decode code 344 = .ok (.aload_n 0, 1) := by decide +kernel
theorem d_141_345 : decode code 345 = .ok (.iload_n 3, 1) := by decide +kernel
theorem d_141_346 : decode code 346 = .ok (.iconst 1, 1) := by decide +kernel
theorem d_141_347 : decode code 347 = .ok (.iadd, 1) := by decide +kernel
theorem d_141_348 : decode code 348 = .ok (.iaload, 1) := by decide +kernel
theorem d_141_349 : decode code 349 = .ok (.aload_n 0, 1) := by decide +kernel
theorem d_141_350 : decode code 350 = .ok (.iload_n 3, 1) := by decide +kernel
theorem d_141_351 : decode code 351 = .ok (.iconst 2, 1) := by decide +kernel
theorem d_141_352 : decode code 352 = .ok (.iadd, 1) := by decide +kernel
theorem d_141_353 : decode code 353 = .ok (.iaload, 1) := by decide +kernel
theorem d_141_354 : decode code 354 = .ok (.invokevirtual 49, 3) := by decide +kernel
theorem d_141_357 : decode code 357 = .ok (.if_icmp .eq 355, 3) := by decide +kernel
theorem d_141_360 : decode code 360 = .ok (.iconst 0, 1) := by decide +kernel
theorem d_141_361 : decode code 361 = .ok (.ireturn, 1) := by decide +kernel
theorem d_141_362 : decode code 362 = .ok (.aload_n 1, 1) := by decide +kernel
theorem d_141_363 : decode code 363 = .ok (.aload_n 0, 1) := by decide +kernel
theorem d_141_364 : decode code 364 = .ok (.iload_n 3, 1) := by decide +kernel
theorem d_141_365 : decode code 365 = .ok (.iconst 1, 1) := by decide +kernel
theorem d_141_366 : decode code 366 = .ok (.iadd, 1) := by decide +kernel
theorem d_141_367 : decode code 367 = .ok (.iaload, 1) := by decide +kernel
theorem d_141_368 : decode code 368 = .ok (.aload_n 0, 1) := by decide +kernel
theorem d_141_369 : decode code 369 = .ok (.iload_n 3, 1) := by decide +kernel
theorem d_141_370 : decode code 370 = .ok (.iconst 2, 1) := by decide +kernel
theorem d_141_371 : decode code 371 = .ok (.iadd, 1) := by decide +kernel
theorem d_141_372 : decode code 372 = .ok (.iaload, 1) := by decide +kernel
theorem d_141_373 : decode code 373 = .ok (.aload_n 0, 1) := by decide +kernel
theorem d_141_374 : decode code 374 = .ok (.iload_n 3, 1) := by decide +kernel
theorem d_141_375 : decode code 375 = .ok (.iconst 3, 1) := by decide +kernel
theorem d_141_376 : decode code 376 = .ok (.iadd, 1) := by decide +kernel
theorem d_141_377 : decode code 377 = .ok (.iaload, 1) := by decide +kernel
theorem d_141_378 : decode code 378 = .ok (.aload_n 0, 1) := by decide +kernel
theorem d_141_379 : decode code 379 = .ok (.iload_n 3, 1) := by decide +kernel
theorem d_141_380 : decode code 380 = .ok (.iconst 4, 1) := by decide +kernel
theorem d_141_381 : decode code 381 = .ok (.iadd, 1) := by decide +kernel
theorem d_141_382 : decode code 382 = .ok (.iaload, 1) := by decide +kernel
theorem d_141_383 : decode code 383 = .ok (.invokevirtual 50, 3) := by decide +kernel
theorem d_141_386 : decode code 386 = .ok (.aload_n 2, 1) := by decide +kernel
theorem d_141_387 : decode code 387 = .ok (.aload_n 0, 1) := by decide +kernel
theorem d_141_388 : decode code 388 = .ok (.iload_n 3, 1) := by decide +kernel
theorem d_141_389 : decode code 389 = .ok (.iconst 1, 1) := by decide +kernel
theorem d_141_390 : decode code 390 = .ok (.iadd, 1) := by decide +kernel
theorem d_141_391 : decode code 391 = .ok (.iaload, 1) := by decide +kernel
theorem d_141_392 : decode code 392 = .ok (.aload_n 0, 1) := by decide +kernel
theorem d_141_393 : decode code 393 = .ok (.iload_n 3, 1) := by decide +kernel
theorem d_141_394 : decode code 394 = .ok (.iconst 2, 1) := by decide +kernel
theorem d_141_395 : decode code 395 = .ok (.iadd, 1) := by decide +kernel
theorem d_141_396 : decode code 396 = .ok (.iaload, 1) := by decide +kernel
theorem d_141_397 : decode code 397 = .ok (.aload_n 0, 1) := by decide +kernel
theorem d_141_398 : decode code 398 = .ok (.iload_n 3, 1) := by decide +kernel
theorem d_141_399 : decode code 399 = .ok (.iconst 3, 1) := by decide +kernel
theorem d_141_400 : decode code 400 = .ok (.iadd, 1) := by decide +kernel
theorem d_141_401 : decode code 401 = .ok (.iaload, 1) := by decide +kernel
theorem d_141_402 : decode code 402 = .ok (.aload_n 0, 1) := by decide +kernel
theorem d_141_403 : decode code 403 = .ok (.iload_n 3, 1) := by decide +kernel
theorem d_141_404 : decode code 404 = .ok (.iconst 4, 1) := by decide +kernel
theorem d_141_405 : decode code 405 = .ok (.iadd, 1) := by decide +kernel
theorem d_141_406 : decode code 406 = .ok (.iaload, 1) := by decide +kernel
theorem d_141_407 : decode code 407 = .ok (.invokevirtual 54, 3) := by decide +kernel
theorem d_141_410 : decode code 410 = .ok (.if_icmp .eq 302, 3) := by decide +kernel
theorem d_141_413 : decode code 413 = .ok (.iconst 0, 1) := by decide +kernel
theorem d_141_414 : decode code 414 = .ok (.ireturn, 1) := by decide +kernel
theorem d_141_415 : decode code 415 = .ok (.aload_n 1, 1) := by decide +kernel
theorem d_141_416 : decode code 416 = .ok (.aload_n 0, 1) := by decide +kernel
theorem d_141_417 : decode code 417 = .ok (.iload_n 3, 1) := by decide +kernel
theorem d_141_418 : decode code 418 = .ok (.iconst 1, 1) := by decide +kernel
theorem d_141_419 : decode code 419 = .ok (.iadd, 1) := by decide +kernel
theorem d_141_420 : decode code 420 = .ok (.iaload, 1) := by decide +kernel
theorem d_141_421 : decode code 421 = .ok (.aload_n 0, 1) := by decide +kernel
theorem d_141_422 : decode code 422 = .ok (.iload_n 3, 1) := by decide +kernel
theorem d_141_423 : decode code 423 = .ok (.iconst 2, 1) := by decide +kernel
theorem d_141_424 : decode code 424 = .ok (.iadd, 1) := by decide +kernel
theorem d_141_425 : decode code 425 = .ok (.iaload, 1) := by decide +kernel
theorem d_141_426 : decode code 426 = .ok (.aload_n 0, 1) := by decide +kernel
theorem d_141_427 : decode code 427 = .ok (.iload_n 3, 1) := by decide +kernel
theorem d_141_428 : decode code 428 = .ok (.iconst 3, 1) := by decide +kernel
theorem d_141_429 : decode code 429 = .ok (.iadd, 1) := by decide +kernel
theorem d_141_430 : decode code 430 = .ok (.iaload, 1) := by decide +kernel
theorem d_141_431 : decode code 431 = .ok (.invokevirtual 55, 3) := by decide +kernel
theorem d_141_434 : decode code 434 = .ok (.aload_n 2, 1) := by decide +kernel
theorem d_141_435 : decode code 435 = .ok (.aload_n 0, 1) := by decide +kernel
theorem d_141_436 : decode code 436 = .ok (.iload_n 3, 1) := by decide +kernel
theorem d_141_437 : decode code 437 = .ok (.iconst 1, 1) := by decide +kernel
theorem d_141_438 : decode code 438 = .ok (.iadd, 1) := by decide +kernel
theorem d_141_439 : decode code 439 = .ok (.iaload, 1) := by decide +kernel
theorem d_141_440 : decode code 440 = .ok (.aload_n 0, 1) := by decide +kernel
theorem d_141_441 : decode code 441 = .ok (.iload_n 3, 1) := by decide +kernel
theorem d_141_442 : decode code 442 = .ok (.iconst 2, 1) := by decide +kernel
theorem d_141_443 : decode code 443 = .ok (.iadd, 1) := by decide +kernel
theorem d_141_444 : decode code 444 = .ok (.iaload, 1) := by decide +kernel
theorem d_141_445 : decode code 445 = .ok (.aload_n 0, 1) := by decide +kernel
theorem d_141_446 : decode code 446 = .ok (.iload_n 3, 1) := by decide +kernel
theorem d_141_447 : decode code 447 = .ok (.iconst 3, 1) := by decide +kernel
theorem d_141_448 : decode code 448 = .ok (.iadd, 1) := by decide +kernel
theorem d_141_449 : decode code 449 = .ok (.iaload, 1) := by decide +kernel
theorem d_141_450 : decode code 450 = .ok (.invokevirtual 59, 3) := by decide +kernel
theorem d_141_453 : decode code 453 = .ok (.if_icmp .eq 259, 3) := by decide +kernel
theorem d_141_456 : decode code 456 = .ok (.iconst 0, 1) := by decide +kernel
theorem d_141_457 : decode code 457 = .ok (.ireturn, 1) := by decide +kernel
theorem d_141_458 : decode code 458 = .ok (.aload_n 1, 1) := by decide +kernel
theorem d_141_459 : decode code 459 = .ok (.aload_n 0, 1) := by decide +kernel
theorem d_141_460 : decode code 460 = .ok (.iload_n 3, 1) := by decide +kernel
theorem d_141_461 : decode code 461 = .ok (.iconst 1, 1) := by decide +kernel
theorem d_141_462 : decode code 462 = .ok (.iadd, 1) := by decide +kernel
theorem d_141_463 : decode code 463 = .ok (.iaload, 1) := by decide +kernel
theorem d_141_464 : decode code 464 = .ok (.aload_n 0, 1) := by decide +kernel
theorem d_141_465 : decode code 465 = .ok (.iload_n 3, 1) := by decide +kernel
theorem d_141_466 : decode code 466 = .ok (.iconst 2, 1) := by decide +kernel
theorem d_141_467 : decode code 467 = .ok (.iadd, 1) := by decide +kernel
theorem d_141_468 : decode code 468 = .ok (.iaload, 1) := by decide +kernel
theorem d_141_469 : decode code 469 = .ok (.invokevirtual 60, 3) := by decide +kernel
theorem d_141_472 : decode code 472 = .ok (.aload_n 2, 1) := by decide +kernel
theorem d_141_473 : decode code 473 = .ok (.aload_n 0, 1) := by decide +kernel
theorem d_141_474 : decode code 474 = .ok (.iload_n 3, 1) := by decide +kernel
theorem d_141_475 : decode code 475 = .ok (.iconst 1, 1) := by decide +kernel
theorem d_141_476 : decode code 476 = .ok (.iadd, 1) := by decide +kernel
theorem d_141_477 : decode code 477 = .ok (.iaload, 1) := by decide +kernel
theorem d_141_478 : decode code 478 = .ok (.aload_n 0, 1) := by decide +kernel
theorem d_141_479 : decode code 479 = .ok (.iload_n 3, 1) := by decide +kernel
theorem d_141_480 : decode code 480 = .ok (.iconst 2, 1) := by decide +kernel
theorem d_141_481 : decode code 481 = .ok (.iadd, 1) := by decide +kernel
theorem d_141_482 : decode code 482 = .ok (.iaload, 1) := by decide +kernel
theorem d_141_483 : decode code 483 = .ok (.invokevirtual 63, 3) := by decide +kernel
theorem d_141_486 : decode code 486 = .ok (.if_icmp .eq 226, 3) := by decide +kernel
theorem d_141_489 : decode code 489 = .ok (.iconst 0, 1) := by decide +kernel
theorem d_141_490 : decode code 490 = .ok (.ireturn, 1) := by decide +kernel
theorem d_141_491 : decode code 491 = .ok (.aload_n 1, 1) := by decide +kernel
theorem d_141_492 : decode code 492 = .ok (.aload_n 0, 1) := by decide +kernel
theorem d_141_493 : decode code 493 = .ok (.iload_n 3, 1) := by decide +kernel
theorem d_141_494 : decode code 494 = .ok (.iconst 1, 1) := by decide +kernel
theorem d_141_495 : decode code 495 = .ok (.iadd, 1) := by decide +kernel
theorem d_141_496 : decode code 496 = .ok (.iaload, 1) := by decide +kernel
theorem d_141_497 : decode code 497 = .ok (.invokevirtual 64, 3) := by decide +kernel
theorem d_141_500 : decode code 500 = .ok (.aload_n 2, 1) := by decide +kernel
theorem d_141_501 : decode code 501 = .ok (.aload_n 0, 1) := by decide +kernel
theorem d_141_502 : decode code 502 = .ok (.iload_n 3, 1) := by decide +kernel
theorem d_141_503 : decode code 503 = .ok (.iconst 1, 1) := by decide +kernel
theorem d_141_504 : decode code 504 = .ok (.iadd, 1) := by decide +kernel
theorem d_141_505 : decode code 505 = .ok (.iaload, 1) := by decide +kernel
theorem d_141_506 : decode code 506 = .ok (.invokevirtual 67, 3) := by decide +kernel
theorem d_141_509 : decode code 509 = .ok (.if_icmp .eq 203, 3) := by decide +kernel
theorem d_141_512 : decode code 512 = .ok (.iconst 0, 1) := by decide +kernel
theorem d_141_513 : decode code 513 = .ok (.ireturn, 1) := by decide +kernel
theorem d_141_514 : decode code 514 = .ok (.aload_n 1, 1) := by decide +kernel
theorem d_141_515 : decode code 515 = .ok (.aload_n 0, 1) := by decide +kernel
theorem d_141_516 : decode code 516 = .ok (.iload_n 3, 1) := by decide +kernel
theorem d_141_517 : decode code 517 = .ok (.iconst 1, 1) := by decide +kernel
theorem d_141_518 : decode code 518 = .ok (.iadd, 1) := by decide +kernel
theorem d_141_519 : decode code 519 = .ok (.iaload, 1) := by decide +kernel
theorem d_141_520 : decode code 520 = .ok (.invokevirtual 68, 3) := by decide +kernel
theorem d_141_523 : decode code 523 = .ok (.aload_n 2, 1) := by decide +kernel
theorem d_141_524 : decode code 524 = .ok (.aload_n 0, 1) := by decide +kernel
theorem d_141_525 : decode code 525 = .ok (.iload_n 3, 1) := by decide +kernel
theorem d_141_526 : decode code 526 = .ok (.iconst 1, 1) := by decide +kernel
theorem d_141_527 : decode code 527 = .ok (.iadd, 1) := by decide +kernel
theorem d_141_528 : decode code 528 = .ok (.iaload, 1) := by decide +kernel
theorem d_141_529 : decode code 529 = .ok (.invokevirtual 72, 3) := by decide +kernel
theorem d_141_532 : decode code 532 = .ok (.if_icmp .eq 180, 3) := by decide +kernel
theorem d_141_535 : decode code 535 = .ok (.iconst 0, 1) := by decide +kernel
theorem d_141_536 : decode code 536 = .ok (.ireturn, 1) := by decide +kernel
theorem d_141_537 : decode code 537 = .ok (.aload_n 1, 1) := by decide +kernel
theorem d_141_538 : decode code 538 = .ok (.aload_n 0, 1) := by decide +kernel
theorem d_141_539 : decode code 539 = .ok (.iload_n 3, 1) := by decide +kernel
theorem d_141_540 : decode code 540 = .ok (.iconst 1, 1) := by decide +kernel
theorem d_141_541 : decode code 541 = .ok (.iadd, 1) := by decide +kernel
theorem d_141_542 : decode code 542 = .ok (.iaload, 1) := by decide +kernel
theorem d_141_543 : decode code 543 = .ok (.invokevirtual 73, 3) := by decide +kernel
theorem d_141_546 : decode code 546 = .ok (.aload_n 2, 1) := by decide +kernel
theorem d_141_547 : decode code 547 = .ok (.aload_n 0, 1) := by decide +kernel
theorem d_141_548 : decode code 548 = .ok (.iload_n 3, 1) := by decide +kernel
theorem d_141_549 : decode code 549 = .ok (.iconst 1, 1) := by decide +kernel
theorem d_141_550 : decode code 550 = .ok (.iadd, 1) := by decide +kernel
theorem d_141_551 : decode code 551 = .ok (.iaload, 1) := by decide +kernel
theorem d_141_552 : decode code 552 = .ok (.invokevirtual 76, 3) := by decide +kernel
theorem d_141_555 : decode code 555 = .ok (.if_icmp .eq 157, 3) := by decide +kernel
theorem d_141_558 : decode code 558 = .ok (.iconst 0, 1) := by decide +kernel
theorem d_141_559 : decode code 559 = .ok (.ireturn, 1) := by decide +kernel
theorem d_141_560 : decode code 560 = .ok (.aload_n 1, 1) := by decide +kernel
theorem d_141_561 : decode code 561 = .ok (.invokevirtual 77, 3) := by decide +kernel
theorem d_141_564 : decode code 564 = .ok (.aload_n 2, 1) := by decide +kernel
theorem d_141_565 : decode code 565 = .ok (.invokevirtual 81, 3) := by decide +kernel
theorem d_141_568 : decode code 568 = .ok (.if_icmp .eq 144, 3) := by decide +kernel
theorem d_141_571 : decode code 571 = .ok (.iconst 0, 1) := by decide +kernel
theorem d_141_572 : decode code 572 = .ok (.ireturn, 1) := by decide +kernel
theorem d_141_573 : decode code 573 = .ok (.aload_n 1, 1) := by decide +kernel
theorem d_141_574 : decode code 574 = .ok (.aload_n 0, 1) := by decide +kernel
theorem d_141_575 : decode code 575 = .ok (.iload_n 3, 1) := by decide +kernel
theorem d_141_576 : decode code 576 = .ok (.iconst 1, 1) := by decide +kernel
theorem d_141_577 : decode code 577 = .ok (.iadd, 1) := by decide +kernel
theorem d_141_578 : decode code 578 = .ok (.iaload, 1) := by decide +kernel
theorem d_141_579 : decode code 579 = .ok (.invokevirtual 82, 3) := by decide +kernel
theorem d_141_582 : decode code 582 = .ok (.aload_n 2, 1) := by decide +kernel
theorem d_141_583 : decode code 583 = .ok (.aload_n 0, 1) := by decide +kernel
theorem d_141_584 : decode code 584 = .ok (.iload_n 3, 1) := by decide +kernel
theorem d_141_585 : decode code 585 = .ok (.iconst 1, 1) := by decide +kernel
theorem d_141_586 : decode code 586 = .ok (.iadd, 1) := by decide +kernel
theorem d_141_587 : decode code 587 = .ok (.iaload, 1) := by decide +kernel
theorem d_141_588 : decode code 588 = .ok (.invokevirtual 85, 3) := by decide +kernel
theorem d_141_591 : decode code 591 = .ok (.if_icmp .eq 121, 3) := by decide +kernel
theorem d_141_594 : decode code 594 = .ok (.iconst 0, 1) := by decide +kernel
theorem d_141_595 : decode code 595 = .ok (.ireturn, 1) := by decide +kernel
theorem d_141_596 : decode code 596 = .ok (.aload_n 1, 1) := by decide +kernel
theorem d_141_597 : decode code 597 = .ok (.aload_n 0, 1) := by decide +kernel
theorem d_141_598 : decode code 598 = .ok (.iload_n 3, 1) := by decide +kernel
theorem d_141_599 : decode code 599 = .ok (.iconst 1, 1) := by decide +kernel
theorem d_141_600 : decode code 600 = .ok (.iadd, 1) := by decide +kernel
theorem d_141_601 : decode code 601 = .ok (.iaload, 1) := by decide +kernel
theorem d_141_602 : decode code 602 = .ok (.aload_n 0, 1) := by decide +kernel
theorem d_141_603 : decode code 603 = .ok (.iload_n 3, 1) := by decide +kernel
theorem d_141_604 : decode code 604 = .ok (.iconst 2, 1) := by decide +kernel
theorem d_141_605 : decode code 605 = .ok (.iadd, 1) := by decide +kernel
theorem d_141_606 : decode code 606 = .ok (.iaload, 1) := by decide +kernel
theorem d_141_607 : decode code 607 = .ok (.invokevirtual 86, 3) := by decide +kernel
theorem d_141_610 : decode code 610 = .ok (.aload_n 2, 1) := by decide +kernel
theorem d_141_611 : decode code 611 = .ok (.aload_n 0, 1) := by decide +kernel
theorem d_141_612 : decode code 612 = .ok (.iload_n 3, 1) := by decide +kernel
theorem d_141_613 : decode code 613 = .ok (.iconst 1, 1) := by decide +kernel
theorem d_141_614 : decode code 614 = .ok (.iadd, 1) := by decide +kernel
theorem d_141_615 : decode code 615 = .ok (.iaload, 1) := by decide +kernel
theorem d_141_616 : decode code 616 = .ok (.aload_n 0, 1) := by decide +kernel
theorem d_141_617 : decode code 617 = .ok (.iload_n 3, 1) := by decide +kernel
theorem d_141_618 : decode code 618 = .ok (.iconst 2, 1) := by decide +kernel
theorem d_141_619 : decode code 619 = .ok (.iadd, 1) := by decide +kernel
theorem d_141_620 : decode code 620 = .ok (.iaload, 1) := by decide +kernel
theorem d_141_621 : decode code 621 = .ok (.invokevirtual 89, 3) := by decide +kernel
theorem d_141_624 : decode code 624 = .ok (.if_icmp .eq 88, 3) := by decide +kernel
theorem d_141_627 : decode code 627 = .ok (.iconst 0, 1) := by decide +kernel
theorem d_141_628 : decode code 628 = .ok (.ireturn, 1) := by decide +kernel
theorem d_141_629 : decode code 629 = .ok (.aload_n 1, 1) := by decide +kernel
theorem d_141_630 : decode code 630 = .ok (.aload_n 0, 1) := by decide +kernel
theorem d_141_631 : decode code 631 = .ok (.iload_n 3, 1) := by decide +kernel
theorem d_141_632 : decode code 632 = .ok (.iconst 1, 1) := by decide +kernel
theorem d_141_633 : decode code 633 = .ok (.iadd, 1) := by decide +kernel
theorem d_141_634 : decode code 634 = .ok (.iaload, 1) := by decide +kernel
theorem d_141_635 : decode code 635 = .ok (.aload_n 0, 1) := by decide +kernel
theorem d_141_636 : decode code 636 = .ok (.iload_n 3, 1) := by decide +kernel
theorem d_141_637 : decode code 637 = .ok (.iconst 2, 1) := by decide +kernel
theorem d_141_638 : decode code 638 = .ok (.iadd, 1) := by decide +kernel
theorem d_141_639 : decode code 639 = .ok (.iaload, 1) := by decide +kernel
theorem d_141_640 : decode code 640 = .ok (.invokevirtual 90, 3) := by decide +kernel
theorem d_141_643 : decode code 643 = .ok (.aload_n 2, 1) := by decide +kernel
theorem d_141_644 : decode code 644 = .ok (.aload_n 0, 1) := by decide +kernel
theorem d_141_645 : decode code 645 = .ok (.iload_n 3, 1) := by decide +kernel
theorem d_141_646 : decode code 646 = .ok (.iconst 1, 1) := by decide +kernel
theorem d_141_647 : decode code 647 = .ok (.iadd, 1) := by decide +kernel
theorem d_141_648 : decode code 648 = .ok (.iaload, 1) := by decide +kernel
theorem d_141_649 : decode code 649 = .ok (.aload_n 0, 1) := by decide +kernel
theorem d_141_650 : decode code 650 = .ok (.iload_n 3, 1) := by decide +kernel
theorem d_141_651 : decode code 651 = .ok (.iconst 2, 1) := by decide +kernel
theorem d_141_652 : decode code 652 = .ok (.iadd, 1) := by decide +kernel
theorem d_141_653 : decode code 653 = .ok (.iaload, 1) := by decide +kernel
theorem d_141_654 : decode code 654 = .ok (.invokevirtual 93, 3) := by decide +kernel
theorem d_141_657 : decode code 657 = .ok (.if_icmp .eq 55, 3) := by decide +kernel
theorem d_141_660 : decode code 660 = .ok (.iconst 0, 1) := by decide +kernel
theorem d_141_661 : decode code 661 = .ok (.ireturn, 1) := by decide +kernel
theorem d_141_662 : decode code 662 = .ok (.aload_n 1, 1) := by decide +kernel
theorem d_141_663 : decode code 663 = .ok (.invokevirtual 94, 3) := by decide +kernel
theorem d_141_666 : decode code 666 = .ok (.aload_n 2, 1) := by decide +kernel
theorem d_141_667 : decode code 667 = .ok (.invokevirtual 97, 3) := by decide +kernel
theorem d_141_670 : decode code 670 = .ok (.if_icmp .eq 42, 3) := by decide +kernel
theorem d_141_673 : decode code 673 = .ok (.iconst 0, 1) := by decide +kernel
theorem d_141_674 : decode code 674 = .ok (.ireturn, 1) := by decide +kernel
theorem d_141_675 : decode code 675 = .ok (.aload_n 1, 1) := by decide +kernel
theorem d_141_676 : decode code 676 = .ok (.invokevirtual 98, 3) := by decide +kernel
theorem d_141_679 : decode code 679 = .ok (.aload_n 2, 1) := by decide +kernel
theorem d_141_680 : decode code 680 = .ok (.invokevirtual 101, 3) := by decide +kernel
theorem d_141_683 : decode code 683 = .ok (.if_icmp .eq 29, 3) := by decide +kernel
theorem d_141_686 : decode code 686 = .ok (.iconst 0, 1) := by decide +kernel
theorem d_141_687 : decode code 687 = .ok (.ireturn, 1) := by decide +kernel
theorem d_141_688 : decode code 688 = .ok (.aload_n 1, 1) := by decide +kernel
theorem d_141_689 : decode code 689 = .ok (.aload_n 0, 1) := by decide +kernel
theorem d_141_690 : decode code 690 = .ok (.iload_n 3, 1) := by decide +kernel
theorem d_141_691 : decode code 691 = .ok (.iconst 1, 1) := by decide +kernel
theorem d_141_692 : decode code 692 = .ok (.iadd, 1) := by decide +kernel
theorem d_141_693 : decode code 693 = .ok (.iaload, 1) := by decide +kernel
theorem d_141_694 : decode code 694 = .ok (.invokevirtual 102, 3) := by decide +kernel
theorem d_141_697 : decode code 697 = .ok (.aload_n 2, 1) := by decide +kernel
theorem d_141_698 : decode code 698 = .ok (.aload_n 0, 1) := by decide +kernel
theorem d_141_699 : decode code 699 = .ok (.iload_n 3, 1) := by decide +kernel
theorem d_141_700 : decode code 700 = .ok (.iconst 1, 1) := by decide +kernel
theorem d_141_701 : decode code 701 = .ok (.iadd, 1) := by decide +kernel
theorem d_141_702 : decode code 702 = .ok (.iaload, 1) := by decide +kernel
theorem d_141_703 : decode code 703 = .ok (.invokevirtual 106, 3) := by decide +kernel
theorem d_141_706 : decode code 706 = .ok (.lcmp, 1) := by decide +kernel
theorem d_141_707 : decode code 707 = .ok (.ifCond .eq 5, 3) := by decide +kernel
theorem d_141_710 : decode code 710 = .ok (.iconst 0, 1) := by decide +kernel
theorem d_141_711 : decode code 711 = .ok (.ireturn, 1) := by decide +kernel
theorem d_141_712 : decode code 712 = .ok (.iinc 3 6, 3) := by decide +kernel
theorem d_141_715 : decode code 715 = .ok (.goto (-677), 3) := by decide +kernel
theorem d_141_718 : decode code 718 = .ok (.iconst 1, 1) := by decide +kernel
theorem d_141_719 : decode code 719 = .ok (.ireturn, 1) := by decide +kernel
