theorem d_La_law_230 : decode code 230 = .ok (.iconst 0, 1) := by decide +kernel
theorem d_La_law_231 : decode code 231 = .ok (.ireturn, 1) := by decide +kernel
theorem d_La_law_232 : decode code 232 = .ok (.goto 690, 3) := by decide +kernel
theorem d_La_law_235 : decode code 235 = .ok (.aload_n 1, 1) := by decide +kernel
theorem d_La_law_236 : decode code 236 = .ok (.aload_n 0, 1) := by decide +kernel
theorem d_La_law_237 : decode code 237 = .ok (.iload 4, 2) := by decide +kernel
theorem d_La_law_239 : decode code 239 = .ok (.iconst 1, 1) := by decide +kernel
theorem d_La_law_240 : decode code 240 = .ok (.iadd, 1) := by decide +kernel
theorem d_La_law_241 : decode code 241 = .ok (.iaload, 1) := by decide +kernel
theorem d_La_law_242 : decode code 242 = .ok (.aload_n 0, 1) := by decide +kernel
theorem d_La_law_243 : decode code 243 = .ok (.iload 4, 2) := by decide +kernel
theorem d_La_law_245 : decode code 245 = .ok (.iconst 2, 1) := by decide +kernel
theorem d_La_law_246 : decode code 246 = .ok (.iadd, 1) := by decide +kernel
theorem d_La_law_247 : decode code 247 = .ok (.iaload, 1) := by decide +kernel
theorem d_La_law_248 : decode code 248 = .ok (.aload_n 0, 1) := by decide +kernel
theorem d_La_law_249 : decode code 249 = .ok (.iload 4, 2) := by decide +kernel
theorem d_La_law_251 : decode code 251 = .ok (.iconst 3, 1) := by decide +kernel
theorem d_La_law_252 : decode code 252 = .ok (.iadd, 1) := by decide +kernel
theorem d_La_law_253 : decode code 253 = .ok (.iaload, 1) := by decide +kernel
theorem d_La_law_254 : decode code 254 = .ok (.aload_n 0, 1) := by decide +kernel
theorem d_La_law_255 : decode code 255 = .ok (.iload 4, 2) := by decide +kernel
theorem d_La_law_257 : decode code 257 = .ok (.iconst 4, 1) := by decide +kernel
theorem d_La_law_258 : decode code 258 = .ok (.iadd, 1) := by decide +kernel
theorem d_La_law_259 : decode code 259 = .ok (.iaload, 1) := by decide +kernel
theorem d_La_law_260 : decode code 260 = .ok (.invokestatic 72, 3) := by decide +kernel
theorem d_La_law_263 : decode code 263 = .ok (.istore 5, 2) := by decide +kernel
theorem d_La_law_265 : decode code 265 = .ok (.aload_n 2, 1) := by decide +kernel
theorem d_La_law_266 : decode code 266 = .ok (.aload_n 0, 1) := by decide +kernel
theorem d_La_law_267 : decode code 267 = .ok (.iload 4, 2) := by decide +kernel
theorem d_La_law_269 : decode code 269 = .ok (.iconst 1, 1) := by decide +kernel
theorem d_La_law_270 : decode code 270 = .ok (.iadd, 1) := by decide +kernel
theorem d_La_law_271 : decode code 271 = .ok (.iaload, 1) := by decide +kernel
theorem d_La_law_272 : decode code 272 = .ok (.aload_n 0, 1) := by decide +kernel
theorem d_La_law_273 : decode code 273 = .ok (.iload 4, 2) := by decide +kernel
theorem d_La_law_275 : decode code 275 = .ok (.iconst 2, 1) := by decide +kernel
theorem d_La_law_276 : decode code 276 = .ok (.iadd, 1) := by decide +kernel
theorem d_La_law_277 : decode code 277 = .ok (.iaload, 1) := by decide +kernel
theorem d_La_law_278 : decode code 278 = .ok (.aload_n 0, 1) := by decide +kernel
theorem d_La_law_279 : decode code 279 = .ok (.iload 4, 2) := by decide +kernel
theorem d_La_law_281 : decode code 281 = .ok (.iconst 3, 1) := by decide +kernel
theorem d_La_law_282 : decode code 282 = .ok (.iadd, 1) := by decide +kernel
theorem d_La_law_283 : decode code 283 = .ok (.iaload, 1) := by decide +kernel
theorem d_La_law_284 : decode code 284 = .ok (.aload_n 0, 1) := by decide +kernel
theorem d_La_law_285 : decode code 285 = .ok (.iload 4, 2) := by decide +kernel
theorem d_La_law_287 : decode code 287 = .ok (.iconst 4, 1) := by decide +kernel
theorem d_La_law_288 : decode code 288 = .ok (.iadd, 1) := by decide +kernel
theorem d_La_law_289 : decode code 289 = .ok (.iaload, 1) := by decide +kernel
theorem d_La_law_290 : decode code 290 = .ok (.invokevirtual 75, 3) := by decide +kernel
theorem d_La_law_293 : decode code 293 = .ok (.aload_n 2, 1) := by decide +kernel
theorem d_La_law_294 : decode code 294 = .ok (.invokevirtual 68, 3) := by decide +kernel
theorem d_La_law_297 : decode code 297 = .ok (.iload 5, 2) := by decide +kernel
theorem d_La_law_299 : decode code 299 = .ok (.if_icmp .eq 5, 3) := by decide +kernel
theorem d_La_law_302 : decode code 302 = .ok (.iconst 0, 1) := by decide +kernel
theorem d_La_law_303 : decode code 303 = .ok (.ireturn, 1) := by decide +kernel
theorem d_La_law_304 : decode code 304 = .ok (.goto 618, 3) := by decide +kernel
theorem d_La_law_307 : decode code 307 = .ok (.aload_n 1, 1) := by decide +kernel
theorem d_La_law_308 : decode code 308 = .ok (.aload_n 0, 1) := by decide +kernel
theorem d_La_law_309 : decode code 309 = .ok (.iload 4, 2) := by decide +kernel
theorem d_La_law_311 : decode code 311 = .ok (.iconst 1, 1) := by decide +kernel
theorem d_La_law_312 : decode code 312 = .ok (.iadd, 1) := by decide +kernel
theorem d_La_law_313 : decode code 313 = .ok (.iaload, 1) := by decide +kernel
theorem d_La_law_314 : decode code 314 = .ok (.aload_n 0, 1) := by decide +kernel
theorem d_La_law_315 : decode code 315 = .ok (.iload 4, 2) := by decide +kernel
theorem d_La_law_317 : decode code 317 = .ok (.iconst 2, 1) := by decide +kernel
theorem d_La_law_318 : decode code 318 = .ok (.iadd, 1) := by decide +kernel
theorem d_La_law_319 : decode code 319 = .ok (.iaload, 1) := by decide +kernel
theorem d_La_law_320 : decode code 320 = .ok (.aload_n 0, 1) := by decide +kernel
theorem d_La_law_321 : decode code 321 = .ok (.iload 4, 2) := by decide +kernel
theorem d_La_law_323 : decode code 323 = .ok (.iconst 3, 1) := by decide +kernel
theorem d_La_law_324 : decode code 324 = .ok (.iadd, 1) := by decide +kernel
theorem d_La_law_325 : decode code 325 = .ok (.iaload, 1) := by decide +kernel
theorem d_La_law_326 : decode code 326 = .ok (.aload_n 3, 1) := by decide +kernel
theorem d_La_law_327 : decode code 327 = .ok (.invokestatic 76, 3) := by decide +kernel
theorem d_La_law_330 : decode code 330 = .ok (.istore 5, 2) := by decide +kernel
theorem d_La_law_332 : decode code 332 = .ok (.aload_n 2, 1) := by decide +kernel
theorem d_La_law_333 : decode code 333 = .ok (.aload_n 0, 1) := by decide +kernel
theorem d_La_law_334 : decode code 334 = .ok (.iload 4, 2) := by decide +kernel
theorem d_La_law_336 : decode code 336 = .ok (.iconst 1, 1) := by decide +kernel
theorem d_La_law_337 : decode code 337 = .ok (.iadd, 1) := by decide +kernel
theorem d_La_law_338 : decode code 338 = .ok (.iaload, 1) := by decide +kernel
theorem d_La_law_339 : decode code 339 = .ok (.aload_n 0, 1) := by decide +kernel
theorem d_La_law_340 : decode code 340 = .ok (.iload 4, 2) := by decide +kernel
theorem d_La_law_342 : decode code 342 = .ok (.iconst 2, 1) := by decide +kernel
theorem d_La_law_343 : decode code 343 = .ok (.iadd, 1) := by decide +kernel
theorem d_La_law_344 : decode code 344 = .ok (.iaload, 1) := by decide +kernel
theorem d_La_law_345 : decode code 345 = .ok (.aload_n 0, 1) := by decide +kernel
theorem d_La_law_346 : decode code 346 = .ok (.iload 4, 2) := by decide +kernel
theorem d_La_law_348 : decode code 348 = .ok (.iconst 3, 1) := by decide +kernel
theorem d_La_law_349 : decode code 349 = .ok (.iadd, 1) := by decide +kernel
theorem d_La_law_350 : decode code 350 = .ok (.iaload, 1) := by decide +kernel
theorem d_La_law_351 : decode code 351 = .ok (.invokevirtual 79, 3) := by decide +kernel
theorem d_La_law_354 : decode code 354 = .ok (.istore 6, 2) := by decide +kernel
theorem d_La_law_356 : decode code 356 = .ok (.aload_n 2, 1) := by decide +kernel
theorem d_La_law_357 : decode code 357 = .ok (.invokevirtual 68, 3) := by decide +kernel
theorem d_La_law_360 : decode code 360 = .ok (.iload 5, 2) := by decide +kernel
theorem d_La_law_362 : decode code 362 = .ok (.if_icmp .eq 5, 3) := by decide +kernel
theorem d_La_law_365 : decode code 365 = .ok (.iconst 0, 1) := by decide +kernel
theorem d_La_law_366 : decode code 366 = .ok (.ireturn, 1) := by decide +kernel
theorem d_La_law_367 : decode code 367 = .ok (.iload 5, 2) := by decide +kernel
theorem d_La_law_369 : decode code 369 = .ok (.ifCond .ne 22, 3) := by decide +kernel
theorem d_La_law_372 : decode code 372 = .ok (.aload_n 3, 1) := by decide +kernel
theorem d_La_law_373 : decode code 373 = .ok (.iconst 0, 1) := by decide +kernel
theorem d_La_law_374 : decode code 374 = .ok (.laload, 1) := by decide +kernel
theorem d_La_law_375 : decode code 375 = .ok (.iload 6, 2) := by decide +kernel
theorem d_La_law_377 : decode code 377 = .ok (.ifCond .eq 7, 3) := by decide +kernel
theorem d_La_law_380 : decode code 380 = .ok (.lconst 1, 1) := by decide +kernel
theorem d_La_law_381 : decode code 381 = .ok (.goto 4, 3) := by decide +kernel
theorem d_La_law_384 : decode code 384 = .ok (.lconst 0, 1) := by decide +kernel
theorem d_La_law_385 : decode code 385 = .ok (.lcmp, 1) := by decide +kernel
theorem d_La_law_386 : decode code 386 = .ok (.ifCond .eq 5, 3) := by decide +kernel
