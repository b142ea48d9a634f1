theorem d_La_law_220 : decode code 220 = .ok (.iload 4, 2) := by decide +kernel
theorem d_La_law_222 : decode code 222 = .ok (.iconst 4, 1) := by decide +kernel
theorem d_La_law_223 : decode code 223 = .ok (.iadd, 1) := by decide +kernel
theorem d_La_law_224 : decode code 224 = .ok (.iaload, 1) := by decide +kernel
theorem d_La_law_225 : decode code 225 = .ok (.invokestatic 68, 3) := by decide +kernel
theorem d_La_law_228 : decode code 228 = .ok (.istore 5, 2) := by decide +kernel
theorem d_La_law_230 : decode code 230 = .ok (.aload_n 2, 1) := by decide +kernel
theorem d_La_law_231 : decode code 231 = .ok (.aload_n 0, 1) := by decide +kernel
theorem d_La_law_232 : decode code 232 = .ok (.iload 4, 2) := by decide +kernel
theorem d_La_law_234 : decode code 234 = .ok (.iconst 1, 1) := by decide +kernel
theorem d_La_law_235 : decode code 235 = .ok (.iadd, 1) := by decide +kernel
theorem d_La_law_236 : decode code 236 = .ok (.iaload, 1) := by decide +kernel
theorem d_La_law_237 : decode code 237 = .ok (.aload_n 0, 1) := by decide +kernel
theorem d_La_law_238 : decode code 238 = .ok (.iload 4, 2) := by decide +kernel
theorem d_La_law_240 : decode code 240 = .ok (.iconst 2, 1) := by decide +kernel
theorem d_La_law_241 : decode code 241 = .ok (.iadd, 1) := by decide +kernel
theorem d_La_law_242 : decode code 242 = .ok (.iaload, 1) := by decide +kernel
theorem d_La_law_243 : decode code 243 = .ok (.aload_n 0, 1) := by decide +kernel
theorem d_La_law_244 : decode code 244 = .ok (.iload 4, 2) := by decide +kernel
theorem d_La_law_246 : decode code 246 = .ok (.iconst 3, 1) := by decide +kernel
theorem d_La_law_247 : decode code 247 = .ok (.iadd, 1) := by decide +kernel
theorem d_La_law_248 : decode code 248 = .ok (.iaload, 1) := by decide +kernel
theorem d_La_law_249 : decode code 249 = .ok (.aload_n 0, 1) := by decide +kernel
theorem d_La_law_250 : decode code 250 = .ok (.iload 4, 2) := by decide +kernel
theorem d_La_law_252 : decode code 252 = .ok (.iconst 4, 1) := by decide +kernel
theorem d_La_law_253 : decode code 253 = .ok (.iadd, 1) := by decide +kernel
theorem d_La_law_254 : decode code 254 = .ok (.iaload, 1) := by decide +kernel
theorem d_La_law_255 : decode code 255 = .ok (.invokevirtual 71, 3) := by decide +kernel
theorem d_La_law_258 : decode code 258 = .ok (.aload_n 2, 1) := by decide +kernel
theorem d_La_law_259 : decode code 259 = .ok (.invokevirtual 72, 3) := by decide +kernel
theorem d_La_law_262 : decode code 262 = .ok (.iload 5, 2) := by decide +kernel
theorem d_La_law_264 : decode code 264 = .ok (.if_icmp .eq 5, 3) := by decide +kernel
theorem d_La_law_267 : decode code 267 = .ok (.iconst 0, 1) := by decide +kernel
theorem d_La_law_268 : decode code 268 = .ok (.ireturn, 1) := by decide +kernel
theorem d_La_law_269 : decode code 269 = .ok (.goto 373, 3) := by decide +kernel
theorem d_La_law_272 : decode code 272 = .ok (.aload_n 1, 1) := by decide +kernel
theorem d_La_law_273 : decode code 273 = .ok (.aload_n 0, 1) := by decide +kernel
theorem d_La_law_274 : decode code 274 = .ok (.iload 4, 2) := by decide +kernel
theorem d_La_law_276 : decode code 276 = .ok (.iconst 1, 1) := by decide +kernel
theorem d_La_law_277 : decode code 277 = .ok (.iadd, 1) := by decide +kernel
theorem d_La_law_278 : decode code 278 = .ok (.iaload, 1) := by decide +kernel
theorem d_La_law_279 : decode code 279 = .ok (.aload_n 0, 1) := by decide +kernel
theorem d_La_law_280 : decode code 280 = .ok (.iload 4, 2) := by decide +kernel
theorem d_La_law_282 : decode code 282 = .ok (.iconst 2, 1) := by decide +kernel
theorem d_La_law_283 : decode code 283 = .ok (.iadd, 1) := by decide +kernel
theorem d_La_law_284 : decode code 284 = .ok (.iaload, 1) := by decide +kernel
theorem d_La_law_285 : decode code 285 = .ok (.aload_n 0, 1) := by decide +kernel
theorem d_La_law_286 : decode code 286 = .ok (.iload 4, 2) := by decide +kernel
theorem d_La_law_288 : decode code 288 = .ok (.iconst 3, 1) := by decide +kernel
theorem d_La_law_289 : decode code 289 = .ok (.iadd, 1) := by decide +kernel
theorem d_La_law_290 : decode code 290 = .ok (.iaload, 1) := by decide +kernel
theorem d_La_law_291 : decode code 291 = .ok (.aload_n 3, 1) := by decide +kernel
theorem d_La_law_292 : decode code 292 = .ok (.invokestatic 76, 3) := by decide +kernel
theorem d_La_law_295 : decode code 295 = .ok (.istore 5, 2) := by decide +kernel
theorem d_La_law_297 : decode code 297 = .ok (.aload_n 2, 1) := by decide +kernel
theorem d_La_law_298 : decode code 298 = .ok (.aload_n 0, 1) := by decide +kernel
theorem d_La_law_299 : decode code 299 = .ok (.iload 4, 2) := by decide +kernel
theorem d_La_law_301 : decode code 301 = .ok (.iconst 1, 1) := by decide +kernel
theorem d_La_law_302 : decode code 302 = .ok (.iadd, 1) := by decide +kernel
theorem d_La_law_303 : decode code 303 = .ok (.iaload, 1) := by decide +kernel
theorem d_La_law_304 : decode code 304 = .ok (.aload_n 0, 1) := by decide +kernel
theorem d_La_law_305 : decode code 305 = .ok (.iload 4, 2) := by decide +kernel
theorem d_La_law_307 : decode code 307 = .ok (.iconst 2, 1) := by decide +kernel
theorem d_La_law_308 : decode code 308 = .ok (.iadd, 1) := by decide +kernel
theorem d_La_law_309 : decode code 309 = .ok (.iaload, 1) := by decide +kernel
theorem d_La_law_310 : decode code 310 = .ok (.aload_n 0, 1) := by decide +kernel
theorem d_La_law_311 : decode code 311 = .ok (.iload 4, 2) := by decide +kernel
theorem d_La_law_313 : decode code 313 = .ok (.iconst 3, 1) := by decide +kernel
theorem d_La_law_314 : decode code 314 = .ok (.iadd, 1) := by decide +kernel
theorem d_La_law_315 : decode code 315 = .ok (.iaload, 1) := by decide +kernel
theorem d_La_law_316 : decode code 316 = .ok (.invokevirtual 79, 3) := by decide +kernel
theorem d_La_law_319 : decode code 319 = .ok (.istore 6, 2) := by decide +kernel
theorem d_La_law_321 : decode code 321 = .ok (.goto 321, 3) := by decide +kernel
theorem d_La_law_324 : decode code 324 = .ok (.aload_n 1, 1) := by decide +kernel
theorem d_La_law_325 : decode code 325 = .ok (.aload_n 0, 1) := by decide +kernel
theorem d_La_law_326 : decode code 326 = .ok (.iload 4, 2) := by decide +kernel
theorem d_La_law_328 : decode code 328 = .ok (.iconst 1, 1) := by decide +kernel
theorem d_La_law_329 : decode code 329 = .ok (.iadd, 1) := by decide +kernel
theorem d_La_law_330 : decode code 330 = .ok (.iaload, 1) := by decide +kernel
theorem d_La_law_331 : decode code 331 = .ok (.aload_n 0, 1) := by decide +kernel
theorem d_La_law_332 : decode code 332 = .ok (.iload 4, 2) := by decide +kernel
theorem d_La_law_334 : decode code 334 = .ok (.iconst 2, 1) := by decide +kernel
theorem d_La_law_335 : decode code 335 = .ok (.iadd, 1) := by decide +kernel
theorem d_La_law_336 : decode code 336 = .ok (.iaload, 1) := by decide +kernel
theorem d_La_law_337 : decode code 337 = .ok (.aload_n 0, 1) := by decide +kernel
theorem d_La_law_338 : decode code 338 = .ok (.iload 4, 2) := by decide +kernel
theorem d_La_law_340 : decode code 340 = .ok (.iconst 3, 1) := by decide +kernel
theorem d_La_law_341 : decode code 341 = .ok (.iadd, 1) := by decide +kernel
theorem d_La_law_342 : decode code 342 = .ok (.iaload, 1) := by decide +kernel
theorem d_La_law_343 : decode code 343 = .ok (.aload_n 0, 1) := by decide +kernel
theorem d_La_law_344 : decode code 344 = .ok (.iload 4, 2) := by decide +kernel
theorem d_La_law_346 : decode code 346 = .ok (.iconst 4, 1) := by decide +kernel
theorem d_La_law_347 : decode code 347 = .ok (.iadd, 1) := by decide +kernel
theorem d_La_law_348 : decode code 348 = .ok (.iaload, 1) := by decide +kernel
theorem d_La_law_349 : decode code 349 = .ok (.aload_n 3, 1) := by decide +kernel
theorem d_La_law_350 : decode code 350 = .ok (.invokestatic 80, 3) := by decide +kernel
theorem d_La_law_353 : decode code 353 = .ok (.istore 5, 2) := by decide +kernel
theorem d_La_law_355 : decode code 355 = .ok (.aload_n 2, 1) := by decide +kernel
theorem d_La_law_356 : decode code 356 = .ok (.aload_n 0, 1) := by decide +kernel
theorem d_La_law_357 : decode code 357 = .ok (.iload 4, 2) := by decide +kernel
theorem d_La_law_359 : decode code 359 = .ok (.iconst 1, 1) := by decide +kernel
theorem d_La_law_360 : decode code 360 = .ok (.iadd, 1) := by decide +kernel
theorem d_La_law_361 : decode code 361 = .ok (.iaload, 1) := by decide +kernel
theorem d_La_law_362 : decode code 362 = .ok (.aload_n 0, 1) := by decide +kernel
theorem d_La_law_363 : decode code 363 = .ok (.iload 4, 2) := by decide +kernel
theorem d_La_law_365 : decode code 365 = .ok (.iconst 2, 1) := by decide +kernel
theorem d_La_law_366 : decode code 366 = .ok (.iadd, 1) := by decide +kernel
theorem d_La_law_367 : decode code 367 = .ok (.iaload, 1) := by decide +kernel
theorem d_La_law_368 : decode code 368 = .ok (.aload_n 0, 1) := by decide +kernel
theorem d_La_law_369 : decode code 369 = .ok (.iload 4, 2) := by decide +kernel
