theorem d_La_law_220 : decode code 220 = .ok (.iload 4, 2) := by decide +kernel
theorem d_La_law_222 : decode code 222 = .ok (.iconst 4, 1) := by decide +kernel
theorem d_La_law_223 : decode code 223 = .ok (.iadd, 1) := by decide +kernel
theorem d_La_law_224 : decode code 224 = .ok (.iaload, 1) := by decide +kernel
theorem d_La_law_225 : decode code 225 = .ok (.invokestatic 68, 3) := by decide +kernel
theorem d_La_law_228 : decode code 228 = .ok (.istore 5, 2) := by decide +kernel
theorem d_La_law_230 : decode code 230 = .ok (.aload_n 2, 1) := by decide +kernel
theorem d_La_law_231 : decode code 231 = .ok (.aload_n 0, 1) := by decide +kernel
theorem d_La_law_232 : decode code 232 = .ok (.iload 4, 2) := by decide +kernel
theorem d_La_law_234 : decode code 234 = .ok (.iconst 1, 1) := by decide +kernel
theorem d_La_law_235 : decode code 235 = .ok (.iadd, 1) := by decide +kernel
theorem d_La_law_236 : decode code 236 = .ok (.iaload, 1) := by decide +kernel
theorem d_La_law_237 : decode code 237 = .ok (.aload_n 0, 1) := by decide +kernel
theorem d_La_law_238 : decode code 238 = .ok (.iload 4, 2) := by decide +kernel
theorem d_La_law_240 : decode code 240 = .ok (.iconst 2, 1) := by decide +kernel
theorem d_La_law_241 : decode code 241 = .ok (.iadd, 1) := by decide +kernel
theorem d_La_law_242 : decode code 242 = .ok (.iaload, 1) := by decide +kernel
theorem d_La_law_243 : decode code 243 = .ok (.aload_n 0, 1) := by decide +kernel
theorem d_La_law_244 : decode code 244 = .ok (.iload 4, 2) := by decide +kernel
theorem d_La_law_246 : decode code 246 = .ok (.iconst 3, 1) := by decide +kernel
theorem d_La_law_247 : decode code 247 = .ok (.iadd, 1) := by decide +kernel
theorem d_La_law_248 : decode code 248 = .ok (.iaload, 1) := by decide +kernel
theorem d_La_law_249 : decode code 249 = .ok (.aload_n 0, 1) := by decide +kernel
theorem d_La_law_250 : decode code 250 = .ok (.iload 4, 2) := by decide +kernel
theorem d_La_law_252 : decode code 252 = .ok (.iconst 4, 1) := by decide +kernel
theorem d_La_law_253 : decode code 253 = .ok (.iadd, 1) := by decide +kernel
theorem d_La_law_254 : decode code 254 = .ok (.iaload, 1) := by decide +kernel
theorem d_La_law_255 : decode code 255 = .ok (.invokevirtual 71, 3) := by decide +kernel
theorem d_La_law_258 : decode code 258 = .ok (.goto 408, 3) := by decide +kernel
theorem d_La_law_261 : decode code 261 = .ok (.aload_n 1, 1) := by decide +kernel
theorem d_La_law_262 : decode code 262 = .ok (.aload_n 0, 1) := by decide +kernel
theorem d_La_law_263 : decode code 263 = .ok (.iload 4, 2) := by decide +kernel
theorem d_La_law_265 : decode code 265 = .ok (.iconst 1, 1) := by decide +kernel
theorem d_La_law_266 : decode code 266 = .ok (.iadd, 1) := by decide +kernel
theorem d_La_law_267 : decode code 267 = .ok (.iaload, 1) := by decide +kernel
theorem d_La_law_268 : decode code 268 = .ok (.aload_n 0, 1) := by decide +kernel
theorem d_La_law_269 : decode code 269 = .ok (.iload 4, 2) := by decide +kernel
theorem d_La_law_271 : decode code 271 = .ok (.iconst 2, 1) := by decide +kernel
theorem d_La_law_272 : decode code 272 = .ok (.iadd, 1) := by decide +kernel
theorem d_La_law_273 : decode code 273 = .ok (.iaload, 1) := by decide +kernel
theorem d_La_law_274 : decode code 274 = .ok (.aload_n 0, 1) := by decide +kernel
theorem d_La_law_275 : decode code 275 = .ok (.iload 4, 2) := by decide +kernel
theorem d_La_law_277 : decode code 277 = .ok (.iconst 3, 1) := by decide +kernel
theorem d_La_law_278 : decode code 278 = .ok (.iadd, 1) := by decide +kernel
theorem d_La_law_279 : decode code 279 = .ok (.iaload, 1) := by decide +kernel
theorem d_La_law_280 : decode code 280 = .ok (.aload_n 3, 1) := by decide +kernel
theorem d_La_law_281 : decode code 281 = .ok (.invokestatic 72, 3) := by decide +kernel
theorem d_La_law_284 : decode code 284 = .ok (.istore 5, 2) := by decide +kernel
theorem d_La_law_286 : decode code 286 = .ok (.aload_n 2, 1) := by decide +kernel
theorem d_La_law_287 : decode code 287 = .ok (.aload_n 0, 1) := by decide +kernel
theorem d_La_law_288 : decode code 288 = .ok (.iload 4, 2) := by decide +kernel
theorem d_La_law_290 : decode code 290 = .ok (.iconst 1, 1) := by decide +kernel
theorem d_La_law_291 : decode code 291 = .ok (.iadd, 1) := by decide +kernel
theorem d_La_law_292 : decode code 292 = .ok (.iaload, 1) := by decide +kernel
theorem d_La_law_293 : decode code 293 = .ok (.aload_n 0, 1) := by decide +kernel
theorem d_La_law_294 : decode code 294 = .ok (.iload 4, 2) := by decide +kernel
theorem d_La_law_296 : decode code 296 = .ok (.iconst 2, 1) := by decide +kernel
theorem d_La_law_297 : decode code 297 = .ok (.iadd, 1) := by decide +kernel
theorem d_La_law_298 : decode code 298 = .ok (.iaload, 1) := by decide +kernel
theorem d_La_law_299 : decode code 299 = .ok (.aload_n 0, 1) := by decide +kernel
theorem d_La_law_300 : decode code 300 = .ok (.iload 4, 2) := by decide +kernel
theorem d_La_law_302 : decode code 302 = .ok (.iconst 3, 1) := by decide +kernel
theorem d_La_law_303 : decode code 303 = .ok (.iadd, 1) := by decide +kernel
theorem d_La_law_304 : decode code 304 = .ok (.iaload, 1) := by decide +kernel
theorem d_La_law_305 : decode code 305 = .ok (.invokevirtual 75, 3) := by decide +kernel
theorem d_La_law_308 : decode code 308 = .ok (.istore 6, 2) := by decide +kernel
theorem d_La_law_310 : decode code 310 = .ok (.goto 356, 3) := by decide +kernel
theorem d_La_law_313 : decode code 313 = .ok (.aload_n 1, 1) := by decide +kernel
theorem d_La_law_314 : decode code 314 = .ok (.aload_n 0, 1) := by decide +kernel
theorem d_La_law_315 : decode code 315 = .ok (.iload 4, 2) := by decide +kernel
theorem d_La_law_317 : decode code 317 = .ok (.iconst 1, 1) := by decide +kernel
theorem d_La_law_318 : decode code 318 = .ok (.iadd, 1) := by decide +kernel
theorem d_La_law_319 : decode code 319 = .ok (.iaload, 1) := by decide +kernel
theorem d_La_law_320 : decode code 320 = .ok (.aload_n 0, 1) := by decide +kernel
theorem d_La_law_321 : decode code 321 = .ok (.iload 4, 2) := by decide +kernel
theorem d_La_law_323 : decode code 323 = .ok (.iconst 2, 1) := by decide +kernel
theorem d_La_law_324 : decode code 324 = .ok (.iadd, 1) := by decide +kernel
theorem d_La_law_325 : decode code 325 = .ok (.iaload, 1) := by decide +kernel
theorem d_La_law_326 : decode code 326 = .ok (.aload_n 0, 1) := by decide +kernel
theorem d_La_law_327 : decode code 327 = .ok (.iload 4, 2) := by decide +kernel
theorem d_La_law_329 : decode code 329 = .ok (.iconst 3, 1) := by decide +kernel
theorem d_La_law_330 : decode code 330 = .ok (.iadd, 1) := by decide +kernel
theorem d_La_law_331 : decode code 331 = .ok (.iaload, 1) := by decide +kernel
theorem d_La_law_332 : decode code 332 = .ok (.aload_n 0, 1) := by decide +kernel
theorem d_La_law_333 : decode code 333 = .ok (.iload 4, 2) := by decide +kernel
theorem d_La_law_335 : decode code 335 = .ok (.iconst 4, 1) := by decide +kernel
theorem d_La_law_336 : decode code 336 = .ok (.iadd, 1) := by decide +kernel
theorem d_La_law_337 : decode code 337 = .ok (.iaload, 1) := by decide +kernel
theorem d_La_law_338 : decode code 338 = .ok (.aload_n 3, 1) := by decide +kernel
theorem d_La_law_339 : decode code 339 = .ok (.invokestatic 76, 3) := by decide +kernel
theorem d_La_law_342 : decode code 342 = .ok (.istore 5, 2) := by decide +kernel
theorem d_La_law_344 : decode code 344 = .ok (.aload_n 2, 1) := by decide +kernel
theorem d_La_law_345 : decode code 345 = .ok (.aload_n 0, 1) := by decide +kernel
theorem d_La_law_346 : decode code 346 = .ok (.iload 4, 2) := by decide +kernel
theorem d_La_law_348 : decode code 348 = .ok (.iconst 1, 1) := by decide +kernel
theorem d_La_law_349 : decode code 349 = .ok (.iadd, 1) := by decide +kernel
theorem d_La_law_350 : decode code 350 = .ok (.iaload, 1) := by decide +kernel
theorem d_La_law_351 : decode code 351 = .ok (.aload_n 0, 1) := by decide +kernel
theorem d_La_law_352 : decode code 352 = .ok (.iload 4, 2) := by decide +kernel
theorem d_La_law_354 : decode code 354 = .ok (.iconst 2, 1) := by decide +kernel
theorem d_La_law_355 : decode code 355 = .ok (.iadd, 1) := by decide +kernel
theorem d_La_law_356 : decode code 356 = .ok (.iaload, 1) := by decide +kernel
theorem d_La_law_357 : decode code 357 = .ok (.aload_n 0, 1) := by decide +kernel
theorem d_La_law_358 : decode code 358 = .ok (.iload 4, 2) := by decide +kernel
theorem d_La_law_360 : decode code 360 = .ok (.iconst 3, 1) := by decide +kernel
theorem d_La_law_361 : decode code 361 = .ok (.iadd, 1) := by decide +kernel
theorem d_La_law_362 : decode code 362 = .ok (.iaload, 1) := by decide +kernel
theorem d_La_law_363 : decode code 363 = .ok (.aload_n 0, 1) := by decide +kernel
theorem d_La_law_364 : decode code 364 = .ok (.iload 4, 2) := by decide +kernel
theorem d_La_law_366 : decode code 366 = .ok (.iconst 4, 1) := by decide +kernel
