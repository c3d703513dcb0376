theorem d_L_law_240 : decode code 240 = .ok (.aload_n 0, 1) := by decide +kernel
theorem d_L_law_241 : decode code 241 = .ok (.iload_n 3, 1) := by decide +kernel
theorem d_L_law_242 : decode code 242 = .ok (.iconst 1, 1) := by decide +kernel
theorem d_L_law_243 : decode code 243 = .ok (.iadd, 1) := by decide +kernel
theorem d_L_law_244 : decode code 244 = .ok (.iaload, 1) := by decide +kernel
theorem d_L_law_245 : decode code 245 = .ok (.aload_n 0, 1) := by decide +kernel
theorem d_L_law_246 : decode code 246 = .ok (.iload_n 3, 1) := by decide +kernel
theorem d_L_law_247 : decode code 247 = .ok (.iconst 2, 1) := by decide +kernel
theorem d_L_law_248 : decode code 248 = .ok (.iadd, 1) := by decide +kernel
theorem d_L_law_249 : decode code 249 = .ok (.iaload, 1) := by decide +kernel
theorem d_L_law_250 : decode code 250 = .ok (.aload_n 0, 1) := by decide +kernel
theorem d_L_law_251 : decode code 251 = .ok (.iload_n 3, 1) := by decide +kernel
theorem d_L_law_252 : decode code 252 = .ok (.iconst 3, 1) := by decide +kernel
theorem d_L_law_253 : decode code 253 = .ok (.iadd, 1) := by decide +kernel
theorem d_L_law_254 : decode code 254 = .ok (.iaload, 1) := by decide +kernel
theorem d_L_law_255 : decode code 255 = .ok (.aload_n 0, 1) := by decide +kernel
theorem d_L_law_256 : decode code 256 = .ok (.iload_n 3, 1) := by decide +kernel
theorem d_L_law_257 : decode code 257 = .ok (.iconst 4, 1) := by decide +kernel
theorem d_L_law_258 : decode code 258 = .ok (.iadd, 1) := by decide +kernel
theorem d_L_law_259 : decode code 259 = .ok (.iaload, 1) := by decide +kernel
theorem d_L_law_260 : decode code 260 = .ok (.invokevirtual 36, 3) := by decide +kernel
theorem d_L_law_263 : decode code 263 = .ok (.aload_n 2, 1) := by decide +kernel
theorem d_L_law_264 : decode code 264 = .ok (.aload_n 0, 1) := by decide +kernel
theorem d_L_law_265 : decode code 265 = .ok (.iload_n 3, 1) := by decide +kernel
theorem d_L_law_266 : decode code 266 = .ok (.iconst 1, 1) := by decide +kernel
theorem d_L_law_267 : decode code 267 = .ok (.iadd, 1) := by decide +kernel
theorem d_L_law_268 : decode code 268 = .ok (.iaload, 1) := by decide +kernel
theorem d_L_law_269 : decode code 269 = .ok (.aload_n 0, 1) := by decide +kernel
theorem d_L_law_270 : decode code 270 = .ok (.iload_n 3, 1) := by decide +kernel
theorem d_L_law_271 : decode code 271 = .ok (.iconst 2, 1) := by decide +kernel
theorem d_L_law_272 : decode code 272 = .ok (.iadd, 1) := by decide +kernel
theorem d_L_law_273 : decode code 273 = .ok (.iaload, 1) := by decide +kernel
theorem d_L_law_274 : decode code 274 = .ok (.aload_n 0, 1) := by decide +kernel
theorem d_L_law_275 : decode code 275 = .ok (.iload_n 3, 1) := by decide +kernel
theorem d_L_law_276 : decode code 276 = .ok (.iconst 3, 1) := by decide +kernel
theorem d_L_law_277 : decode code 277 = .ok (.iadd, 1) := by decide +kernel
theorem d_L_law_278 : decode code 278 = .ok (.iaload, 1) := by decide +kernel
theorem d_L_law_279 : decode code 279 = .ok (.aload_n 0, 1) := by decide +kernel
theorem d_L_law_280 : decode code 280 = .ok (.iload_n 3, 1) := by decide +kernel
theorem d_L_law_281 : decode code 281 = .ok (.iconst 4, 1) := by decide +kernel
theorem d_L_law_282 : decode code 282 = .ok (.iadd, 1) := by decide +kernel
theorem d_L_law_283 : decode code 283 = .ok (.iaload, 1) := by decide +kernel
theorem d_L_law_284 : decode code 284 = .ok (.invokevirtual 40, 3) := by decide +kernel
theorem d_L_law_287 : decode code 287 = .ok (.if_icmp .eq 345, 3) := by decide +kernel
theorem d_L_law_290 : decode code 290 = .ok (.iconst 0, 1) := by decide +kernel
theorem d_L_law_291 : decode code 291 = .ok (.ireturn, 1) := by decide +kernel
theorem d_L_law_292 : decode code 292 = .ok (.aload_n 1, 1) := by decide +kernel
theorem d_L_law_293 : decode code 293 = .ok (.aload_n 0, 1) := by decide +kernel
theorem d_L_law_294 : decode code 294 = .ok (.iload_n 3, 1) := by decide +kernel
theorem d_L_law_295 : decode code 295 = .ok (.iconst 1, 1) := by decide +kernel
theorem d_L_law_296 : decode code 296 = .ok (.iadd, 1) := by decide +kernel
theorem d_L_law_297 : decode code 297 = .ok (.iaload, 1) := by decide +kernel
theorem d_L_law_298 : decode code 298 = .ok (.aload_n 0, 1) := by decide +kernel
theorem d_L_law_299 : decode code 299 = .ok (.iload_n 3, 1) := by decide +kernel
theorem d_L_law_300 : decode code 300 = .ok (.iconst 2, 1) := by decide +kernel
theorem d_L_law_301 : decode code 301 = .ok (.iadd, 1) := by decide +kernel
theorem d_L_law_302 : decode code 302 = .ok (.iaload, 1) := by decide +kernel
theorem d_L_law_303 : decode code 303 = .ok (.aload_n 0, 1) := by decide +kernel
theorem d_L_law_304 : decode code 304 = .ok (.iload_n 3, 1) := by decide +kernel
theorem d_L_law_305 : decode code 305 = .ok (.iconst 3, 1) := by decide +kernel
theorem d_L_law_306 : decode code 306 = .ok (.iadd, 1) := by decide +kernel
theorem d_L_law_307 : decode code 307 = .ok (.iaload, 1) := by decide +kernel
theorem d_L_law_308 : decode code 308 = .ok (.aload_n 0, 1) := by decide +kernel
theorem d_L_law_309 : decode code 309 = .ok (.iload_n 3, 1) := by decide +kernel
theorem d_L_law_310 : decode code 310 = .ok (.iconst 4, 1) := by decide +kernel
theorem d_L_law_311 : decode code 311 = .ok (.iadd, 1) := by decide +kernel
theorem d_L_law_312 : decode code 312 = .ok (.iaload, 1) := by decide +kernel
theorem d_L_law_313 : decode code 313 = .ok (.invokevirtual 41, 3) := by decide +kernel
theorem d_L_law_316 : decode code 316 = .ok (.aload_n 2, 1) := by decide +kernel
theorem d_L_law_317 : decode code 317 = .ok (.aload_n 0, 1) := by decide +kernel
theorem d_L_law_318 : decode code 318 = .ok (.iload_n 3, 1) := by decide +kernel
theorem d_L_law_319 : decode code 319 = .ok (.iconst 1, 1) := by decide +kernel
theorem d_L_law_320 : decode code 320 = .ok (.iadd, 1) := by decide +kernel
theorem d_L_law_321 : decode code 321 = .ok (.iaload, 1) := by decide +kernel
theorem d_L_law_322 : decode code 322 = .ok (.aload_n 0, 1) := by decide +kernel
theorem d_L_law_323 : decode code 323 = .ok (.iload_n 3, 1) := by decide +kernel
theorem d_L_law_324 : decode code 324 = .ok (.iconst 2, 1) := by decide +kernel
theorem d_L_law_325 : decode code 325 = .ok (.iadd, 1) := by decide +kernel
theorem d_L_law_326 : decode code 326 = .ok (.iaload, 1) := by decide +kernel
theorem d_L_law_327 : decode code 327 = .ok (.aload_n 0, 1) := by decide +kernel
theorem d_L_law_328 : decode code 328 = .ok (.iload_n 3, 1) := by decide +kernel
theorem d_L_law_329 : decode code 329 = .ok (.iconst 3, 1) := by decide +kernel
theorem d_L_law_330 : decode code 330 = .ok (.iadd, 1) := by decide +kernel
theorem d_L_law_331 : decode code 331 = .ok (.iaload, 1) := by decide +kernel
theorem d_L_law_332 : decode code 332 = .ok (.aload_n 0, 1) := by decide +kernel
theorem d_L_law_333 : decode code 333 = .ok (.iload_n 3, 1) := by decide +kernel
theorem d_L_law_334 : decode code 334 = .ok (.iconst 4, 1) := by decide +kernel
theorem d_L_law_335 : decode code 335 = .ok (.iadd, 1) := by decide +kernel
theorem d_L_law_336 : decode code 336 = .ok (.iaload, 1) := by decide +kernel
theorem d_L_law_337 : decode code 337 = .ok (.invokevirtual 44, 3) := by decide +kernel
theorem d_L_law_340 : decode code 340 = .ok (.if_icmp .eq 292, 3) := by decide +kernel
theorem d_L_law_343 : decode code 343 = .ok (.iconst 0, 1) := by decide +kernel
theorem d_L_law_344 : decode code 344 = .ok (.ireturn, 1) := by decide +kernel
theorem d_L_law_345 : decode code 345 = .ok (.aload_n 1, 1) := by decide +kernel
theorem d_L_law_346 : decode code 346 = .ok (.aload_n 0, 1) := by decide +kernel
theorem d_L_law_347 : decode code 347 = .ok (.iload_n 3, 1) := by decide +kernel
theorem d_L_law_348 : decode code 348 = .ok (.iconst 1, 1) := by decide +kernel
theorem d_L_law_349 : decode code 349 = .ok (.iadd, 1) := by decide +kernel
theorem d_L_law_350 : decode code 350 = .ok (.iaload, 1) := by decide +kernel
theorem d_L_law_351 : decode code 351 = .ok (.aload_n 0, 1) := by decide +kernel
theorem d_L_law_352 : decode code 352 = .ok (.iload_n 3, 1) := by decide +kernel
theorem d_L_law_353 : decode code 353 = .ok (.iconst 2, 1) := by decide +kernel
theorem d_L_law_354 : decode code 354 = .ok (.iadd, 1) := by decide +kernel
theorem d_L_law_355 : decode code 355 = .ok (.iaload, 1) := by decide +kernel
theorem d_L_law_356 : decode code 356 = .ok (.aload_n 0, 1) := by decide +kernel
theorem d_L_law_357 : decode code 357 = .ok (.iload_n 3, 1) := by decide +kernel
theorem d_L_law_358 : decode code 358 = .ok (.iconst 3, 1) := by decide +kernel
theorem d_L_law_359 : decode code 359 = .ok (.iadd, 1) := by decide +kernel
theorem d_L_law_360 : decode code 360 = .ok (.iaload, 1) := by decide +kernel
theorem d_L_law_361 : decode code 361 = .ok (.invokevirtual 45, 3) := by decide +kernel
theorem d_L_law_364 : decode code 364 = .ok (.aload_n 2, 1) := by decide +kernel
theorem d_L_law_365 : decode code 365 = .ok (.aload_n 0, 1) := by decide +kernel
theorem d_L_law_366 : decode code 366 = .ok (.iload_n 3, 1) := by decide +kernel
theorem d_L_law_367 : decode code 367 = .ok (.iconst 1, 1) := by decide +kernel
theorem d_L_law_368 : decode code 368 = .ok (.iadd, 1) := by decide +kernel
theorem d_L_law_369 : decode code 369 = .ok (.iaload, 1) := by decide +kernel
theorem d_L_law_370 : decode code 370 = .ok (.aload_n 0, 1) := by decide +kernel
theorem d_L_law_371 : decode code 371 = .ok (.iload_n 3, 1) := by decide +kernel
theorem d_L_law_372 : decode code 372 = .ok (.iconst 2, 1) := by decide +kernel
theorem d_L_law_373 : decode code 373 = .ok (.iadd, 1) := by decide +kernel
