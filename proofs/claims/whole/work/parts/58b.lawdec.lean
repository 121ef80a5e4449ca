/-! the law, decoded -/
theorem dl_258 : decode code 258 = .ok (.iload_n 3, 1) := by decide +kernel
theorem dl_259 : decode code 259 = .ok (.iconst 1, 1) := by decide +kernel
theorem dl_260 : decode code 260 = .ok (.iadd, 1) := by decide +kernel
theorem dl_261 : decode code 261 = .ok (.iaload, 1) := by decide +kernel
theorem dl_262 : decode code 262 = .ok (.aload_n 0, 1) := by decide +kernel
theorem dl_263 : decode code 263 = .ok (.iload_n 3, 1) := by decide +kernel
theorem dl_264 : decode code 264 = .ok (.iconst 2, 1) := by decide +kernel
theorem dl_265 : decode code 265 = .ok (.iadd, 1) := by decide +kernel
theorem dl_266 : decode code 266 = .ok (.iaload, 1) := by decide +kernel
theorem dl_267 : decode code 267 = .ok (.aload_n 0, 1) := by decide +kernel
theorem dl_268 : decode code 268 = .ok (.iload_n 3, 1) := by decide +kernel
theorem dl_269 : decode code 269 = .ok (.iconst 3, 1) := by decide +kernel
theorem dl_270 : decode code 270 = .ok (.iadd, 1) := by decide +kernel
theorem dl_271 : decode code 271 = .ok (.iaload, 1) := by decide +kernel
theorem dl_272 : decode code 272 = .ok (.aload_n 0, 1) := by decide +kernel
theorem dl_273 : decode code 273 = .ok (.iload_n 3, 1) := by decide +kernel
theorem dl_274 : decode code 274 = .ok (.iconst 4, 1) := by decide +kernel
theorem dl_275 : decode code 275 = .ok (.iadd, 1) := by decide +kernel
theorem dl_276 : decode code 276 = .ok (.iaload, 1) := by decide +kernel
theorem dl_277 : decode code 277 = .ok (.invokevirtual 26, 3) := by decide +kernel
theorem dl_280 : decode code 280 = .ok (.if_icmp .eq 550, 3) := by decide +kernel
theorem dl_283 : decode code 283 = .ok (.iconst 0, 1) := by decide +kernel
theorem dl_284 : decode code 284 = .ok (.ireturn, 1) := by decide +kernel
theorem dl_285 : decode code 285 = .ok (.aload_n 1, 1) := by decide +kernel
theorem dl_286 : decode code 286 = .ok (.invokevirtual 27, 3) := by decide +kernel
theorem dl_289 : decode code 289 = .ok (.aload_n 2, 1) := by decide +kernel
theorem dl_290 : decode code 290 = .ok (.invokevirtual 31, 3) := by decide +kernel
theorem dl_293 : decode code 293 = .ok (.if_icmp .eq 537, 3) := by decide +kernel
theorem dl_296 : decode code 296 = .ok (.iconst 0, 1) := by decide +kernel
theorem dl_297 : decode code 297 = .ok (.ireturn, 1) := by decide +kernel
theorem dl_298 : decode code 298 = .ok (.aload_n 1, 1) := by decide +kernel
theorem dl_299 : decode code 299 = .ok (.aload_n 0, 1) := by decide +kernel
theorem dl_300 : decode code 300 = .ok (.iload_n 3, 1) := by decide +kernel
theorem dl_301 : decode code 301 = .ok (.iconst 1, 1) := by decide +kernel
theorem dl_302 : decode code 302 = .ok (.iadd, 1) := by decide +kernel
theorem dl_303 : decode code 303 = .ok (.iaload, 1) := by decide +kernel
theorem dl_304 : decode code 304 = .ok (.aload_n 0, 1) := by decide +kernel
theorem dl_305 : decode code 305 = .ok (.iload_n 3, 1) := by decide +kernel
theorem dl_306 : decode code 306 = .ok (.iconst 2, 1) := by decide +kernel
theorem dl_307 : decode code 307 = .ok (.iadd, 1) := by decide +kernel
theorem dl_308 : decode code 308 = .ok (.iaload, 1) := by decide +kernel
theorem dl_309 : decode code 309 = .ok (.aload_n 0, 1) := by decide +kernel
theorem dl_310 : decode code 310 = .ok (.iload_n 3, 1) := by decide +kernel
theorem dl_311 : decode code 311 = .ok (.iconst 3, 1) := by decide +kernel
theorem dl_312 : decode code 312 = .ok (.iadd, 1) := by decide +kernel
theorem dl_313 : decode code 313 = .ok (.iaload, 1) := by decide +kernel
theorem dl_314 : decode code 314 = .ok (.invokevirtual 32, 3) := by decide +kernel
theorem dl_317 : decode code 317 = .ok (.aload_n 2, 1) := by decide +kernel
theorem dl_318 : decode code 318 = .ok (.aload_n 0, 1) := by decide +kernel
theorem dl_319 : decode code 319 = .ok (.iload_n 3, 1) := by decide +kernel
theorem dl_320 : decode code 320 = .ok (.iconst 1, 1) := by decide +kernel
theorem dl_321 : decode code 321 = .ok (.iadd, 1) := by decide +kernel
theorem dl_322 : decode code 322 = .ok (.iaload, 1) := by decide +kernel
theorem dl_323 : decode code 323 = .ok (.aload_n 0, 1) := by decide +kernel
theorem dl_324 : decode code 324 = .ok (.iload_n 3, 1) := by decide +kernel
theorem dl_325 : decode code 325 = .ok (.iconst 2, 1) := by decide +kernel
theorem dl_326 : decode code 326 = .ok (.iadd, 1) := by decide +kernel
theorem dl_327 : decode code 327 = .ok (.iaload, 1) := by decide +kernel
theorem dl_328 : decode code 328 = .ok (.aload_n 0, 1) := by decide +kernel
theorem dl_329 : decode code 329 = .ok (.iload_n 3, 1) := by decide +kernel
theorem dl_330 : decode code 330 = .ok (.iconst 3, 1) := by decide +kernel
theorem dl_331 : decode code 331 = .ok (.iadd, 1) := by decide +kernel
theorem dl_332 : decode code 332 = .ok (.iaload, 1) := by decide +kernel
theorem dl_333 : decode code 333 = .ok (.invokevirtual 36, 3) := by decide +kernel
theorem dl_336 : decode code 336 = .ok (.if_icmp .eq 494, 3) := by decide +kernel
theorem dl_339 : decode code 339 = .ok (.iconst 0, 1) := by decide +kernel
theorem dl_340 : decode code 340 = .ok (.ireturn, 1) := by decide +kernel
theorem dl_341 : decode code 341 = .ok (.aload_n 1, 1) := by decide +kernel
theorem dl_342 : decode code 342 = .ok (.aload_n 0, 1) := by decide +kernel
theorem dl_343 : decode code 343 = .ok (.iload_n 3, 1) := by decide +kernel
theorem dl_344 : decode code 344 = .ok (.iconst 1, 1) := by decide +kernel
theorem dl_345 : decode code 345 = .ok (.iadd, 1) := by decide +kernel
theorem dl_346 : decode code 346 = .ok (.iaload, 1) := by decide +kernel
theorem dl_347 : decode code 347 = .ok (.aload_n 0, 1) := by decide +kernel
theorem dl_348 : decode code 348 = .ok (.iload_n 3, 1) := by decide +kernel
theorem dl_349 : decode code 349 = .ok (.iconst 2, 1) := by decide +kernel
theorem dl_350 : decode code 350 = .ok (.iadd, 1) := by decide +kernel
theorem dl_351 : decode code 351 = .ok (.iaload, 1) := by decide +kernel
theorem dl_352 : decode code 352 = .ok (.invokevirtual 37, 3) := by decide +kernel
theorem dl_355 : decode code 355 = .ok (.aload_n 2, 1) := by decide +kernel
theorem dl_356 : decode code 356 = .ok (.aload_n 0, 1) := by decide +kernel
theorem dl_357 : decode code 357 = .ok (.iload_n 3, 1) := by decide +kernel
theorem dl_358 : decode code 358 = .ok (.iconst 1, 1) := by decide +kernel
theorem dl_359 : decode code 359 = .ok (.iadd, 1) := by decide +kernel
theorem dl_360 : decode code 360 = .ok (.iaload, 1) := by decide +kernel
theorem dl_361 : decode code 361 = .ok (.aload_n 0, 1) := by decide +kernel
theorem dl_362 : decode code 362 = .ok (.iload_n 3, 1) := by decide +kernel
theorem dl_363 : decode code 363 = .ok (.iconst 2, 1) := by decide +kernel
theorem dl_364 : decode code 364 = .ok (.iadd, 1) := by decide +kernel
theorem dl_365 : decode code 365 = .ok (.iaload, 1) := by decide +kernel
theorem dl_366 : decode code 366 = .ok (.invokevirtual 41, 3) := by decide +kernel
theorem dl_369 : decode code 369 = .ok (.if_icmp .eq 461, 3) := by decide +kernel
theorem dl_372 : decode code 372 = .ok (.iconst 0, 1) := by decide +kernel
theorem dl_373 : decode code 373 = .ok (.ireturn, 1) := by decide +kernel
theorem dl_374 : decode code 374 = .ok (.aload_n 1, 1) := by decide +kernel
theorem dl_375 : decode code 375 = .ok (.aload_n 0, 1) := by decide +kernel
theorem dl_376 : decode code 376 = .ok (.iload_n 3, 1) := by decide +kernel
theorem dl_377 : decode code 377 = .ok (.iconst 1, 1) := by decide +kernel
theorem dl_378 : decode code 378 = .ok (.iadd, 1) := by decide +kernel
theorem dl_379 : decode code 379 = .ok (.iaload, 1) := by decide +kernel
theorem dl_380 : decode code 380 = .ok (.aload_n 0, 1) := by decide +kernel
theorem dl_381 : decode code 381 = .ok (.iload_n 3, 1) := by decide +kernel
theorem dl_382 : decode code 382 = .ok (.iconst 2, 1) := by decide +kernel
theorem dl_383 : decode code 383 = .ok (.iadd, 1) := by decide +kernel
theorem dl_384 : decode code 384 = .ok (.iaload, 1) := by decide +kernel
theorem dl_385 : decode code 385 = .ok (.aload_n 0, 1) := by decide +kernel
theorem dl_386 : decode code 386 = .ok (.iload_n 3, 1) := by decide +kernel
theorem dl_387 : decode code 387 = .ok (.iconst 3, 1) := by decide +kernel
theorem dl_388 : decode code 388 = .ok (.iadd, 1) := by decide +kernel
theorem dl_389 : decode code 389 = .ok (.iaload, 1) := by decide +kernel
