theorem dW_249 : decode code 249 = .ok (.iconst 2, 1) := by decide +kernel
theorem dW_250 : decode code 250 = .ok (.iadd, 1) := by decide +kernel
theorem dW_251 : decode code 251 = .ok (.iaload, 1) := by decide +kernel
theorem dW_252 : decode code 252 = .ok (.aload_n 0, 1) := by decide +kernel
theorem dW_253 : decode code 253 = .ok (.iload 4, 2) := by decide +kernel
theorem dW_255 : decode code 255 = .ok (.iconst 3, 1) := by decide +kernel
theorem dW_256 : decode code 256 = .ok (.iadd, 1) := by decide +kernel
theorem dW_257 : decode code 257 = .ok (.iaload, 1) := by decide +kernel
theorem dW_258 : decode code 258 = .ok (.aload_n 0, 1) := by decide +kernel
theorem dW_259 : decode code 259 = .ok (.iload 4, 2) := by decide +kernel
theorem dW_261 : decode code 261 = .ok (.iconst 4, 1) := by decide +kernel
theorem dW_262 : decode code 262 = .ok (.iadd, 1) := by decide +kernel
theorem dW_263 : decode code 263 = .ok (.iaload, 1) := by decide +kernel
theorem dW_264 : decode code 264 = .ok (.invokevirtual 70, 3) := by decide +kernel
theorem dW_267 : decode code 267 = .ok (.istore 6, 2) := by decide +kernel
theorem dW_269 : decode code 269 = .ok (.aload_n 2, 1) := by decide +kernel
theorem dW_270 : decode code 270 = .ok (.invokevirtual 63, 3) := by decide +kernel
theorem dW_273 : decode code 273 = .ok (.iload 5, 2) := by decide +kernel
theorem dW_275 : decode code 275 = .ok (.if_icmp .eq 5, 3) := by decide +kernel
theorem dW_278 : decode code 278 = .ok (.iconst 0, 1) := by decide +kernel
theorem dW_279 : decode code 279 = .ok (.ireturn, 1) := by decide +kernel
theorem dW_280 : decode code 280 = .ok (.iload 5, 2) := by decide +kernel
theorem dW_282 : decode code 282 = .ok (.ifCond .ne 15, 3) := by decide +kernel
theorem dW_285 : decode code 285 = .ok (.aload_n 3, 1) := by decide +kernel
theorem dW_286 : decode code 286 = .ok (.iconst 0, 1) := by decide +kernel
theorem dW_287 : decode code 287 = .ok (.laload, 1) := by decide +kernel
theorem dW_288 : decode code 288 = .ok (.iload 6, 2) := by decide +kernel
theorem dW_290 : decode code 290 = .ok (.i2l, 1) := by decide +kernel
theorem dW_291 : decode code 291 = .ok (.lcmp, 1) := by decide +kernel
theorem dW_292 : decode code 292 = .ok (.ifCond .eq 5, 3) := by decide +kernel
theorem dW_295 : decode code 295 = .ok (.iconst 0, 1) := by decide +kernel
theorem dW_296 : decode code 296 = .ok (.ireturn, 1) := by decide +kernel
theorem dW_297 : decode code 297 = .ok (.goto 754, 3) := by decide +kernel
theorem dW_300 : decode code 300 = .ok (.aload_n 1, 1) := by decide +kernel
theorem dW_301 : decode code 301 = .ok (.aload_n 0, 1) := by decide +kernel
theorem dW_302 : decode code 302 = .ok (.iload 4, 2) := by decide +kernel
theorem dW_304 : decode code 304 = .ok (.iconst 1, 1) := by decide +kernel
theorem dW_305 : decode code 305 = .ok (.iadd, 1) := by decide +kernel
theorem dW_306 : decode code 306 = .ok (.iaload, 1) := by decide +kernel
theorem dW_307 : decode code 307 = .ok (.aload_n 0, 1) := by decide +kernel
theorem dW_308 : decode code 308 = .ok (.iload 4, 2) := by decide +kernel
theorem dW_310 : decode code 310 = .ok (.iconst 2, 1) := by decide +kernel
theorem dW_311 : decode code 311 = .ok (.iadd, 1) := by decide +kernel
theorem dW_312 : decode code 312 = .ok (.iaload, 1) := by decide +kernel
theorem dW_313 : decode code 313 = .ok (.aload_n 0, 1) := by decide +kernel
theorem dW_314 : decode code 314 = .ok (.iload 4, 2) := by decide +kernel
theorem dW_316 : decode code 316 = .ok (.iconst 3, 1) := by decide +kernel
theorem dW_317 : decode code 317 = .ok (.iadd, 1) := by decide +kernel
theorem dW_318 : decode code 318 = .ok (.iaload, 1) := by decide +kernel
theorem dW_319 : decode code 319 = .ok (.aload_n 3, 1) := by decide +kernel
theorem dW_320 : decode code 320 = .ok (.invokestatic 71, 3) := by decide +kernel
theorem dW_323 : decode code 323 = .ok (.istore 5, 2) := by decide +kernel
theorem dW_325 : decode code 325 = .ok (.aload_n 2, 1) := by decide +kernel
theorem dW_326 : decode code 326 = .ok (.aload_n 0, 1) := by decide +kernel
theorem dW_327 : decode code 327 = .ok (.iload 4, 2) := by decide +kernel
theorem dW_329 : decode code 329 = .ok (.iconst 1, 1) := by decide +kernel
theorem dW_330 : decode code 330 = .ok (.iadd, 1) := by decide +kernel
theorem dW_331 : decode code 331 = .ok (.iaload, 1) := by decide +kernel
theorem dW_332 : decode code 332 = .ok (.aload_n 0, 1) := by decide +kernel
theorem dW_333 : decode code 333 = .ok (.iload 4, 2) := by decide +kernel
theorem dW_335 : decode code 335 = .ok (.iconst 2, 1) := by decide +kernel
theorem dW_336 : decode code 336 = .ok (.iadd, 1) := by decide +kernel
theorem dW_337 : decode code 337 = .ok (.iaload, 1) := by decide +kernel
theorem dW_338 : decode code 338 = .ok (.aload_n 0, 1) := by decide +kernel
theorem dW_339 : decode code 339 = .ok (.iload 4, 2) := by decide +kernel
theorem dW_341 : decode code 341 = .ok (.iconst 3, 1) := by decide +kernel
theorem dW_342 : decode code 342 = .ok (.iadd, 1) := by decide +kernel
theorem dW_343 : decode code 343 = .ok (.iaload, 1) := by decide +kernel
theorem dW_344 : decode code 344 = .ok (.invokevirtual 74, 3) := by decide +kernel
theorem dW_347 : decode code 347 = .ok (.istore 6, 2) := by decide +kernel
theorem dW_349 : decode code 349 = .ok (.aload_n 2, 1) := by decide +kernel
theorem dW_350 : decode code 350 = .ok (.invokevirtual 63, 3) := by decide +kernel
theorem dW_353 : decode code 353 = .ok (.iload 5, 2) := by decide +kernel
theorem dW_355 : decode code 355 = .ok (.if_icmp .eq 5, 3) := by decide +kernel
theorem dW_358 : decode code 358 = .ok (.iconst 0, 1) := by decide +kernel
theorem dW_359 : decode code 359 = .ok (.ireturn, 1) := by decide +kernel
theorem dW_360 : decode code 360 = .ok (.iload 5, 2) := by decide +kernel
theorem dW_362 : decode code 362 = .ok (.ifCond .ne 15, 3) := by decide +kernel
theorem dW_365 : decode code 365 = .ok (.aload_n 3, 1) := by decide +kernel
theorem dW_366 : decode code 366 = .ok (.iconst 0, 1) := by decide +kernel
theorem dW_367 : decode code 367 = .ok (.laload, 1) := by decide +kernel
theorem dW_368 : decode code 368 = .ok (.iload 6, 2) := by decide +kernel
theorem dW_370 : decode code 370 = .ok (.i2l, 1) := by decide +kernel
theorem dW_371 : decode code 371 = .ok (.lcmp, 1) := by decide +kernel
theorem dW_372 : decode code 372 = .ok (.ifCond .eq 5, 3) := by decide +kernel
theorem dW_375 : decode code 375 = .ok (.iconst 0, 1) := by decide +kernel
theorem dW_376 : decode code 376 = .ok (.ireturn, 1) := by decide +kernel
theorem dW_377 : decode code 377 = .ok (.goto 674, 3) := by decide +kernel
theorem dW_380 : decode code 380 = .ok (.aload_n 1, 1) := by decide +kernel
theorem dW_381 : decode code 381 = .ok (.aload_n 0, 1) := by decide +kernel
theorem dW_382 : decode code 382 = .ok (.iload 4, 2) := by decide +kernel
theorem dW_384 : decode code 384 = .ok (.iconst 1, 1) := by decide +kernel
theorem dW_385 : decode code 385 = .ok (.iadd, 1) := by decide +kernel
theorem dW_386 : decode code 386 = .ok (.iaload, 1) := by decide +kernel
theorem dW_387 : decode code 387 = .ok (.aload_n 0, 1) := by decide +kernel
theorem dW_388 : decode code 388 = .ok (.iload 4, 2) := by decide +kernel
theorem dW_390 : decode code 390 = .ok (.iconst 2, 1) := by decide +kernel
theorem dW_391 : decode code 391 = .ok (.iadd, 1) := by decide +kernel
theorem dW_392 : decode code 392 = .ok (.iaload, 1) := by decide +kernel
theorem dW_393 : decode code 393 = .ok (.aload_n 3, 1) := by decide +kernel
theorem dW_394 : decode code 394 = .ok (.invokestatic 75, 3) := by decide +kernel
theorem dW_397 : decode code 397 = .ok (.istore 5, 2) := by decide +kernel
theorem dW_399 : decode code 399 = .ok (.aload_n 2, 1) := by decide +kernel
theorem dW_400 : decode code 400 = .ok (.aload_n 0, 1) := by decide +kernel
theorem dW_401 : decode code 401 = .ok (.iload 4, 2) := by decide +kernel
theorem dW_403 : decode code 403 = .ok (.iconst 1, 1) := by decide +kernel
theorem dW_404 : decode code 404 = .ok (.iadd, 1) := by decide +kernel
theorem dW_405 : decode code 405 = .ok (.iaload, 1) := by decide +kernel
theorem dW_406 : decode code 406 = .ok (.aload_n 0, 1) := by decide +kernel
theorem dW_407 : decode code 407 = .ok (.iload 4, 2) := by decide +kernel
