theorem dL_at_0 : decode cL_at 0 = .ok (.iload_n 1, 1) := by decide +kernel
theorem dL_at_1 : decode cL_at 1 = .ok (.aload_n 0, 1) := by decide +kernel
theorem dL_at_2 : decode cL_at 2 = .ok (.arraylength, 1) := by decide +kernel
theorem dL_at_3 : decode cL_at 3 = .ok (.if_icmp .ge 9, 3) := by decide +kernel
theorem dL_at_6 : decode cL_at 6 = .ok (.aload_n 0, 1) := by decide +kernel
theorem dL_at_7 : decode cL_at 7 = .ok (.iload_n 1, 1) := by decide +kernel
theorem dL_at_8 : decode cL_at 8 = .ok (.iaload, 1) := by decide +kernel
theorem dL_at_9 : decode cL_at 9 = .ok (.goto 4, 3) := by decide +kernel
theorem dL_at_12 : decode cL_at 12 = .ok (.iconst 0, 1) := by decide +kernel
theorem dL_at_13 : decode cL_at 13 = .ok (.ireturn, 1) := by decide +kernel
theorem dL_some_0 : decode cL_some 0 = .ok (.iload_n 0, 1) := by decide +kernel
theorem dL_some_1 : decode cL_some 1 = .ok (.iload_n 1, 1) := by decide +kernel
theorem dL_some_2 : decode cL_some 2 = .ok (.irem, 1) := by decide +kernel
theorem dL_some_3 : decode cL_some 3 = .ok (.istore_n 2, 1) := by decide +kernel
theorem dL_some_4 : decode cL_some 4 = .ok (.iload_n 2, 1) := by decide +kernel
theorem dL_some_5 : decode cL_some 5 = .ok (.ifCond .ge 9, 3) := by decide +kernel
theorem dL_some_8 : decode cL_some 8 = .ok (.iload_n 2, 1) := by decide +kernel
theorem dL_some_9 : decode cL_some 9 = .ok (.iload_n 1, 1) := by decide +kernel
theorem dL_some_10 : decode cL_some 10 = .ok (.iadd, 1) := by decide +kernel
theorem dL_some_11 : decode cL_some 11 = .ok (.goto 4, 3) := by decide +kernel
theorem dL_some_14 : decode cL_some 14 = .ok (.iload_n 2, 1) := by decide +kernel
theorem dL_some_15 : decode cL_some 15 = .ok (.ireturn, 1) := by decide +kernel
theorem dL_ask_0 : decode cL_ask 0 = .ok (.iload_n 1, 1) := by decide +kernel
theorem dL_ask_1 : decode cL_ask 1 = .ok (.tableswitch 403 65 120 #[387, 403, 275, 403, 368, 403, 403, 403, 403, 403, 403, 403, 403, 343, 239, 352, 403, 403, 395, 403, 403, 403, 403, 403, 403, 403, 403, 403, 403, 403, 403, 403, 360, 403, 258, 403, 327, 403, 403, 403, 403, 403, 403, 403, 403, 403, 403, 250, 403, 379, 335, 319, 403, 403, 403, 303], 239) := by decide +kernel
theorem dL_ask_240 : decode cL_ask 240 = .ok (.aload_n 0, 1) := by decide +kernel
theorem dL_ask_241 : decode cL_ask 241 = .ok (.aload_n 2, 1) := by decide +kernel
theorem dL_ask_242 : decode cL_ask 242 = .ok (.iconst 0, 1) := by decide +kernel
theorem dL_ask_243 : decode cL_ask 243 = .ok (.iaload, 1) := by decide +kernel
theorem dL_ask_244 : decode cL_ask 244 = .ok (.aload_n 2, 1) := by decide +kernel
theorem dL_ask_245 : decode cL_ask 245 = .ok (.iconst 1, 1) := by decide +kernel
theorem dL_ask_246 : decode cL_ask 246 = .ok (.iaload, 1) := by decide +kernel
theorem dL_ask_247 : decode cL_ask 247 = .ok (.invokevirtual 7, 3) := by decide +kernel
theorem dL_ask_250 : decode cL_ask 250 = .ok (.ireturn, 1) := by decide +kernel
theorem dL_ask_251 : decode cL_ask 251 = .ok (.aload_n 0, 1) := by decide +kernel
theorem dL_ask_252 : decode cL_ask 252 = .ok (.aload_n 2, 1) := by decide +kernel
theorem dL_ask_253 : decode cL_ask 253 = .ok (.iconst 0, 1) := by decide +kernel
theorem dL_ask_254 : decode cL_ask 254 = .ok (.iaload, 1) := by decide +kernel
theorem dL_ask_255 : decode cL_ask 255 = .ok (.invokevirtual 13, 3) := by decide +kernel
theorem dL_ask_258 : decode cL_ask 258 = .ok (.ireturn, 1) := by decide +kernel
theorem dL_ask_259 : decode cL_ask 259 = .ok (.aload_n 0, 1) := by decide +kernel
theorem dL_ask_260 : decode cL_ask 260 = .ok (.aload_n 2, 1) := by decide +kernel
theorem dL_ask_261 : decode cL_ask 261 = .ok (.iconst 0, 1) := by decide +kernel
theorem dL_ask_262 : decode cL_ask 262 = .ok (.iaload, 1) := by decide +kernel
theorem dL_ask_263 : decode cL_ask 263 = .ok (.aload_n 2, 1) := by decide +kernel
theorem dL_ask_264 : decode cL_ask 264 = .ok (.iconst 1, 1) := by decide +kernel
theorem dL_ask_265 : decode cL_ask 265 = .ok (.iaload, 1) := by decide +kernel
theorem dL_ask_266 : decode cL_ask 266 = .ok (.aload_n 2, 1) := by decide +kernel
theorem dL_ask_267 : decode cL_ask 267 = .ok (.iconst 2, 1) := by decide +kernel
theorem dL_ask_268 : decode cL_ask 268 = .ok (.iaload, 1) := by decide +kernel
theorem dL_ask_269 : decode cL_ask 269 = .ok (.aload_n 2, 1) := by decide +kernel
theorem dL_ask_270 : decode cL_ask 270 = .ok (.iconst 3, 1) := by decide +kernel
theorem dL_ask_271 : decode cL_ask 271 = .ok (.iaload, 1) := by decide +kernel
theorem dL_ask_272 : decode cL_ask 272 = .ok (.invokevirtual 17, 3) := by decide +kernel
theorem dL_ask_275 : decode cL_ask 275 = .ok (.ireturn, 1) := by decide +kernel
theorem dL_ask_276 : decode cL_ask 276 = .ok (.aload_n 0, 1) := by decide +kernel
theorem dL_ask_277 : decode cL_ask 277 = .ok (.aload_n 2, 1) := by decide +kernel
theorem dL_ask_278 : decode cL_ask 278 = .ok (.iconst 0, 1) := by decide +kernel
theorem dL_ask_279 : decode cL_ask 279 = .ok (.iaload, 1) := by decide +kernel
theorem dL_ask_280 : decode cL_ask 280 = .ok (.aload_n 2, 1) := by decide +kernel
theorem dL_ask_281 : decode cL_ask 281 = .ok (.iconst 1, 1) := by decide +kernel
theorem dL_ask_282 : decode cL_ask 282 = .ok (.iaload, 1) := by decide +kernel
theorem dL_ask_283 : decode cL_ask 283 = .ok (.iconst 1, 1) := by decide +kernel
theorem dL_ask_284 : decode cL_ask 284 = .ok (.if_icmp .ne 7, 3) := by decide +kernel
theorem dL_ask_287 : decode cL_ask 287 = .ok (.iconst 1, 1) := by decide +kernel
theorem dL_ask_288 : decode cL_ask 288 = .ok (.goto 4, 3) := by decide +kernel
theorem dL_ask_291 : decode cL_ask 291 = .ok (.iconst 0, 1) := by decide +kernel
theorem dL_ask_292 : decode cL_ask 292 = .ok (.invokevirtual 21, 3) := by decide +kernel
theorem dL_ask_295 : decode cL_ask 295 = .ok (.ifCond .eq 7, 3) := by decide +kernel
theorem dL_ask_298 : decode cL_ask 298 = .ok (.iconst 1, 1) := by decide +kernel
theorem dL_ask_299 : decode cL_ask 299 = .ok (.goto 4, 3) := by decide +kernel
theorem dL_ask_302 : decode cL_ask 302 = .ok (.iconst 0, 1) := by decide +kernel
theorem dL_ask_303 : decode cL_ask 303 = .ok (.ireturn, 1) := by decide +kernel
theorem dL_ask_304 : decode cL_ask 304 = .ok (.aload_n 0, 1) := by decide +kernel
theorem dL_ask_305 : decode cL_ask 305 = .ok (.aload_n 2, 1) := by decide +kernel
theorem dL_ask_306 : decode cL_ask 306 = .ok (.iconst 0, 1) := by decide +kernel
theorem dL_ask_307 : decode cL_ask 307 = .ok (.iaload, 1) := by decide +kernel
theorem dL_ask_308 : decode cL_ask 308 = .ok (.invokevirtual 25, 3) := by decide +kernel
theorem dL_ask_311 : decode cL_ask 311 = .ok (.ifCond .eq 7, 3) := by decide +kernel
theorem dL_ask_314 : decode cL_ask 314 = .ok (.iconst 1, 1) := by decide +kernel
theorem dL_ask_315 : decode cL_ask 315 = .ok (.goto 4, 3) := by decide +kernel
theorem dL_ask_318 : decode cL_ask 318 = .ok (.iconst 0, 1) := by decide +kernel
theorem dL_ask_319 : decode cL_ask 319 = .ok (.ireturn, 1) := by decide +kernel
theorem dL_ask_320 : decode cL_ask 320 = .ok (.aload_n 0, 1) := by decide +kernel
theorem dL_ask_321 : decode cL_ask 321 = .ok (.aload_n 2, 1) := by decide +kernel
theorem dL_ask_322 : decode cL_ask 322 = .ok (.iconst 0, 1) := by decide +kernel
theorem dL_ask_323 : decode cL_ask 323 = .ok (.iaload, 1) := by decide +kernel
theorem dL_ask_324 : decode cL_ask 324 = .ok (.invokevirtual 29, 3) := by decide +kernel
theorem dL_ask_327 : decode cL_ask 327 = .ok (.ireturn, 1) := by decide +kernel
theorem dL_ask_328 : decode cL_ask 328 = .ok (.aload_n 0, 1) := by decide +kernel
theorem dL_ask_329 : decode cL_ask 329 = .ok (.aload_n 2, 1) := by decide +kernel
theorem dL_ask_330 : decode cL_ask 330 = .ok (.iconst 0, 1) := by decide +kernel
theorem dL_ask_331 : decode cL_ask 331 = .ok (.iaload, 1) := by decide +kernel
theorem dL_ask_332 : decode cL_ask 332 = .ok (.invokevirtual 32, 3) := by decide +kernel
theorem dL_ask_335 : decode cL_ask 335 = .ok (.ireturn, 1) := by decide +kernel
theorem dL_ask_336 : decode cL_ask 336 = .ok (.aload_n 0, 1) := by decide +kernel
theorem dL_ask_337 : decode cL_ask 337 = .ok (.aload_n 2, 1) := by decide +kernel
theorem dL_ask_338 : decode cL_ask 338 = .ok (.iconst 0, 1) := by decide +kernel
theorem dL_ask_339 : decode cL_ask 339 = .ok (.iaload, 1) := by decide +kernel
theorem dL_ask_340 : decode cL_ask 340 = .ok (.invokevirtual 36, 3) := by decide +kernel
theorem dL_ask_343 : decode cL_ask 343 = .ok (.ireturn, 1) := by decide +kernel
theorem dL_ask_344 : decode cL_ask 344 = .ok (.aload_n 0, 1) := by decide +kernel
theorem dL_ask_345 : decode cL_ask 345 = .ok (.aload_n 2, 1) := by decide +kernel
theorem dL_ask_346 : decode cL_ask 346 = .ok (.iconst 0, 1) := by decide +kernel
theorem dL_ask_347 : decode cL_ask 347 = .ok (.iaload, 1) := by decide +kernel
theorem dL_ask_348 : decode cL_ask 348 = .ok (.i2c, 1) := by decide +kernel
theorem dL_ask_349 : decode cL_ask 349 = .ok (.invokevirtual 39, 3) := by decide +kernel
theorem dL_ask_352 : decode cL_ask 352 = .ok (.ireturn, 1) := by decide +kernel
theorem dL_ask_353 : decode cL_ask 353 = .ok (.aload_n 0, 1) := by decide +kernel
theorem dL_ask_354 : decode cL_ask 354 = .ok (.aload_n 2, 1) := by decide +kernel
theorem dL_ask_355 : decode cL_ask 355 = .ok (.iconst 0, 1) := by decide +kernel
theorem dL_ask_356 : decode cL_ask 356 = .ok (.iaload, 1) := by decide +kernel
theorem dL_ask_357 : decode cL_ask 357 = .ok (.invokevirtual 43, 3) := by decide +kernel
theorem dL_ask_360 : decode cL_ask 360 = .ok (.ireturn, 1) := by decide +kernel
theorem dL_ask_361 : decode cL_ask 361 = .ok (.aload_n 0, 1) := by decide +kernel
theorem dL_ask_362 : decode cL_ask 362 = .ok (.aload_n 2, 1) := by decide +kernel
theorem dL_ask_363 : decode cL_ask 363 = .ok (.iconst 0, 1) := by decide +kernel
theorem dL_ask_364 : decode cL_ask 364 = .ok (.iaload, 1) := by decide +kernel
theorem dL_ask_365 : decode cL_ask 365 = .ok (.invokevirtual 46, 3) := by decide +kernel
theorem dL_ask_368 : decode cL_ask 368 = .ok (.ireturn, 1) := by decide +kernel
theorem dL_ask_369 : decode cL_ask 369 = .ok (.aload_n 0, 1) := by decide +kernel
theorem dL_ask_370 : decode cL_ask 370 = .ok (.aload_n 2, 1) := by decide +kernel
theorem dL_ask_371 : decode cL_ask 371 = .ok (.iconst 0, 1) := by decide +kernel
theorem dL_ask_372 : decode cL_ask 372 = .ok (.iaload, 1) := by decide +kernel
theorem dL_ask_373 : decode cL_ask 373 = .ok (.aload_n 2, 1) := by decide +kernel
theorem dL_ask_374 : decode cL_ask 374 = .ok (.iconst 1, 1) := by decide +kernel
theorem dL_ask_375 : decode cL_ask 375 = .ok (.iaload, 1) := by decide +kernel
theorem dL_ask_376 : decode cL_ask 376 = .ok (.invokevirtual 49, 3) := by decide +kernel
theorem dL_ask_379 : decode cL_ask 379 = .ok (.ireturn, 1) := by decide +kernel
theorem dL_ask_380 : decode cL_ask 380 = .ok (.aload_n 0, 1) := by decide +kernel
theorem dL_ask_381 : decode cL_ask 381 = .ok (.aload_n 2, 1) := by decide +kernel
theorem dL_ask_382 : decode cL_ask 382 = .ok (.iconst 0, 1) := by decide +kernel
theorem dL_ask_383 : decode cL_ask 383 = .ok (.iaload, 1) := by decide +kernel
theorem dL_ask_384 : decode cL_ask 384 = .ok (.invokevirtual 52, 3) := by decide +kernel
theorem dL_ask_387 : decode cL_ask 387 = .ok (.ireturn, 1) := by decide +kernel
theorem dL_ask_388 : decode cL_ask 388 = .ok (.aload_n 0, 1) := by decide +kernel
theorem dL_ask_389 : decode cL_ask 389 = .ok (.aload_n 2, 1) := by decide +kernel
theorem dL_ask_390 : decode cL_ask 390 = .ok (.iconst 0, 1) := by decide +kernel
theorem dL_ask_391 : decode cL_ask 391 = .ok (.iaload, 1) := by decide +kernel
theorem dL_ask_392 : decode cL_ask 392 = .ok (.invokevirtual 55, 3) := by decide +kernel
theorem dL_ask_395 : decode cL_ask 395 = .ok (.ireturn, 1) := by decide +kernel
theorem dL_ask_396 : decode cL_ask 396 = .ok (.aload_n 0, 1) := by decide +kernel
theorem dL_ask_397 : decode cL_ask 397 = .ok (.aload_n 2, 1) := by decide +kernel
theorem dL_ask_398 : decode cL_ask 398 = .ok (.iconst 0, 1) := by decide +kernel
theorem dL_ask_399 : decode cL_ask 399 = .ok (.iaload, 1) := by decide +kernel
theorem dL_ask_400 : decode cL_ask 400 = .ok (.invokevirtual 58, 3) := by decide +kernel
theorem dL_ask_403 : decode cL_ask 403 = .ok (.ireturn, 1) := by decide +kernel
theorem dL_ask_404 : decode cL_ask 404 = .ok (.aload_n 0, 1) := by decide +kernel
theorem dL_ask_405 : decode cL_ask 405 = .ok (.iload_n 1, 1) := by decide +kernel
theorem dL_ask_406 : decode cL_ask 406 = .ok (.aload_n 2, 1) := by decide +kernel
theorem dL_ask_407 : decode cL_ask 407 = .ok (.invokestatic 61, 3) := by decide +kernel
theorem dL_ask_410 : decode cL_ask 410 = .ok (.ireturn, 1) := by decide +kernel
theorem dL_ask_411 : decode cL_ask 411 = .ok (.astore_n 3, 1) := by decide +kernel
theorem dL_ask_412 : decode cL_ask 412 = .ok (.ldc 69, 2) := by decide +kernel
theorem dL_ask_414 : decode cL_ask 414 = .ok (.ireturn, 1) := by decide +kernel
theorem dL_ask_415 : decode cL_ask 415 = .ok (.astore_n 3, 1) := by decide +kernel
theorem dL_ask_416 : decode cL_ask 416 = .ok (.ldc 72, 2) := by decide +kernel
theorem dL_ask_418 : decode cL_ask 418 = .ok (.ireturn, 1) := by decide +kernel
theorem dL_ask_419 : decode cL_ask 419 = .ok (.astore_n 3, 1) := by decide +kernel
theorem dL_ask_420 : decode cL_ask 420 = .ok (.ldc 75, 2) := by decide +kernel
theorem dL_ask_422 : decode cL_ask 422 = .ok (.ireturn, 1) := by decide +kernel
theorem dL_ask_423 : decode cL_ask 423 = .ok (.astore_n 3, 1) := by decide +kernel
theorem dL_ask_424 : decode cL_ask 424 = .ok (.ldc 78, 2) := by decide +kernel
theorem dL_ask_426 : decode cL_ask 426 = .ok (.ireturn, 1) := by decide +kernel
theorem dL_ask_427 : decode cL_ask 427 = .ok (.astore_n 3, 1) := by decide +kernel
theorem dL_ask_428 : decode cL_ask 428 = .ok (.ldc 81, 2) := by decide +kernel
theorem dL_ask_430 : decode cL_ask 430 = .ok (.ireturn, 1) := by decide +kernel
theorem dL_asked_0 : decode cL_asked 0 = .ok (.iload_n 1, 1) := by decide +kernel
theorem dL_asked_1 : decode cL_asked 1 = .ok (.tableswitch 377 70 121 #[361, 377, 353, 377, 271, 377, 377, 377, 377, 377, 377, 377, 309, 377, 377, 377, 377, 369, 377, 337, 377, 377, 377, 377, 377, 377, 377, 377, 377, 377, 377, 377, 290, 377, 301, 377, 244, 377, 263, 377, 239, 223, 377, 255, 377, 377, 377, 377, 377, 279, 377, 317], 223) := by decide +kernel
theorem dL_asked_224 : decode cL_asked 224 = .ok (.aload_n 0, 1) := by decide +kernel
theorem dL_asked_225 : decode cL_asked 225 = .ok (.aload_n 2, 1) := by decide +kernel
theorem dL_asked_226 : decode cL_asked 226 = .ok (.iconst 0, 1) := by decide +kernel
theorem dL_asked_227 : decode cL_asked 227 = .ok (.iaload, 1) := by decide +kernel
theorem dL_asked_228 : decode cL_asked 228 = .ok (.invokevirtual 82, 3) := by decide +kernel
theorem dL_asked_231 : decode cL_asked 231 = .ok (.ifCond .eq 7, 3) := by decide +kernel
theorem dL_asked_234 : decode cL_asked 234 = .ok (.iconst 1, 1) := by decide +kernel
theorem dL_asked_235 : decode cL_asked 235 = .ok (.goto 4, 3) := by decide +kernel
theorem dL_asked_238 : decode cL_asked 238 = .ok (.iconst 0, 1) := by decide +kernel
theorem dL_asked_239 : decode cL_asked 239 = .ok (.ireturn, 1) := by decide +kernel
theorem dL_asked_240 : decode cL_asked 240 = .ok (.aload_n 0, 1) := by decide +kernel
theorem dL_asked_241 : decode cL_asked 241 = .ok (.invokevirtual 85, 3) := by decide +kernel
theorem dL_asked_244 : decode cL_asked 244 = .ok (.ireturn, 1) := by decide +kernel
theorem dL_asked_245 : decode cL_asked 245 = .ok (.aload_n 0, 1) := by decide +kernel
theorem dL_asked_246 : decode cL_asked 246 = .ok (.aload_n 2, 1) := by decide +kernel
theorem dL_asked_247 : decode cL_asked 247 = .ok (.iconst 0, 1) := by decide +kernel
theorem dL_asked_248 : decode cL_asked 248 = .ok (.iaload, 1) := by decide +kernel
theorem dL_asked_249 : decode cL_asked 249 = .ok (.aload_n 2, 1) := by decide +kernel
theorem dL_asked_250 : decode cL_asked 250 = .ok (.iconst 1, 1) := by decide +kernel
theorem dL_asked_251 : decode cL_asked 251 = .ok (.iaload, 1) := by decide +kernel
theorem dL_asked_252 : decode cL_asked 252 = .ok (.invokevirtual 89, 3) := by decide +kernel
theorem dL_asked_255 : decode cL_asked 255 = .ok (.ireturn, 1) := by decide +kernel
theorem dL_asked_256 : decode cL_asked 256 = .ok (.aload_n 0, 1) := by decide +kernel
theorem dL_asked_257 : decode cL_asked 257 = .ok (.aload_n 2, 1) := by decide +kernel
theorem dL_asked_258 : decode cL_asked 258 = .ok (.iconst 0, 1) := by decide +kernel
theorem dL_asked_259 : decode cL_asked 259 = .ok (.iaload, 1) := by decide +kernel
theorem dL_asked_260 : decode cL_asked 260 = .ok (.invokevirtual 92, 3) := by decide +kernel
theorem dL_asked_263 : decode cL_asked 263 = .ok (.ireturn, 1) := by decide +kernel
theorem dL_asked_264 : decode cL_asked 264 = .ok (.aload_n 0, 1) := by decide +kernel
theorem dL_asked_265 : decode cL_asked 265 = .ok (.aload_n 2, 1) := by decide +kernel
theorem dL_asked_266 : decode cL_asked 266 = .ok (.iconst 0, 1) := by decide +kernel
theorem dL_asked_267 : decode cL_asked 267 = .ok (.iaload, 1) := by decide +kernel
theorem dL_asked_268 : decode cL_asked 268 = .ok (.invokevirtual 95, 3) := by decide +kernel
theorem dL_asked_271 : decode cL_asked 271 = .ok (.ireturn, 1) := by decide +kernel
theorem dL_asked_272 : decode cL_asked 272 = .ok (.aload_n 0, 1) := by decide +kernel
theorem dL_asked_273 : decode cL_asked 273 = .ok (.aload_n 2, 1) := by decide +kernel
theorem dL_asked_274 : decode cL_asked 274 = .ok (.iconst 0, 1) := by decide +kernel
theorem dL_asked_275 : decode cL_asked 275 = .ok (.iaload, 1) := by decide +kernel
theorem dL_asked_276 : decode cL_asked 276 = .ok (.invokevirtual 98, 3) := by decide +kernel
theorem dL_asked_279 : decode cL_asked 279 = .ok (.ireturn, 1) := by decide +kernel
theorem dL_asked_280 : decode cL_asked 280 = .ok (.aload_n 0, 1) := by decide +kernel
theorem dL_asked_281 : decode cL_asked 281 = .ok (.aload_n 2, 1) := by decide +kernel
theorem dL_asked_282 : decode cL_asked 282 = .ok (.iconst 0, 1) := by decide +kernel
theorem dL_asked_283 : decode cL_asked 283 = .ok (.iaload, 1) := by decide +kernel
theorem dL_asked_284 : decode cL_asked 284 = .ok (.aload_n 2, 1) := by decide +kernel
theorem dL_asked_285 : decode cL_asked 285 = .ok (.iconst 1, 1) := by decide +kernel
theorem dL_asked_286 : decode cL_asked 286 = .ok (.iaload, 1) := by decide +kernel
theorem dL_asked_287 : decode cL_asked 287 = .ok (.invokevirtual 101, 3) := by decide +kernel
theorem dL_asked_290 : decode cL_asked 290 = .ok (.ireturn, 1) := by decide +kernel
theorem dL_asked_291 : decode cL_asked 291 = .ok (.aload_n 0, 1) := by decide +kernel
theorem dL_asked_292 : decode cL_asked 292 = .ok (.aload_n 2, 1) := by decide +kernel
theorem dL_asked_293 : decode cL_asked 293 = .ok (.iconst 0, 1) := by decide +kernel
theorem dL_asked_294 : decode cL_asked 294 = .ok (.iaload, 1) := by decide +kernel
theorem dL_asked_295 : decode cL_asked 295 = .ok (.aload_n 2, 1) := by decide +kernel
theorem dL_asked_296 : decode cL_asked 296 = .ok (.iconst 1, 1) := by decide +kernel
theorem dL_asked_297 : decode cL_asked 297 = .ok (.iaload, 1) := by decide +kernel
theorem dL_asked_298 : decode cL_asked 298 = .ok (.invokevirtual 104, 3) := by decide +kernel
theorem dL_asked_301 : decode cL_asked 301 = .ok (.ireturn, 1) := by decide +kernel
theorem dL_asked_302 : decode cL_asked 302 = .ok (.aload_n 0, 1) := by decide +kernel
theorem dL_asked_303 : decode cL_asked 303 = .ok (.aload_n 2, 1) := by decide +kernel
theorem dL_asked_304 : decode cL_asked 304 = .ok (.iconst 0, 1) := by decide +kernel
theorem dL_asked_305 : decode cL_asked 305 = .ok (.iaload, 1) := by decide +kernel
theorem dL_asked_306 : decode cL_asked 306 = .ok (.invokevirtual 107, 3) := by decide +kernel
theorem dL_asked_309 : decode cL_asked 309 = .ok (.ireturn, 1) := by decide +kernel
theorem dL_asked_310 : decode cL_asked 310 = .ok (.aload_n 0, 1) := by decide +kernel
theorem dL_asked_311 : decode cL_asked 311 = .ok (.aload_n 2, 1) := by decide +kernel
theorem dL_asked_312 : decode cL_asked 312 = .ok (.iconst 0, 1) := by decide +kernel
theorem dL_asked_313 : decode cL_asked 313 = .ok (.iaload, 1) := by decide +kernel
theorem dL_asked_314 : decode cL_asked 314 = .ok (.invokevirtual 110, 3) := by decide +kernel
theorem dL_asked_317 : decode cL_asked 317 = .ok (.ireturn, 1) := by decide +kernel
theorem dL_asked_318 : decode cL_asked 318 = .ok (.aload_n 0, 1) := by decide +kernel
theorem dL_asked_319 : decode cL_asked 319 = .ok (.aload_n 2, 1) := by decide +kernel
theorem dL_asked_320 : decode cL_asked 320 = .ok (.iconst 0, 1) := by decide +kernel
theorem dL_asked_321 : decode cL_asked 321 = .ok (.iaload, 1) := by decide +kernel
theorem dL_asked_322 : decode cL_asked 322 = .ok (.aload_n 2, 1) := by decide +kernel
theorem dL_asked_323 : decode cL_asked 323 = .ok (.iconst 1, 1) := by decide +kernel
theorem dL_asked_324 : decode cL_asked 324 = .ok (.iaload, 1) := by decide +kernel
theorem dL_asked_325 : decode cL_asked 325 = .ok (.iconst 1, 1) := by decide +kernel
theorem dL_asked_326 : decode cL_asked 326 = .ok (.if_icmp .ne 7, 3) := by decide +kernel
theorem dL_asked_329 : decode cL_asked 329 = .ok (.iconst 1, 1) := by decide +kernel
theorem dL_asked_330 : decode cL_asked 330 = .ok (.goto 4, 3) := by decide +kernel
theorem dL_asked_333 : decode cL_asked 333 = .ok (.iconst 0, 1) := by decide +kernel
theorem dL_asked_334 : decode cL_asked 334 = .ok (.invokevirtual 113, 3) := by decide +kernel
theorem dL_asked_337 : decode cL_asked 337 = .ok (.ireturn, 1) := by decide +kernel
theorem dL_asked_338 : decode cL_asked 338 = .ok (.aload_n 0, 1) := by decide +kernel
theorem dL_asked_339 : decode cL_asked 339 = .ok (.aload_n 2, 1) := by decide +kernel
theorem dL_asked_340 : decode cL_asked 340 = .ok (.iconst 0, 1) := by decide +kernel
theorem dL_asked_341 : decode cL_asked 341 = .ok (.iaload, 1) := by decide +kernel
theorem dL_asked_342 : decode cL_asked 342 = .ok (.invokevirtual 117, 3) := by decide +kernel
theorem dL_asked_345 : decode cL_asked 345 = .ok (.ifCond .eq 7, 3) := by decide +kernel
theorem dL_asked_348 : decode cL_asked 348 = .ok (.iconst 1, 1) := by decide +kernel
theorem dL_asked_349 : decode cL_asked 349 = .ok (.goto 4, 3) := by decide +kernel
theorem dL_asked_352 : decode cL_asked 352 = .ok (.iconst 0, 1) := by decide +kernel
theorem dL_asked_353 : decode cL_asked 353 = .ok (.ireturn, 1) := by decide +kernel
theorem dL_asked_354 : decode cL_asked 354 = .ok (.aload_n 0, 1) := by decide +kernel
theorem dL_asked_355 : decode cL_asked 355 = .ok (.aload_n 2, 1) := by decide +kernel
theorem dL_asked_356 : decode cL_asked 356 = .ok (.iconst 0, 1) := by decide +kernel
theorem dL_asked_357 : decode cL_asked 357 = .ok (.iaload, 1) := by decide +kernel
theorem dL_asked_358 : decode cL_asked 358 = .ok (.invokevirtual 120, 3) := by decide +kernel
theorem dL_asked_361 : decode cL_asked 361 = .ok (.ireturn, 1) := by decide +kernel
theorem dL_asked_362 : decode cL_asked 362 = .ok (.aload_n 0, 1) := by decide +kernel
theorem dL_asked_363 : decode cL_asked 363 = .ok (.aload_n 2, 1) := by decide +kernel
theorem dL_asked_364 : decode cL_asked 364 = .ok (.iconst 0, 1) := by decide +kernel
theorem dL_asked_365 : decode cL_asked 365 = .ok (.iaload, 1) := by decide +kernel
theorem dL_asked_366 : decode cL_asked 366 = .ok (.invokevirtual 123, 3) := by decide +kernel
theorem dL_asked_369 : decode cL_asked 369 = .ok (.ireturn, 1) := by decide +kernel
theorem dL_asked_370 : decode cL_asked 370 = .ok (.aload_n 0, 1) := by decide +kernel
theorem dL_asked_371 : decode cL_asked 371 = .ok (.aload_n 2, 1) := by decide +kernel
theorem dL_asked_372 : decode cL_asked 372 = .ok (.iconst 0, 1) := by decide +kernel
theorem dL_asked_373 : decode cL_asked 373 = .ok (.iaload, 1) := by decide +kernel
theorem dL_asked_374 : decode cL_asked 374 = .ok (.invokevirtual 126, 3) := by decide +kernel
theorem dL_asked_377 : decode cL_asked 377 = .ok (.ireturn, 1) := by decide +kernel
theorem dL_asked_378 : decode cL_asked 378 = .ok (.aload_n 0, 1) := by decide +kernel
theorem dL_asked_379 : decode cL_asked 379 = .ok (.aload_n 2, 1) := by decide +kernel
theorem dL_asked_380 : decode cL_asked 380 = .ok (.iconst 0, 1) := by decide +kernel
theorem dL_asked_381 : decode cL_asked 381 = .ok (.iaload, 1) := by decide +kernel
theorem dL_asked_382 : decode cL_asked 382 = .ok (.invokevirtual 129, 3) := by decide +kernel
theorem dL_asked_385 : decode cL_asked 385 = .ok (.ireturn, 1) := by decide +kernel
theorem dL_share_0 : decode cL_share 0 = .ok (.aload_n 0, 1) := by decide +kernel
theorem dL_share_1 : decode cL_share 1 = .ok (.iload_n 1, 1) := by decide +kernel
theorem dL_share_2 : decode cL_share 2 = .ok (.invokevirtual 132, 3) := by decide +kernel
theorem dL_share_5 : decode cL_share 5 = .ok (.fstore_n 2, 1) := by decide +kernel
theorem dL_share_6 : decode cL_share 6 = .ok (.iconst 1, 1) := by decide +kernel
theorem dL_share_7 : decode cL_share 7 = .ok (.ireturn, 1) := by decide +kernel
theorem dL_share_8 : decode cL_share 8 = .ok (.astore_n 2, 1) := by decide +kernel
theorem dL_share_9 : decode cL_share 9 = .ok (.ldc 69, 2) := by decide +kernel
theorem dL_share_11 : decode cL_share 11 = .ok (.ireturn, 1) := by decide +kernel
theorem dL_share_12 : decode cL_share 12 = .ok (.astore_n 2, 1) := by decide +kernel
theorem dL_share_13 : decode cL_share 13 = .ok (.iconst 0, 1) := by decide +kernel
theorem dL_share_14 : decode cL_share 14 = .ok (.ireturn, 1) := by decide +kernel
theorem dL_hasNone_0 : decode cL_hasNone 0 = .ok (.aload_n 0, 1) := by decide +kernel
theorem dL_hasNone_1 : decode cL_hasNone 1 = .ok (.invokevirtual 138, 3) := by decide +kernel
theorem dL_hasNone_4 : decode cL_hasNone 4 = .ok (.dstore_n 1, 1) := by decide +kernel
theorem dL_hasNone_5 : decode cL_hasNone 5 = .ok (.iconst 0, 1) := by decide +kernel
theorem dL_hasNone_6 : decode cL_hasNone 6 = .ok (.ireturn, 1) := by decide +kernel
theorem dL_hasNone_7 : decode cL_hasNone 7 = .ok (.astore_n 1, 1) := by decide +kernel
theorem dL_hasNone_8 : decode cL_hasNone 8 = .ok (.iconst 1, 1) := by decide +kernel
theorem dL_hasNone_9 : decode cL_hasNone 9 = .ok (.ireturn, 1) := by decide +kernel
theorem dL_law_0 : decode cL_law 0 = .ok (.new 8, 3) := by decide +kernel
theorem dL_law_3 : decode cL_law 3 = .ok (.dup, 1) := by decide +kernel
theorem dL_law_4 : decode cL_law 4 = .ok (.invokespecial 142, 3) := by decide +kernel
theorem dL_law_7 : decode cL_law 7 = .ok (.astore_n 1, 1) := by decide +kernel
theorem dL_law_8 : decode cL_law 8 = .ok (.aload_n 1, 1) := by decide +kernel
theorem dL_law_9 : decode cL_law 9 = .ok (.iconst 0, 1) := by decide +kernel
theorem dL_law_10 : decode cL_law 10 = .ok (.invokestatic 143, 3) := by decide +kernel
theorem dL_law_13 : decode cL_law 13 = .ok (.ldc 69, 2) := by decide +kernel
theorem dL_law_15 : decode cL_law 15 = .ok (.if_icmp .ne 950, 3) := by decide +kernel
theorem dL_law_18 : decode cL_law 18 = .ok (.aload_n 1, 1) := by decide +kernel
theorem dL_law_19 : decode cL_law 19 = .ok (.invokestatic 147, 3) := by decide +kernel
theorem dL_law_22 : decode cL_law 22 = .ok (.ifCond .eq 943, 3) := by decide +kernel
theorem dL_law_25 : decode cL_law 25 = .ok (.aload_n 1, 1) := by decide +kernel
theorem dL_law_26 : decode cL_law 26 = .ok (.invokevirtual 151, 3) := by decide +kernel
theorem dL_law_29 : decode cL_law 29 = .ok (.ldc2_w 155, 3) := by decide +kernel
theorem dL_law_32 : decode cL_law 32 = .ok (.lcmp, 1) := by decide +kernel
theorem dL_law_33 : decode cL_law 33 = .ok (.ifCond .ne 932, 3) := by decide +kernel
theorem dL_law_36 : decode cL_law 36 = .ok (.aload_n 1, 1) := by decide +kernel
theorem dL_law_37 : decode cL_law 37 = .ok (.invokevirtual 157, 3) := by decide +kernel
theorem dL_law_40 : decode cL_law 40 = .ok (.ifCond .ne 925, 3) := by decide +kernel
theorem dL_law_43 : decode cL_law 43 = .ok (.aload_n 1, 1) := by decide +kernel
theorem dL_law_44 : decode cL_law 44 = .ok (.invokevirtual 160, 3) := by decide +kernel
theorem dL_law_47 : decode cL_law 47 = .ok (.ifCond .eq 918, 3) := by decide +kernel
theorem dL_law_50 : decode cL_law 50 = .ok (.aload_n 1, 1) := by decide +kernel
theorem dL_law_51 : decode cL_law 51 = .ok (.bipush 79, 2) := by decide +kernel
theorem dL_law_53 : decode cL_law 53 = .ok (.iconst 2, 1) := by decide +kernel
theorem dL_law_54 : decode cL_law 54 = .ok (.newarray .int, 2) := by decide +kernel
theorem dL_law_56 : decode cL_law 56 = .ok (.dup, 1) := by decide +kernel
theorem dL_law_57 : decode cL_law 57 = .ok (.iconst 0, 1) := by decide +kernel
theorem dL_law_58 : decode cL_law 58 = .ok (.iconst 0, 1) := by decide +kernel
theorem dL_law_59 : decode cL_law 59 = .ok (.iastore, 1) := by decide +kernel
theorem dL_law_60 : decode cL_law 60 = .ok (.dup, 1) := by decide +kernel
theorem dL_law_61 : decode cL_law 61 = .ok (.iconst 1, 1) := by decide +kernel
theorem dL_law_62 : decode cL_law 62 = .ok (.iconst 0, 1) := by decide +kernel
theorem dL_law_63 : decode cL_law 63 = .ok (.iastore, 1) := by decide +kernel
theorem dL_law_64 : decode cL_law 64 = .ok (.invokestatic 164, 3) := by decide +kernel
theorem dL_law_67 : decode cL_law 67 = .ok (.ldc 72, 2) := by decide +kernel
theorem dL_law_69 : decode cL_law 69 = .ok (.if_icmp .ne 896, 3) := by decide +kernel
theorem dL_law_72 : decode cL_law 72 = .ok (.aload_n 1, 1) := by decide +kernel
theorem dL_law_73 : decode cL_law 73 = .ok (.bipush 79, 2) := by decide +kernel
theorem dL_law_75 : decode cL_law 75 = .ok (.iconst 2, 1) := by decide +kernel
theorem dL_law_76 : decode cL_law 76 = .ok (.newarray .int, 2) := by decide +kernel
theorem dL_law_78 : decode cL_law 78 = .ok (.dup, 1) := by decide +kernel
theorem dL_law_79 : decode cL_law 79 = .ok (.iconst 0, 1) := by decide +kernel
theorem dL_law_80 : decode cL_law 80 = .ok (.bipush 61, 2) := by decide +kernel
theorem dL_law_82 : decode cL_law 82 = .ok (.iastore, 1) := by decide +kernel
theorem dL_law_83 : decode cL_law 83 = .ok (.dup, 1) := by decide +kernel
theorem dL_law_84 : decode cL_law 84 = .ok (.iconst 1, 1) := by decide +kernel
theorem dL_law_85 : decode cL_law 85 = .ok (.iconst 0, 1) := by decide +kernel
theorem dL_law_86 : decode cL_law 86 = .ok (.iastore, 1) := by decide +kernel
theorem dL_law_87 : decode cL_law 87 = .ok (.invokestatic 164, 3) := by decide +kernel
theorem dL_law_90 : decode cL_law 90 = .ok (.ldc 72, 2) := by decide +kernel
theorem dL_law_92 : decode cL_law 92 = .ok (.if_icmp .ne 873, 3) := by decide +kernel
theorem dL_law_95 : decode cL_law 95 = .ok (.aload_n 1, 1) := by decide +kernel
theorem dL_law_96 : decode cL_law 96 = .ok (.bipush 79, 2) := by decide +kernel
theorem dL_law_98 : decode cL_law 98 = .ok (.iconst 2, 1) := by decide +kernel
theorem dL_law_99 : decode cL_law 99 = .ok (.newarray .int, 2) := by decide +kernel
theorem dL_law_101 : decode cL_law 101 = .ok (.dup, 1) := by decide +kernel
theorem dL_law_102 : decode cL_law 102 = .ok (.iconst 0, 1) := by decide +kernel
theorem dL_law_103 : decode cL_law 103 = .ok (.iconst 1, 1) := by decide +kernel
theorem dL_law_104 : decode cL_law 104 = .ok (.iastore, 1) := by decide +kernel
theorem dL_law_105 : decode cL_law 105 = .ok (.dup, 1) := by decide +kernel
theorem dL_law_106 : decode cL_law 106 = .ok (.iconst 1, 1) := by decide +kernel
theorem dL_law_107 : decode cL_law 107 = .ok (.sipush 1024, 3) := by decide +kernel
theorem dL_law_110 : decode cL_law 110 = .ok (.iastore, 1) := by decide +kernel
theorem dL_law_111 : decode cL_law 111 = .ok (.invokestatic 164, 3) := by decide +kernel
theorem dL_law_114 : decode cL_law 114 = .ok (.ldc 72, 2) := by decide +kernel
theorem dL_law_116 : decode cL_law 116 = .ok (.if_icmp .ne 849, 3) := by decide +kernel
theorem dL_law_119 : decode cL_law 119 = .ok (.aload_n 1, 1) := by decide +kernel
theorem dL_law_120 : decode cL_law 120 = .ok (.bipush 112, 2) := by decide +kernel
theorem dL_law_122 : decode cL_law 122 = .ok (.iconst 1, 1) := by decide +kernel
theorem dL_law_123 : decode cL_law 123 = .ok (.newarray .int, 2) := by decide +kernel
theorem dL_law_125 : decode cL_law 125 = .ok (.dup, 1) := by decide +kernel
theorem dL_law_126 : decode cL_law 126 = .ok (.iconst 0, 1) := by decide +kernel
theorem dL_law_127 : decode cL_law 127 = .ok (.iconst 0, 1) := by decide +kernel
theorem dL_law_128 : decode cL_law 128 = .ok (.iastore, 1) := by decide +kernel
theorem dL_law_129 : decode cL_law 129 = .ok (.invokestatic 164, 3) := by decide +kernel
theorem dL_law_132 : decode cL_law 132 = .ok (.ldc 72, 2) := by decide +kernel
theorem dL_law_134 : decode cL_law 134 = .ok (.if_icmp .ne 831, 3) := by decide +kernel
theorem dL_law_137 : decode cL_law 137 = .ok (.aload_n 1, 1) := by decide +kernel
theorem dL_law_138 : decode cL_law 138 = .ok (.bipush 112, 2) := by decide +kernel
theorem dL_law_140 : decode cL_law 140 = .ok (.iconst 1, 1) := by decide +kernel
theorem dL_law_141 : decode cL_law 141 = .ok (.newarray .int, 2) := by decide +kernel
theorem dL_law_143 : decode cL_law 143 = .ok (.dup, 1) := by decide +kernel
theorem dL_law_144 : decode cL_law 144 = .ok (.iconst 0, 1) := by decide +kernel
theorem dL_law_145 : decode cL_law 145 = .ok (.sipush 401, 3) := by decide +kernel
theorem dL_law_148 : decode cL_law 148 = .ok (.iastore, 1) := by decide +kernel
theorem dL_law_149 : decode cL_law 149 = .ok (.invokestatic 164, 3) := by decide +kernel
theorem dL_law_152 : decode cL_law 152 = .ok (.ldc 72, 2) := by decide +kernel
theorem dL_law_154 : decode cL_law 154 = .ok (.if_icmp .ne 811, 3) := by decide +kernel
theorem dL_law_157 : decode cL_law 157 = .ok (.aload_n 1, 1) := by decide +kernel
theorem dL_law_158 : decode cL_law 158 = .ok (.bipush 99, 2) := by decide +kernel
theorem dL_law_160 : decode cL_law 160 = .ok (.iconst 4, 1) := by decide +kernel
theorem dL_law_161 : decode cL_law 161 = .ok (.newarray .int, 2) := by decide +kernel
theorem dL_law_163 : decode cL_law 163 = .ok (.dup, 1) := by decide +kernel
theorem dL_law_164 : decode cL_law 164 = .ok (.iconst 0, 1) := by decide +kernel
theorem dL_law_165 : decode cL_law 165 = .ok (.iconst 0, 1) := by decide +kernel
theorem dL_law_166 : decode cL_law 166 = .ok (.iastore, 1) := by decide +kernel
theorem dL_law_167 : decode cL_law 167 = .ok (.dup, 1) := by decide +kernel
theorem dL_law_168 : decode cL_law 168 = .ok (.iconst 1, 1) := by decide +kernel
theorem dL_law_169 : decode cL_law 169 = .ok (.bipush 10, 2) := by decide +kernel
theorem dL_law_171 : decode cL_law 171 = .ok (.iastore, 1) := by decide +kernel
theorem dL_law_172 : decode cL_law 172 = .ok (.dup, 1) := by decide +kernel
theorem dL_law_173 : decode cL_law 173 = .ok (.iconst 2, 1) := by decide +kernel
theorem dL_law_174 : decode cL_law 174 = .ok (.iconst 0, 1) := by decide +kernel
theorem dL_law_175 : decode cL_law 175 = .ok (.iastore, 1) := by decide +kernel
theorem dL_law_176 : decode cL_law 176 = .ok (.dup, 1) := by decide +kernel
theorem dL_law_177 : decode cL_law 177 = .ok (.iconst 3, 1) := by decide +kernel
theorem dL_law_178 : decode cL_law 178 = .ok (.iconst 0, 1) := by decide +kernel
theorem dL_law_179 : decode cL_law 179 = .ok (.iastore, 1) := by decide +kernel
theorem dL_law_180 : decode cL_law 180 = .ok (.invokestatic 164, 3) := by decide +kernel
theorem dL_law_183 : decode cL_law 183 = .ok (.ldc 69, 2) := by decide +kernel
theorem dL_law_185 : decode cL_law 185 = .ok (.if_icmp .ne 780, 3) := by decide +kernel
theorem dL_law_188 : decode cL_law 188 = .ok (.aload_n 1, 1) := by decide +kernel
theorem dL_law_189 : decode cL_law 189 = .ok (.bipush 67, 2) := by decide +kernel
theorem dL_law_191 : decode cL_law 191 = .ok (.iconst 2, 1) := by decide +kernel
theorem dL_law_192 : decode cL_law 192 = .ok (.newarray .int, 2) := by decide +kernel
theorem dL_law_194 : decode cL_law 194 = .ok (.dup, 1) := by decide +kernel
theorem dL_law_195 : decode cL_law 195 = .ok (.iconst 0, 1) := by decide +kernel
theorem dL_law_196 : decode cL_law 196 = .ok (.iconst 0, 1) := by decide +kernel
theorem dL_law_197 : decode cL_law 197 = .ok (.iastore, 1) := by decide +kernel
theorem dL_law_198 : decode cL_law 198 = .ok (.dup, 1) := by decide +kernel
theorem dL_law_199 : decode cL_law 199 = .ok (.iconst 1, 1) := by decide +kernel
theorem dL_law_200 : decode cL_law 200 = .ok (.iconst 1, 1) := by decide +kernel
theorem dL_law_201 : decode cL_law 201 = .ok (.iastore, 1) := by decide +kernel
theorem dL_law_202 : decode cL_law 202 = .ok (.invokestatic 164, 3) := by decide +kernel
theorem dL_law_205 : decode cL_law 205 = .ok (.ldc 69, 2) := by decide +kernel
theorem dL_law_207 : decode cL_law 207 = .ok (.if_icmp .ne 758, 3) := by decide +kernel
theorem dL_law_210 : decode cL_law 210 = .ok (.aload_n 1, 1) := by decide +kernel
theorem dL_law_211 : decode cL_law 211 = .ok (.bipush 120, 2) := by decide +kernel
theorem dL_law_213 : decode cL_law 213 = .ok (.iconst 1, 1) := by decide +kernel
theorem dL_law_214 : decode cL_law 214 = .ok (.newarray .int, 2) := by decide +kernel
theorem dL_law_216 : decode cL_law 216 = .ok (.dup, 1) := by decide +kernel
theorem dL_law_217 : decode cL_law 217 = .ok (.iconst 0, 1) := by decide +kernel
theorem dL_law_218 : decode cL_law 218 = .ok (.iconst 0, 1) := by decide +kernel
theorem dL_law_219 : decode cL_law 219 = .ok (.iastore, 1) := by decide +kernel
theorem dL_law_220 : decode cL_law 220 = .ok (.invokestatic 164, 3) := by decide +kernel
theorem dL_law_223 : decode cL_law 223 = .ok (.ldc 69, 2) := by decide +kernel
theorem dL_law_225 : decode cL_law 225 = .ok (.if_icmp .ne 740, 3) := by decide +kernel
theorem dL_law_228 : decode cL_law 228 = .ok (.aload_n 1, 1) := by decide +kernel
theorem dL_law_229 : decode cL_law 229 = .ok (.bipush 116, 2) := by decide +kernel
theorem dL_law_231 : decode cL_law 231 = .ok (.iconst 1, 1) := by decide +kernel
theorem dL_law_232 : decode cL_law 232 = .ok (.newarray .int, 2) := by decide +kernel
theorem dL_law_234 : decode cL_law 234 = .ok (.dup, 1) := by decide +kernel
theorem dL_law_235 : decode cL_law 235 = .ok (.iconst 0, 1) := by decide +kernel
theorem dL_law_236 : decode cL_law 236 = .ok (.iconst 0, 1) := by decide +kernel
theorem dL_law_237 : decode cL_law 237 = .ok (.iastore, 1) := by decide +kernel
theorem dL_law_238 : decode cL_law 238 = .ok (.invokestatic 164, 3) := by decide +kernel
theorem dL_law_241 : decode cL_law 241 = .ok (.ldc 69, 2) := by decide +kernel
theorem dL_law_243 : decode cL_law 243 = .ok (.if_icmp .ne 722, 3) := by decide +kernel
theorem dL_law_246 : decode cL_law 246 = .ok (.aload_n 1, 1) := by decide +kernel
theorem dL_law_247 : decode cL_law 247 = .ok (.bipush 101, 2) := by decide +kernel
theorem dL_law_249 : decode cL_law 249 = .ok (.iconst 1, 1) := by decide +kernel
theorem dL_law_250 : decode cL_law 250 = .ok (.newarray .int, 2) := by decide +kernel
theorem dL_law_252 : decode cL_law 252 = .ok (.dup, 1) := by decide +kernel
theorem dL_law_253 : decode cL_law 253 = .ok (.iconst 0, 1) := by decide +kernel
theorem dL_law_254 : decode cL_law 254 = .ok (.iconst 0, 1) := by decide +kernel
theorem dL_law_255 : decode cL_law 255 = .ok (.iastore, 1) := by decide +kernel
theorem dL_law_256 : decode cL_law 256 = .ok (.invokestatic 164, 3) := by decide +kernel
theorem dL_law_259 : decode cL_law 259 = .ok (.ldc 69, 2) := by decide +kernel
theorem dL_law_261 : decode cL_law 261 = .ok (.if_icmp .ne 704, 3) := by decide +kernel
theorem dL_law_264 : decode cL_law 264 = .ok (.aload_n 1, 1) := by decide +kernel
theorem dL_law_265 : decode cL_law 265 = .ok (.bipush 115, 2) := by decide +kernel
theorem dL_law_267 : decode cL_law 267 = .ok (.iconst 1, 1) := by decide +kernel
theorem dL_law_268 : decode cL_law 268 = .ok (.newarray .int, 2) := by decide +kernel
theorem dL_law_270 : decode cL_law 270 = .ok (.dup, 1) := by decide +kernel
theorem dL_law_271 : decode cL_law 271 = .ok (.iconst 0, 1) := by decide +kernel
theorem dL_law_272 : decode cL_law 272 = .ok (.iconst 0, 1) := by decide +kernel
theorem dL_law_273 : decode cL_law 273 = .ok (.iastore, 1) := by decide +kernel
theorem dL_law_274 : decode cL_law 274 = .ok (.invokestatic 164, 3) := by decide +kernel
theorem dL_law_277 : decode cL_law 277 = .ok (.ldc 69, 2) := by decide +kernel
theorem dL_law_279 : decode cL_law 279 = .ok (.if_icmp .ne 686, 3) := by decide +kernel
theorem dL_law_282 : decode cL_law 282 = .ok (.aload_n 1, 1) := by decide +kernel
theorem dL_law_283 : decode cL_law 283 = .ok (.bipush 78, 2) := by decide +kernel
theorem dL_law_285 : decode cL_law 285 = .ok (.iconst 1, 1) := by decide +kernel
theorem dL_law_286 : decode cL_law 286 = .ok (.newarray .int, 2) := by decide +kernel
theorem dL_law_288 : decode cL_law 288 = .ok (.dup, 1) := by decide +kernel
theorem dL_law_289 : decode cL_law 289 = .ok (.iconst 0, 1) := by decide +kernel
theorem dL_law_290 : decode cL_law 290 = .ok (.bipush 120, 2) := by decide +kernel
theorem dL_law_292 : decode cL_law 292 = .ok (.iastore, 1) := by decide +kernel
theorem dL_law_293 : decode cL_law 293 = .ok (.invokestatic 164, 3) := by decide +kernel
theorem dL_law_296 : decode cL_law 296 = .ok (.ldc 72, 2) := by decide +kernel
theorem dL_law_298 : decode cL_law 298 = .ok (.if_icmp .ne 667, 3) := by decide +kernel
theorem dL_law_301 : decode cL_law 301 = .ok (.aload_n 1, 1) := by decide +kernel
theorem dL_law_302 : decode cL_law 302 = .ok (.bipush 78, 2) := by decide +kernel
theorem dL_law_304 : decode cL_law 304 = .ok (.iconst 1, 1) := by decide +kernel
theorem dL_law_305 : decode cL_law 305 = .ok (.newarray .int, 2) := by decide +kernel
theorem dL_law_307 : decode cL_law 307 = .ok (.dup, 1) := by decide +kernel
theorem dL_law_308 : decode cL_law 308 = .ok (.iconst 0, 1) := by decide +kernel
theorem dL_law_309 : decode cL_law 309 = .ok (.bipush 110, 2) := by decide +kernel
theorem dL_law_311 : decode cL_law 311 = .ok (.iastore, 1) := by decide +kernel
theorem dL_law_312 : decode cL_law 312 = .ok (.invokestatic 164, 3) := by decide +kernel
theorem dL_law_315 : decode cL_law 315 = .ok (.ifCond .ne 650, 3) := by decide +kernel
theorem dL_law_318 : decode cL_law 318 = .ok (.aload_n 1, 1) := by decide +kernel
theorem dL_law_319 : decode cL_law 319 = .ok (.bipush 80, 2) := by decide +kernel
theorem dL_law_321 : decode cL_law 321 = .ok (.iconst 1, 1) := by decide +kernel
theorem dL_law_322 : decode cL_law 322 = .ok (.newarray .int, 2) := by decide +kernel
theorem dL_law_324 : decode cL_law 324 = .ok (.dup, 1) := by decide +kernel
theorem dL_law_325 : decode cL_law 325 = .ok (.iconst 0, 1) := by decide +kernel
theorem dL_law_326 : decode cL_law 326 = .ok (.bipush 50, 2) := by decide +kernel
theorem dL_law_328 : decode cL_law 328 = .ok (.iastore, 1) := by decide +kernel
theorem dL_law_329 : decode cL_law 329 = .ok (.invokestatic 164, 3) := by decide +kernel
theorem dL_law_332 : decode cL_law 332 = .ok (.ldc 72, 2) := by decide +kernel
theorem dL_law_334 : decode cL_law 334 = .ok (.if_icmp .ne 631, 3) := by decide +kernel
theorem dL_law_337 : decode cL_law 337 = .ok (.aload_n 1, 1) := by decide +kernel
theorem dL_law_338 : decode cL_law 338 = .ok (.bipush 80, 2) := by decide +kernel
theorem dL_law_340 : decode cL_law 340 = .ok (.iconst 1, 1) := by decide +kernel
theorem dL_law_341 : decode cL_law 341 = .ok (.newarray .int, 2) := by decide +kernel
theorem dL_law_343 : decode cL_law 343 = .ok (.dup, 1) := by decide +kernel
theorem dL_law_344 : decode cL_law 344 = .ok (.iconst 0, 1) := by decide +kernel
theorem dL_law_345 : decode cL_law 345 = .ok (.iconst 0, 1) := by decide +kernel
theorem dL_law_346 : decode cL_law 346 = .ok (.iastore, 1) := by decide +kernel
theorem dL_law_347 : decode cL_law 347 = .ok (.invokestatic 164, 3) := by decide +kernel
theorem dL_law_350 : decode cL_law 350 = .ok (.ifCond .ne 615, 3) := by decide +kernel
theorem dL_law_353 : decode cL_law 353 = .ok (.aload_n 1, 1) := by decide +kernel
theorem dL_law_354 : decode cL_law 354 = .ok (.bipush 97, 2) := by decide +kernel
theorem dL_law_356 : decode cL_law 356 = .ok (.iconst 1, 1) := by decide +kernel
theorem dL_law_357 : decode cL_law 357 = .ok (.newarray .int, 2) := by decide +kernel
theorem dL_law_359 : decode cL_law 359 = .ok (.dup, 1) := by decide +kernel
theorem dL_law_360 : decode cL_law 360 = .ok (.iconst 0, 1) := by decide +kernel
theorem dL_law_361 : decode cL_law 361 = .ok (.iconst 0, 1) := by decide +kernel
theorem dL_law_362 : decode cL_law 362 = .ok (.iastore, 1) := by decide +kernel
theorem dL_law_363 : decode cL_law 363 = .ok (.invokestatic 164, 3) := by decide +kernel
theorem dL_law_366 : decode cL_law 366 = .ok (.ldc 69, 2) := by decide +kernel
theorem dL_law_368 : decode cL_law 368 = .ok (.if_icmp .ne 597, 3) := by decide +kernel
theorem dL_law_371 : decode cL_law 371 = .ok (.aload_n 1, 1) := by decide +kernel
theorem dL_law_372 : decode cL_law 372 = .ok (.bipush 69, 2) := by decide +kernel
theorem dL_law_374 : decode cL_law 374 = .ok (.iconst 2, 1) := by decide +kernel
theorem dL_law_375 : decode cL_law 375 = .ok (.newarray .int, 2) := by decide +kernel
theorem dL_law_377 : decode cL_law 377 = .ok (.dup, 1) := by decide +kernel
theorem dL_law_378 : decode cL_law 378 = .ok (.iconst 0, 1) := by decide +kernel
theorem dL_law_379 : decode cL_law 379 = .ok (.iconst 0, 1) := by decide +kernel
theorem dL_law_380 : decode cL_law 380 = .ok (.iastore, 1) := by decide +kernel
theorem dL_law_381 : decode cL_law 381 = .ok (.dup, 1) := by decide +kernel
theorem dL_law_382 : decode cL_law 382 = .ok (.iconst 1, 1) := by decide +kernel
theorem dL_law_383 : decode cL_law 383 = .ok (.iconst 0, 1) := by decide +kernel
theorem dL_law_384 : decode cL_law 384 = .ok (.iastore, 1) := by decide +kernel
theorem dL_law_385 : decode cL_law 385 = .ok (.invokestatic 164, 3) := by decide +kernel
theorem dL_law_388 : decode cL_law 388 = .ok (.ldc 69, 2) := by decide +kernel
theorem dL_law_390 : decode cL_law 390 = .ok (.if_icmp .ne 575, 3) := by decide +kernel
theorem dL_law_393 : decode cL_law 393 = .ok (.aload_n 1, 1) := by decide +kernel
theorem dL_law_394 : decode cL_law 394 = .ok (.bipush 114, 2) := by decide +kernel
theorem dL_law_396 : decode cL_law 396 = .ok (.iconst 1, 1) := by decide +kernel
theorem dL_law_397 : decode cL_law 397 = .ok (.newarray .int, 2) := by decide +kernel
theorem dL_law_399 : decode cL_law 399 = .ok (.dup, 1) := by decide +kernel
theorem dL_law_400 : decode cL_law 400 = .ok (.iconst 0, 1) := by decide +kernel
theorem dL_law_401 : decode cL_law 401 = .ok (.iconst 0, 1) := by decide +kernel
theorem dL_law_402 : decode cL_law 402 = .ok (.iastore, 1) := by decide +kernel
theorem dL_law_403 : decode cL_law 403 = .ok (.invokestatic 164, 3) := by decide +kernel
theorem dL_law_406 : decode cL_law 406 = .ok (.ldc 69, 2) := by decide +kernel
theorem dL_law_408 : decode cL_law 408 = .ok (.if_icmp .ne 557, 3) := by decide +kernel
theorem dL_law_411 : decode cL_law 411 = .ok (.aload_n 1, 1) := by decide +kernel
theorem dL_law_412 : decode cL_law 412 = .ok (.bipush 65, 2) := by decide +kernel
theorem dL_law_414 : decode cL_law 414 = .ok (.iconst 1, 1) := by decide +kernel
theorem dL_law_415 : decode cL_law 415 = .ok (.newarray .int, 2) := by decide +kernel
theorem dL_law_417 : decode cL_law 417 = .ok (.dup, 1) := by decide +kernel
theorem dL_law_418 : decode cL_law 418 = .ok (.iconst 0, 1) := by decide +kernel
theorem dL_law_419 : decode cL_law 419 = .ok (.iconst 0, 1) := by decide +kernel
theorem dL_law_420 : decode cL_law 420 = .ok (.iastore, 1) := by decide +kernel
theorem dL_law_421 : decode cL_law 421 = .ok (.invokestatic 164, 3) := by decide +kernel
theorem dL_law_424 : decode cL_law 424 = .ok (.ldc 69, 2) := by decide +kernel
theorem dL_law_426 : decode cL_law 426 = .ok (.if_icmp .ne 539, 3) := by decide +kernel
theorem dL_law_429 : decode cL_law 429 = .ok (.aload_n 1, 1) := by decide +kernel
theorem dL_law_430 : decode cL_law 430 = .ok (.bipush 83, 2) := by decide +kernel
theorem dL_law_432 : decode cL_law 432 = .ok (.iconst 1, 1) := by decide +kernel
theorem dL_law_433 : decode cL_law 433 = .ok (.newarray .int, 2) := by decide +kernel
theorem dL_law_435 : decode cL_law 435 = .ok (.dup, 1) := by decide +kernel
theorem dL_law_436 : decode cL_law 436 = .ok (.iconst 0, 1) := by decide +kernel
theorem dL_law_437 : decode cL_law 437 = .ok (.iconst 0, 1) := by decide +kernel
theorem dL_law_438 : decode cL_law 438 = .ok (.iastore, 1) := by decide +kernel
theorem dL_law_439 : decode cL_law 439 = .ok (.invokestatic 164, 3) := by decide +kernel
theorem dL_law_442 : decode cL_law 442 = .ok (.ldc 69, 2) := by decide +kernel
theorem dL_law_444 : decode cL_law 444 = .ok (.if_icmp .ne 521, 3) := by decide +kernel
theorem dL_law_447 : decode cL_law 447 = .ok (.aload_n 1, 1) := by decide +kernel
theorem dL_law_448 : decode cL_law 448 = .ok (.bipush 111, 2) := by decide +kernel
theorem dL_law_450 : decode cL_law 450 = .ok (.iconst 1, 1) := by decide +kernel
theorem dL_law_451 : decode cL_law 451 = .ok (.newarray .int, 2) := by decide +kernel
theorem dL_law_453 : decode cL_law 453 = .ok (.dup, 1) := by decide +kernel
theorem dL_law_454 : decode cL_law 454 = .ok (.iconst 0, 1) := by decide +kernel
theorem dL_law_455 : decode cL_law 455 = .ok (.iconst 0, 1) := by decide +kernel
theorem dL_law_456 : decode cL_law 456 = .ok (.iastore, 1) := by decide +kernel
theorem dL_law_457 : decode cL_law 457 = .ok (.invokestatic 164, 3) := by decide +kernel
theorem dL_law_460 : decode cL_law 460 = .ok (.ldc 69, 2) := by decide +kernel
theorem dL_law_462 : decode cL_law 462 = .ok (.if_icmp .ne 503, 3) := by decide +kernel
theorem dL_law_465 : decode cL_law 465 = .ok (.aload_n 1, 1) := by decide +kernel
theorem dL_law_466 : decode cL_law 466 = .ok (.bipush 110, 2) := by decide +kernel
theorem dL_law_468 : decode cL_law 468 = .ok (.iconst 0, 1) := by decide +kernel
theorem dL_law_469 : decode cL_law 469 = .ok (.newarray .int, 2) := by decide +kernel
theorem dL_law_471 : decode cL_law 471 = .ok (.invokestatic 164, 3) := by decide +kernel
theorem dL_law_474 : decode cL_law 474 = .ok (.ldc 81, 2) := by decide +kernel
theorem dL_law_476 : decode cL_law 476 = .ok (.if_icmp .ne 489, 3) := by decide +kernel
theorem dL_law_479 : decode cL_law 479 = .ok (.aload_n 1, 1) := by decide +kernel
theorem dL_law_480 : decode cL_law 480 = .ok (.bipush 106, 2) := by decide +kernel
theorem dL_law_482 : decode cL_law 482 = .ok (.iconst 2, 1) := by decide +kernel
theorem dL_law_483 : decode cL_law 483 = .ok (.newarray .int, 2) := by decide +kernel
theorem dL_law_485 : decode cL_law 485 = .ok (.dup, 1) := by decide +kernel
theorem dL_law_486 : decode cL_law 486 = .ok (.iconst 0, 1) := by decide +kernel
theorem dL_law_487 : decode cL_law 487 = .ok (.iconst 0, 1) := by decide +kernel
theorem dL_law_488 : decode cL_law 488 = .ok (.iastore, 1) := by decide +kernel
theorem dL_law_489 : decode cL_law 489 = .ok (.dup, 1) := by decide +kernel
theorem dL_law_490 : decode cL_law 490 = .ok (.iconst 1, 1) := by decide +kernel
theorem dL_law_491 : decode cL_law 491 = .ok (.iconst 0, 1) := by decide +kernel
theorem dL_law_492 : decode cL_law 492 = .ok (.iastore, 1) := by decide +kernel
theorem dL_law_493 : decode cL_law 493 = .ok (.invokestatic 164, 3) := by decide +kernel
theorem dL_law_496 : decode cL_law 496 = .ok (.ldc 69, 2) := by decide +kernel
theorem dL_law_498 : decode cL_law 498 = .ok (.if_icmp .ne 467, 3) := by decide +kernel
theorem dL_law_501 : decode cL_law 501 = .ok (.aload_n 1, 1) := by decide +kernel
theorem dL_law_502 : decode cL_law 502 = .ok (.bipush 113, 2) := by decide +kernel
theorem dL_law_504 : decode cL_law 504 = .ok (.iconst 1, 1) := by decide +kernel
theorem dL_law_505 : decode cL_law 505 = .ok (.newarray .int, 2) := by decide +kernel
theorem dL_law_507 : decode cL_law 507 = .ok (.dup, 1) := by decide +kernel
theorem dL_law_508 : decode cL_law 508 = .ok (.iconst 0, 1) := by decide +kernel
theorem dL_law_509 : decode cL_law 509 = .ok (.iconst 0, 1) := by decide +kernel
theorem dL_law_510 : decode cL_law 510 = .ok (.iastore, 1) := by decide +kernel
theorem dL_law_511 : decode cL_law 511 = .ok (.invokestatic 164, 3) := by decide +kernel
theorem dL_law_514 : decode cL_law 514 = .ok (.ldc 69, 2) := by decide +kernel
theorem dL_law_516 : decode cL_law 516 = .ok (.if_icmp .ne 449, 3) := by decide +kernel
theorem dL_law_519 : decode cL_law 519 = .ok (.aload_n 1, 1) := by decide +kernel
theorem dL_law_520 : decode cL_law 520 = .ok (.bipush 108, 2) := by decide +kernel
theorem dL_law_522 : decode cL_law 522 = .ok (.iconst 1, 1) := by decide +kernel
theorem dL_law_523 : decode cL_law 523 = .ok (.newarray .int, 2) := by decide +kernel
theorem dL_law_525 : decode cL_law 525 = .ok (.dup, 1) := by decide +kernel
theorem dL_law_526 : decode cL_law 526 = .ok (.iconst 0, 1) := by decide +kernel
theorem dL_law_527 : decode cL_law 527 = .ok (.iconst 0, 1) := by decide +kernel
theorem dL_law_528 : decode cL_law 528 = .ok (.iastore, 1) := by decide +kernel
theorem dL_law_529 : decode cL_law 529 = .ok (.invokestatic 164, 3) := by decide +kernel
theorem dL_law_532 : decode cL_law 532 = .ok (.ldc 69, 2) := by decide +kernel
theorem dL_law_534 : decode cL_law 534 = .ok (.if_icmp .ne 431, 3) := by decide +kernel
theorem dL_law_537 : decode cL_law 537 = .ok (.aload_n 1, 1) := by decide +kernel
theorem dL_law_538 : decode cL_law 538 = .ok (.bipush 74, 2) := by decide +kernel
theorem dL_law_540 : decode cL_law 540 = .ok (.iconst 1, 1) := by decide +kernel
theorem dL_law_541 : decode cL_law 541 = .ok (.newarray .int, 2) := by decide +kernel
theorem dL_law_543 : decode cL_law 543 = .ok (.dup, 1) := by decide +kernel
theorem dL_law_544 : decode cL_law 544 = .ok (.iconst 0, 1) := by decide +kernel
theorem dL_law_545 : decode cL_law 545 = .ok (.iconst 0, 1) := by decide +kernel
theorem dL_law_546 : decode cL_law 546 = .ok (.iastore, 1) := by decide +kernel
theorem dL_law_547 : decode cL_law 547 = .ok (.invokestatic 164, 3) := by decide +kernel
theorem dL_law_550 : decode cL_law 550 = .ok (.ldc 69, 2) := by decide +kernel
theorem dL_law_552 : decode cL_law 552 = .ok (.if_icmp .ne 413, 3) := by decide +kernel
theorem dL_law_555 : decode cL_law 555 = .ok (.aload_n 1, 1) := by decide +kernel
theorem dL_law_556 : decode cL_law 556 = .ok (.bipush 119, 2) := by decide +kernel
theorem dL_law_558 : decode cL_law 558 = .ok (.iconst 2, 1) := by decide +kernel
theorem dL_law_559 : decode cL_law 559 = .ok (.newarray .int, 2) := by decide +kernel
theorem dL_law_561 : decode cL_law 561 = .ok (.dup, 1) := by decide +kernel
theorem dL_law_562 : decode cL_law 562 = .ok (.iconst 0, 1) := by decide +kernel
theorem dL_law_563 : decode cL_law 563 = .ok (.iconst 5, 1) := by decide +kernel
theorem dL_law_564 : decode cL_law 564 = .ok (.iastore, 1) := by decide +kernel
theorem dL_law_565 : decode cL_law 565 = .ok (.dup, 1) := by decide +kernel
theorem dL_law_566 : decode cL_law 566 = .ok (.iconst 1, 1) := by decide +kernel
theorem dL_law_567 : decode cL_law 567 = .ok (.iconst 1, 1) := by decide +kernel
theorem dL_law_568 : decode cL_law 568 = .ok (.iastore, 1) := by decide +kernel
theorem dL_law_569 : decode cL_law 569 = .ok (.invokestatic 164, 3) := by decide +kernel
theorem dL_law_572 : decode cL_law 572 = .ok (.ldc 72, 2) := by decide +kernel
theorem dL_law_574 : decode cL_law 574 = .ok (.if_icmp .ne 391, 3) := by decide +kernel
theorem dL_law_577 : decode cL_law 577 = .ok (.aload_n 1, 1) := by decide +kernel
theorem dL_law_578 : decode cL_law 578 = .ok (.bipush 119, 2) := by decide +kernel
theorem dL_law_580 : decode cL_law 580 = .ok (.iconst 2, 1) := by decide +kernel
theorem dL_law_581 : decode cL_law 581 = .ok (.newarray .int, 2) := by decide +kernel
theorem dL_law_583 : decode cL_law 583 = .ok (.dup, 1) := by decide +kernel
theorem dL_law_584 : decode cL_law 584 = .ok (.iconst 0, 1) := by decide +kernel
theorem dL_law_585 : decode cL_law 585 = .ok (.iconst 0, 1) := by decide +kernel
theorem dL_law_586 : decode cL_law 586 = .ok (.iastore, 1) := by decide +kernel
theorem dL_law_587 : decode cL_law 587 = .ok (.dup, 1) := by decide +kernel
theorem dL_law_588 : decode cL_law 588 = .ok (.iconst 1, 1) := by decide +kernel
theorem dL_law_589 : decode cL_law 589 = .ok (.bipush 10, 2) := by decide +kernel
theorem dL_law_591 : decode cL_law 591 = .ok (.iastore, 1) := by decide +kernel
theorem dL_law_592 : decode cL_law 592 = .ok (.invokestatic 164, 3) := by decide +kernel
theorem dL_law_595 : decode cL_law 595 = .ok (.ldc 72, 2) := by decide +kernel
theorem dL_law_597 : decode cL_law 597 = .ok (.if_icmp .ne 368, 3) := by decide +kernel
theorem dL_law_600 : decode cL_law 600 = .ok (.aload_n 1, 1) := by decide +kernel
theorem dL_law_601 : decode cL_law 601 = .ok (.bipush 119, 2) := by decide +kernel
theorem dL_law_603 : decode cL_law 603 = .ok (.iconst 2, 1) := by decide +kernel
theorem dL_law_604 : decode cL_law 604 = .ok (.newarray .int, 2) := by decide +kernel
theorem dL_law_606 : decode cL_law 606 = .ok (.dup, 1) := by decide +kernel
theorem dL_law_607 : decode cL_law 607 = .ok (.iconst 0, 1) := by decide +kernel
theorem dL_law_608 : decode cL_law 608 = .ok (.iconst 4, 1) := by decide +kernel
theorem dL_law_609 : decode cL_law 609 = .ok (.iastore, 1) := by decide +kernel
theorem dL_law_610 : decode cL_law 610 = .ok (.dup, 1) := by decide +kernel
theorem dL_law_611 : decode cL_law 611 = .ok (.iconst 1, 1) := by decide +kernel
theorem dL_law_612 : decode cL_law 612 = .ok (.bipush 9, 2) := by decide +kernel
theorem dL_law_614 : decode cL_law 614 = .ok (.iastore, 1) := by decide +kernel
theorem dL_law_615 : decode cL_law 615 = .ok (.invokestatic 164, 3) := by decide +kernel
theorem dL_law_618 : decode cL_law 618 = .ok (.iconst 1, 1) := by decide +kernel
theorem dL_law_619 : decode cL_law 619 = .ok (.if_icmp .ne 346, 3) := by decide +kernel
theorem dL_law_622 : decode cL_law 622 = .ok (.aload_n 1, 1) := by decide +kernel
theorem dL_law_623 : decode cL_law 623 = .ok (.bipush 119, 2) := by decide +kernel
theorem dL_law_625 : decode cL_law 625 = .ok (.iconst 2, 1) := by decide +kernel
theorem dL_law_626 : decode cL_law 626 = .ok (.newarray .int, 2) := by decide +kernel
theorem dL_law_628 : decode cL_law 628 = .ok (.dup, 1) := by decide +kernel
theorem dL_law_629 : decode cL_law 629 = .ok (.iconst 0, 1) := by decide +kernel
theorem dL_law_630 : decode cL_law 630 = .ok (.iconst 4, 1) := by decide +kernel
theorem dL_law_631 : decode cL_law 631 = .ok (.iastore, 1) := by decide +kernel
theorem dL_law_632 : decode cL_law 632 = .ok (.dup, 1) := by decide +kernel
theorem dL_law_633 : decode cL_law 633 = .ok (.iconst 1, 1) := by decide +kernel
theorem dL_law_634 : decode cL_law 634 = .ok (.iconst 1, 1) := by decide +kernel
theorem dL_law_635 : decode cL_law 635 = .ok (.iastore, 1) := by decide +kernel
theorem dL_law_636 : decode cL_law 636 = .ok (.invokestatic 164, 3) := by decide +kernel
theorem dL_law_639 : decode cL_law 639 = .ok (.bipush 9, 2) := by decide +kernel
theorem dL_law_641 : decode cL_law 641 = .ok (.if_icmp .ne 324, 3) := by decide +kernel
theorem dL_law_644 : decode cL_law 644 = .ok (.aload_n 1, 1) := by decide +kernel
theorem dL_law_645 : decode cL_law 645 = .ok (.bipush 102, 2) := by decide +kernel
theorem dL_law_647 : decode cL_law 647 = .ok (.iconst 2, 1) := by decide +kernel
theorem dL_law_648 : decode cL_law 648 = .ok (.newarray .int, 2) := by decide +kernel
theorem dL_law_650 : decode cL_law 650 = .ok (.dup, 1) := by decide +kernel
theorem dL_law_651 : decode cL_law 651 = .ok (.iconst 0, 1) := by decide +kernel
theorem dL_law_652 : decode cL_law 652 = .ok (.iconst 0, 1) := by decide +kernel
theorem dL_law_653 : decode cL_law 653 = .ok (.iastore, 1) := by decide +kernel
theorem dL_law_654 : decode cL_law 654 = .ok (.dup, 1) := by decide +kernel
theorem dL_law_655 : decode cL_law 655 = .ok (.iconst 1, 1) := by decide +kernel
theorem dL_law_656 : decode cL_law 656 = .ok (.bipush 32, 2) := by decide +kernel
theorem dL_law_658 : decode cL_law 658 = .ok (.iastore, 1) := by decide +kernel
theorem dL_law_659 : decode cL_law 659 = .ok (.invokestatic 164, 3) := by decide +kernel
theorem dL_law_662 : decode cL_law 662 = .ok (.ldc 69, 2) := by decide +kernel
theorem dL_law_664 : decode cL_law 664 = .ok (.if_icmp .ne 301, 3) := by decide +kernel
theorem dL_law_667 : decode cL_law 667 = .ok (.aload_n 1, 1) := by decide +kernel
theorem dL_law_668 : decode cL_law 668 = .ok (.bipush 104, 2) := by decide +kernel
theorem dL_law_670 : decode cL_law 670 = .ok (.iconst 1, 1) := by decide +kernel
theorem dL_law_671 : decode cL_law 671 = .ok (.newarray .int, 2) := by decide +kernel
theorem dL_law_673 : decode cL_law 673 = .ok (.dup, 1) := by decide +kernel
theorem dL_law_674 : decode cL_law 674 = .ok (.iconst 0, 1) := by decide +kernel
theorem dL_law_675 : decode cL_law 675 = .ok (.iconst 0, 1) := by decide +kernel
theorem dL_law_676 : decode cL_law 676 = .ok (.iastore, 1) := by decide +kernel
theorem dL_law_677 : decode cL_law 677 = .ok (.invokestatic 164, 3) := by decide +kernel
theorem dL_law_680 : decode cL_law 680 = .ok (.ldc 69, 2) := by decide +kernel
theorem dL_law_682 : decode cL_law 682 = .ok (.if_icmp .ne 283, 3) := by decide +kernel
theorem dL_law_685 : decode cL_law 685 = .ok (.aload_n 1, 1) := by decide +kernel
theorem dL_law_686 : decode cL_law 686 = .ok (.bipush 82, 2) := by decide +kernel
theorem dL_law_688 : decode cL_law 688 = .ok (.iconst 1, 1) := by decide +kernel
theorem dL_law_689 : decode cL_law 689 = .ok (.newarray .int, 2) := by decide +kernel
theorem dL_law_691 : decode cL_law 691 = .ok (.dup, 1) := by decide +kernel
theorem dL_law_692 : decode cL_law 692 = .ok (.iconst 0, 1) := by decide +kernel
theorem dL_law_693 : decode cL_law 693 = .ok (.iconst 0, 1) := by decide +kernel
theorem dL_law_694 : decode cL_law 694 = .ok (.iastore, 1) := by decide +kernel
theorem dL_law_695 : decode cL_law 695 = .ok (.invokestatic 164, 3) := by decide +kernel
theorem dL_law_698 : decode cL_law 698 = .ok (.ldc 69, 2) := by decide +kernel
theorem dL_law_700 : decode cL_law 700 = .ok (.if_icmp .ne 265, 3) := by decide +kernel
theorem dL_law_703 : decode cL_law 703 = .ok (.aload_n 1, 1) := by decide +kernel
theorem dL_law_704 : decode cL_law 704 = .ok (.bipush 121, 2) := by decide +kernel
theorem dL_law_706 : decode cL_law 706 = .ok (.iconst 2, 1) := by decide +kernel
theorem dL_law_707 : decode cL_law 707 = .ok (.newarray .int, 2) := by decide +kernel
theorem dL_law_709 : decode cL_law 709 = .ok (.dup, 1) := by decide +kernel
theorem dL_law_710 : decode cL_law 710 = .ok (.iconst 0, 1) := by decide +kernel
theorem dL_law_711 : decode cL_law 711 = .ok (.iconst 0, 1) := by decide +kernel
theorem dL_law_712 : decode cL_law 712 = .ok (.iastore, 1) := by decide +kernel
theorem dL_law_713 : decode cL_law 713 = .ok (.dup, 1) := by decide +kernel
theorem dL_law_714 : decode cL_law 714 = .ok (.iconst 1, 1) := by decide +kernel
theorem dL_law_715 : decode cL_law 715 = .ok (.iconst 1, 1) := by decide +kernel
theorem dL_law_716 : decode cL_law 716 = .ok (.iastore, 1) := by decide +kernel
theorem dL_law_717 : decode cL_law 717 = .ok (.invokestatic 164, 3) := by decide +kernel
theorem dL_law_720 : decode cL_law 720 = .ok (.ldc 69, 2) := by decide +kernel
theorem dL_law_722 : decode cL_law 722 = .ok (.if_icmp .ne 243, 3) := by decide +kernel
theorem dL_law_725 : decode cL_law 725 = .ok (.aload_n 1, 1) := by decide +kernel
theorem dL_law_726 : decode cL_law 726 = .ok (.bipush 89, 2) := by decide +kernel
theorem dL_law_728 : decode cL_law 728 = .ok (.iconst 1, 1) := by decide +kernel
theorem dL_law_729 : decode cL_law 729 = .ok (.newarray .int, 2) := by decide +kernel
theorem dL_law_731 : decode cL_law 731 = .ok (.dup, 1) := by decide +kernel
theorem dL_law_732 : decode cL_law 732 = .ok (.iconst 0, 1) := by decide +kernel
theorem dL_law_733 : decode cL_law 733 = .ok (.iconst 0, 1) := by decide +kernel
theorem dL_law_734 : decode cL_law 734 = .ok (.iastore, 1) := by decide +kernel
theorem dL_law_735 : decode cL_law 735 = .ok (.invokestatic 164, 3) := by decide +kernel
theorem dL_law_738 : decode cL_law 738 = .ok (.ldc 69, 2) := by decide +kernel
theorem dL_law_740 : decode cL_law 740 = .ok (.if_icmp .ne 225, 3) := by decide +kernel
theorem dL_law_743 : decode cL_law 743 = .ok (.aload_n 1, 1) := by decide +kernel
theorem dL_law_744 : decode cL_law 744 = .ok (.bipush 72, 2) := by decide +kernel
theorem dL_law_746 : decode cL_law 746 = .ok (.iconst 1, 1) := by decide +kernel
theorem dL_law_747 : decode cL_law 747 = .ok (.newarray .int, 2) := by decide +kernel
theorem dL_law_749 : decode cL_law 749 = .ok (.dup, 1) := by decide +kernel
theorem dL_law_750 : decode cL_law 750 = .ok (.iconst 0, 1) := by decide +kernel
theorem dL_law_751 : decode cL_law 751 = .ok (.iconst 0, 1) := by decide +kernel
theorem dL_law_752 : decode cL_law 752 = .ok (.iastore, 1) := by decide +kernel
theorem dL_law_753 : decode cL_law 753 = .ok (.invokestatic 164, 3) := by decide +kernel
theorem dL_law_756 : decode cL_law 756 = .ok (.ldc 69, 2) := by decide +kernel
theorem dL_law_758 : decode cL_law 758 = .ok (.if_icmp .ne 207, 3) := by decide +kernel
theorem dL_law_761 : decode cL_law 761 = .ok (.aload_n 1, 1) := by decide +kernel
theorem dL_law_762 : decode cL_law 762 = .ok (.bipush 70, 2) := by decide +kernel
theorem dL_law_764 : decode cL_law 764 = .ok (.iconst 1, 1) := by decide +kernel
theorem dL_law_765 : decode cL_law 765 = .ok (.newarray .int, 2) := by decide +kernel
theorem dL_law_767 : decode cL_law 767 = .ok (.dup, 1) := by decide +kernel
theorem dL_law_768 : decode cL_law 768 = .ok (.iconst 0, 1) := by decide +kernel
theorem dL_law_769 : decode cL_law 769 = .ok (.iconst 0, 1) := by decide +kernel
theorem dL_law_770 : decode cL_law 770 = .ok (.iastore, 1) := by decide +kernel
theorem dL_law_771 : decode cL_law 771 = .ok (.invokestatic 164, 3) := by decide +kernel
theorem dL_law_774 : decode cL_law 774 = .ok (.ldc 69, 2) := by decide +kernel
theorem dL_law_776 : decode cL_law 776 = .ok (.if_icmp .ne 189, 3) := by decide +kernel
theorem dL_law_779 : decode cL_law 779 = .ok (.aload_n 1, 1) := by decide +kernel
theorem dL_law_780 : decode cL_law 780 = .ok (.bipush 87, 2) := by decide +kernel
theorem dL_law_782 : decode cL_law 782 = .ok (.iconst 1, 1) := by decide +kernel
theorem dL_law_783 : decode cL_law 783 = .ok (.newarray .int, 2) := by decide +kernel
theorem dL_law_785 : decode cL_law 785 = .ok (.dup, 1) := by decide +kernel
theorem dL_law_786 : decode cL_law 786 = .ok (.iconst 0, 1) := by decide +kernel
theorem dL_law_787 : decode cL_law 787 = .ok (.iconst 0, 1) := by decide +kernel
theorem dL_law_788 : decode cL_law 788 = .ok (.iastore, 1) := by decide +kernel
theorem dL_law_789 : decode cL_law 789 = .ok (.invokestatic 164, 3) := by decide +kernel
theorem dL_law_792 : decode cL_law 792 = .ok (.ldc 69, 2) := by decide +kernel
theorem dL_law_794 : decode cL_law 794 = .ok (.if_icmp .ne 171, 3) := by decide +kernel
theorem dL_law_797 : decode cL_law 797 = .ok (.aload_n 1, 1) := by decide +kernel
theorem dL_law_798 : decode cL_law 798 = .ok (.bipush 100, 2) := by decide +kernel
theorem dL_law_800 : decode cL_law 800 = .ok (.iconst 1, 1) := by decide +kernel
theorem dL_law_801 : decode cL_law 801 = .ok (.newarray .int, 2) := by decide +kernel
theorem dL_law_803 : decode cL_law 803 = .ok (.dup, 1) := by decide +kernel
theorem dL_law_804 : decode cL_law 804 = .ok (.iconst 0, 1) := by decide +kernel
theorem dL_law_805 : decode cL_law 805 = .ok (.iconst 0, 1) := by decide +kernel
theorem dL_law_806 : decode cL_law 806 = .ok (.iastore, 1) := by decide +kernel
theorem dL_law_807 : decode cL_law 807 = .ok (.invokestatic 164, 3) := by decide +kernel
theorem dL_law_810 : decode cL_law 810 = .ok (.ldc 69, 2) := by decide +kernel
theorem dL_law_812 : decode cL_law 812 = .ok (.if_icmp .ne 153, 3) := by decide +kernel
theorem dL_law_815 : decode cL_law 815 = .ok (.aload_n 1, 1) := by decide +kernel
theorem dL_law_816 : decode cL_law 816 = .ok (.bipush 79, 2) := by decide +kernel
theorem dL_law_818 : decode cL_law 818 = .ok (.iconst 2, 1) := by decide +kernel
theorem dL_law_819 : decode cL_law 819 = .ok (.newarray .int, 2) := by decide +kernel
theorem dL_law_821 : decode cL_law 821 = .ok (.dup, 1) := by decide +kernel
theorem dL_law_822 : decode cL_law 822 = .ok (.iconst 0, 1) := by decide +kernel
theorem dL_law_823 : decode cL_law 823 = .ok (.iconst 5, 1) := by decide +kernel
theorem dL_law_824 : decode cL_law 824 = .ok (.iastore, 1) := by decide +kernel
theorem dL_law_825 : decode cL_law 825 = .ok (.dup, 1) := by decide +kernel
theorem dL_law_826 : decode cL_law 826 = .ok (.iconst 1, 1) := by decide +kernel
theorem dL_law_827 : decode cL_law 827 = .ok (.iconst 3, 1) := by decide +kernel
theorem dL_law_828 : decode cL_law 828 = .ok (.iastore, 1) := by decide +kernel
theorem dL_law_829 : decode cL_law 829 = .ok (.invokestatic 164, 3) := by decide +kernel
theorem dL_law_832 : decode cL_law 832 = .ok (.ifCond .ne 133, 3) := by decide +kernel
theorem dL_law_835 : decode cL_law 835 = .ok (.aload_n 1, 1) := by decide +kernel
theorem dL_law_836 : decode cL_law 836 = .ok (.iconst 0, 1) := by decide +kernel
theorem dL_law_837 : decode cL_law 837 = .ok (.invokestatic 143, 3) := by decide +kernel
theorem dL_law_840 : decode cL_law 840 = .ok (.ifCond .ne 125, 3) := by decide +kernel
theorem dL_law_843 : decode cL_law 843 = .ok (.aload_n 1, 1) := by decide +kernel
theorem dL_law_844 : decode cL_law 844 = .ok (.bipush 99, 2) := by decide +kernel
theorem dL_law_846 : decode cL_law 846 = .ok (.iconst 4, 1) := by decide +kernel
theorem dL_law_847 : decode cL_law 847 = .ok (.newarray .int, 2) := by decide +kernel
theorem dL_law_849 : decode cL_law 849 = .ok (.dup, 1) := by decide +kernel
theorem dL_law_850 : decode cL_law 850 = .ok (.iconst 0, 1) := by decide +kernel
theorem dL_law_851 : decode cL_law 851 = .ok (.iconst 0, 1) := by decide +kernel
theorem dL_law_852 : decode cL_law 852 = .ok (.iastore, 1) := by decide +kernel
theorem dL_law_853 : decode cL_law 853 = .ok (.dup, 1) := by decide +kernel
theorem dL_law_854 : decode cL_law 854 = .ok (.iconst 1, 1) := by decide +kernel
theorem dL_law_855 : decode cL_law 855 = .ok (.bipush 10, 2) := by decide +kernel
theorem dL_law_857 : decode cL_law 857 = .ok (.iastore, 1) := by decide +kernel
theorem dL_law_858 : decode cL_law 858 = .ok (.dup, 1) := by decide +kernel
theorem dL_law_859 : decode cL_law 859 = .ok (.iconst 2, 1) := by decide +kernel
theorem dL_law_860 : decode cL_law 860 = .ok (.iconst 0, 1) := by decide +kernel
theorem dL_law_861 : decode cL_law 861 = .ok (.iastore, 1) := by decide +kernel
theorem dL_law_862 : decode cL_law 862 = .ok (.dup, 1) := by decide +kernel
theorem dL_law_863 : decode cL_law 863 = .ok (.iconst 3, 1) := by decide +kernel
theorem dL_law_864 : decode cL_law 864 = .ok (.iconst 0, 1) := by decide +kernel
theorem dL_law_865 : decode cL_law 865 = .ok (.iastore, 1) := by decide +kernel
theorem dL_law_866 : decode cL_law 866 = .ok (.invokestatic 164, 3) := by decide +kernel
theorem dL_law_869 : decode cL_law 869 = .ok (.ldc 72, 2) := by decide +kernel
theorem dL_law_871 : decode cL_law 871 = .ok (.if_icmp .ne 94, 3) := by decide +kernel
theorem dL_law_874 : decode cL_law 874 = .ok (.aload_n 1, 1) := by decide +kernel
theorem dL_law_875 : decode cL_law 875 = .ok (.bipush 99, 2) := by decide +kernel
theorem dL_law_877 : decode cL_law 877 = .ok (.iconst 4, 1) := by decide +kernel
theorem dL_law_878 : decode cL_law 878 = .ok (.newarray .int, 2) := by decide +kernel
theorem dL_law_880 : decode cL_law 880 = .ok (.dup, 1) := by decide +kernel
theorem dL_law_881 : decode cL_law 881 = .ok (.iconst 0, 1) := by decide +kernel
theorem dL_law_882 : decode cL_law 882 = .ok (.iconst 0, 1) := by decide +kernel
theorem dL_law_883 : decode cL_law 883 = .ok (.iastore, 1) := by decide +kernel
theorem dL_law_884 : decode cL_law 884 = .ok (.dup, 1) := by decide +kernel
theorem dL_law_885 : decode cL_law 885 = .ok (.iconst 1, 1) := by decide +kernel
theorem dL_law_886 : decode cL_law 886 = .ok (.iconst 0, 1) := by decide +kernel
theorem dL_law_887 : decode cL_law 887 = .ok (.iastore, 1) := by decide +kernel
theorem dL_law_888 : decode cL_law 888 = .ok (.dup, 1) := by decide +kernel
theorem dL_law_889 : decode cL_law 889 = .ok (.iconst 2, 1) := by decide +kernel
theorem dL_law_890 : decode cL_law 890 = .ok (.bipush 50, 2) := by decide +kernel
theorem dL_law_892 : decode cL_law 892 = .ok (.iastore, 1) := by decide +kernel
theorem dL_law_893 : decode cL_law 893 = .ok (.dup, 1) := by decide +kernel
theorem dL_law_894 : decode cL_law 894 = .ok (.iconst 3, 1) := by decide +kernel
theorem dL_law_895 : decode cL_law 895 = .ok (.iconst 0, 1) := by decide +kernel
theorem dL_law_896 : decode cL_law 896 = .ok (.iastore, 1) := by decide +kernel
theorem dL_law_897 : decode cL_law 897 = .ok (.invokestatic 164, 3) := by decide +kernel
theorem dL_law_900 : decode cL_law 900 = .ok (.ldc 72, 2) := by decide +kernel
theorem dL_law_902 : decode cL_law 902 = .ok (.if_icmp .ne 63, 3) := by decide +kernel
theorem dL_law_905 : decode cL_law 905 = .ok (.aload_n 1, 1) := by decide +kernel
theorem dL_law_906 : decode cL_law 906 = .ok (.bipush 99, 2) := by decide +kernel
theorem dL_law_908 : decode cL_law 908 = .ok (.iconst 4, 1) := by decide +kernel
theorem dL_law_909 : decode cL_law 909 = .ok (.newarray .int, 2) := by decide +kernel
theorem dL_law_911 : decode cL_law 911 = .ok (.dup, 1) := by decide +kernel
theorem dL_law_912 : decode cL_law 912 = .ok (.iconst 0, 1) := by decide +kernel
theorem dL_law_913 : decode cL_law 913 = .ok (.iconst 0, 1) := by decide +kernel
theorem dL_law_914 : decode cL_law 914 = .ok (.iastore, 1) := by decide +kernel
theorem dL_law_915 : decode cL_law 915 = .ok (.dup, 1) := by decide +kernel
theorem dL_law_916 : decode cL_law 916 = .ok (.iconst 1, 1) := by decide +kernel
theorem dL_law_917 : decode cL_law 917 = .ok (.iconst 0, 1) := by decide +kernel
theorem dL_law_918 : decode cL_law 918 = .ok (.iastore, 1) := by decide +kernel
theorem dL_law_919 : decode cL_law 919 = .ok (.dup, 1) := by decide +kernel
theorem dL_law_920 : decode cL_law 920 = .ok (.iconst 2, 1) := by decide +kernel
theorem dL_law_921 : decode cL_law 921 = .ok (.iconst 0, 1) := by decide +kernel
theorem dL_law_922 : decode cL_law 922 = .ok (.iastore, 1) := by decide +kernel
theorem dL_law_923 : decode cL_law 923 = .ok (.dup, 1) := by decide +kernel
theorem dL_law_924 : decode cL_law 924 = .ok (.iconst 3, 1) := by decide +kernel
theorem dL_law_925 : decode cL_law 925 = .ok (.iconst 1, 1) := by decide +kernel
theorem dL_law_926 : decode cL_law 926 = .ok (.iastore, 1) := by decide +kernel
theorem dL_law_927 : decode cL_law 927 = .ok (.invokestatic 164, 3) := by decide +kernel
theorem dL_law_930 : decode cL_law 930 = .ok (.ldc 72, 2) := by decide +kernel
theorem dL_law_932 : decode cL_law 932 = .ok (.if_icmp .ne 33, 3) := by decide +kernel
theorem dL_law_935 : decode cL_law 935 = .ok (.aload_n 1, 1) := by decide +kernel
theorem dL_law_936 : decode cL_law 936 = .ok (.bipush 99, 2) := by decide +kernel
theorem dL_law_938 : decode cL_law 938 = .ok (.iconst 4, 1) := by decide +kernel
theorem dL_law_939 : decode cL_law 939 = .ok (.newarray .int, 2) := by decide +kernel
theorem dL_law_941 : decode cL_law 941 = .ok (.dup, 1) := by decide +kernel
theorem dL_law_942 : decode cL_law 942 = .ok (.iconst 0, 1) := by decide +kernel
theorem dL_law_943 : decode cL_law 943 = .ok (.iconst 1, 1) := by decide +kernel
theorem dL_law_944 : decode cL_law 944 = .ok (.iastore, 1) := by decide +kernel
theorem dL_law_945 : decode cL_law 945 = .ok (.dup, 1) := by decide +kernel
theorem dL_law_946 : decode cL_law 946 = .ok (.iconst 1, 1) := by decide +kernel
theorem dL_law_947 : decode cL_law 947 = .ok (.iconst 0, 1) := by decide +kernel
theorem dL_law_948 : decode cL_law 948 = .ok (.iastore, 1) := by decide +kernel
theorem dL_law_949 : decode cL_law 949 = .ok (.dup, 1) := by decide +kernel
theorem dL_law_950 : decode cL_law 950 = .ok (.iconst 2, 1) := by decide +kernel
theorem dL_law_951 : decode cL_law 951 = .ok (.iconst 0, 1) := by decide +kernel
theorem dL_law_952 : decode cL_law 952 = .ok (.iastore, 1) := by decide +kernel
theorem dL_law_953 : decode cL_law 953 = .ok (.dup, 1) := by decide +kernel
theorem dL_law_954 : decode cL_law 954 = .ok (.iconst 3, 1) := by decide +kernel
theorem dL_law_955 : decode cL_law 955 = .ok (.iconst 0, 1) := by decide +kernel
theorem dL_law_956 : decode cL_law 956 = .ok (.iastore, 1) := by decide +kernel
theorem dL_law_957 : decode cL_law 957 = .ok (.invokestatic 164, 3) := by decide +kernel
theorem dL_law_960 : decode cL_law 960 = .ok (.ldc 69, 2) := by decide +kernel
theorem dL_law_962 : decode cL_law 962 = .ok (.if_icmp .eq 5, 3) := by decide +kernel
theorem dL_law_965 : decode cL_law 965 = .ok (.iconst 0, 1) := by decide +kernel
theorem dL_law_966 : decode cL_law 966 = .ok (.ireturn, 1) := by decide +kernel
theorem dL_law_967 : decode cL_law 967 = .ok (.aload_n 0, 1) := by decide +kernel
theorem dL_law_968 : decode cL_law 968 = .ok (.invokestatic 166, 3) := by decide +kernel
theorem dL_law_971 : decode cL_law 971 = .ok (.ifCond .eq 19, 3) := by decide +kernel
theorem dL_law_974 : decode cL_law 974 = .ok (.invokestatic 170, 3) := by decide +kernel
theorem dL_law_977 : decode cL_law 977 = .ok (.ifCond .eq 13, 3) := by decide +kernel
theorem dL_law_980 : decode cL_law 980 = .ok (.invokestatic 173, 3) := by decide +kernel
theorem dL_law_983 : decode cL_law 983 = .ok (.ifCond .eq 7, 3) := by decide +kernel
theorem dL_law_986 : decode cL_law 986 = .ok (.iconst 1, 1) := by decide +kernel
theorem dL_law_987 : decode cL_law 987 = .ok (.goto 4, 3) := by decide +kernel
theorem dL_law_990 : decode cL_law 990 = .ok (.iconst 0, 1) := by decide +kernel
theorem dL_law_991 : decode cL_law 991 = .ok (.ireturn, 1) := by decide +kernel
theorem dL_ladder_0 : decode cL_ladder 0 = .ok (.new 8, 3) := by decide +kernel
theorem dL_ladder_3 : decode cL_ladder 3 = .ok (.dup, 1) := by decide +kernel
theorem dL_ladder_4 : decode cL_ladder 4 = .ok (.invokespecial 142, 3) := by decide +kernel
theorem dL_ladder_7 : decode cL_ladder 7 = .ok (.astore_n 1, 1) := by decide +kernel
theorem dL_ladder_8 : decode cL_ladder 8 = .ok (.iconst 1, 1) := by decide +kernel
theorem dL_ladder_9 : decode cL_ladder 9 = .ok (.aload_n 0, 1) := by decide +kernel
theorem dL_ladder_10 : decode cL_ladder 10 = .ok (.iconst 0, 1) := by decide +kernel
theorem dL_ladder_11 : decode cL_ladder 11 = .ok (.invokestatic 176, 3) := by decide +kernel
theorem dL_ladder_14 : decode cL_ladder 14 = .ok (.bipush 9, 2) := by decide +kernel
theorem dL_ladder_16 : decode cL_ladder 16 = .ok (.invokestatic 180, 3) := by decide +kernel
theorem dL_ladder_19 : decode cL_ladder 19 = .ok (.iadd, 1) := by decide +kernel
theorem dL_ladder_20 : decode cL_ladder 20 = .ok (.istore_n 2, 1) := by decide +kernel
theorem dL_ladder_21 : decode cL_ladder 21 = .ok (.iconst 1, 1) := by decide +kernel
theorem dL_ladder_22 : decode cL_ladder 22 = .ok (.aload_n 0, 1) := by decide +kernel
theorem dL_ladder_23 : decode cL_ladder 23 = .ok (.iconst 1, 1) := by decide +kernel
theorem dL_ladder_24 : decode cL_ladder 24 = .ok (.invokestatic 176, 3) := by decide +kernel
theorem dL_ladder_27 : decode cL_ladder 27 = .ok (.bipush 31, 2) := by decide +kernel
theorem dL_ladder_29 : decode cL_ladder 29 = .ok (.invokestatic 180, 3) := by decide +kernel
theorem dL_ladder_32 : decode cL_ladder 32 = .ok (.iadd, 1) := by decide +kernel
theorem dL_ladder_33 : decode cL_ladder 33 = .ok (.istore_n 3, 1) := by decide +kernel
theorem dL_ladder_34 : decode cL_ladder 34 = .ok (.iload_n 3, 1) := by decide +kernel
theorem dL_ladder_35 : decode cL_ladder 35 = .ok (.invokestatic 183, 3) := by decide +kernel
theorem dL_ladder_38 : decode cL_ladder 38 = .ok (.iload_n 2, 1) := by decide +kernel
theorem dL_ladder_39 : decode cL_ladder 39 = .ok (.imul, 1) := by decide +kernel
theorem dL_ladder_40 : decode cL_ladder 40 = .ok (.istore 4, 2) := by decide +kernel
theorem dL_ladder_42 : decode cL_ladder 42 = .ok (.iload 4, 2) := by decide +kernel
theorem dL_ladder_44 : decode cL_ladder 44 = .ok (.iconst 3, 1) := by decide +kernel
theorem dL_ladder_45 : decode cL_ladder 45 = .ok (.if_icmp .gt 7, 3) := by decide +kernel
theorem dL_ladder_48 : decode cL_ladder 48 = .ok (.iconst 1, 1) := by decide +kernel
theorem dL_ladder_49 : decode cL_ladder 49 = .ok (.goto 26, 3) := by decide +kernel
theorem dL_ladder_52 : decode cL_ladder 52 = .ok (.iload 4, 2) := by decide +kernel
theorem dL_ladder_54 : decode cL_ladder 54 = .ok (.bipush 9, 2) := by decide +kernel
theorem dL_ladder_56 : decode cL_ladder 56 = .ok (.if_icmp .gt 7, 3) := by decide +kernel
theorem dL_ladder_59 : decode cL_ladder 59 = .ok (.iconst 2, 1) := by decide +kernel
theorem dL_ladder_60 : decode cL_ladder 60 = .ok (.goto 15, 3) := by decide +kernel
theorem dL_ladder_63 : decode cL_ladder 63 = .ok (.iload 4, 2) := by decide +kernel
theorem dL_ladder_65 : decode cL_ladder 65 = .ok (.bipush 15, 2) := by decide +kernel
theorem dL_ladder_67 : decode cL_ladder 67 = .ok (.if_icmp .gt 7, 3) := by decide +kernel
theorem dL_ladder_70 : decode cL_ladder 70 = .ok (.iconst 3, 1) := by decide +kernel
theorem dL_ladder_71 : decode cL_ladder 71 = .ok (.goto 4, 3) := by decide +kernel
theorem dL_ladder_74 : decode cL_ladder 74 = .ok (.iconst 4, 1) := by decide +kernel
theorem dL_ladder_75 : decode cL_ladder 75 = .ok (.istore 5, 2) := by decide +kernel
theorem dL_ladder_77 : decode cL_ladder 77 = .ok (.iconst 0, 1) := by decide +kernel
theorem dL_ladder_78 : decode cL_ladder 78 = .ok (.istore 6, 2) := by decide +kernel
theorem dL_ladder_80 : decode cL_ladder 80 = .ok (.iload 6, 2) := by decide +kernel
theorem dL_ladder_82 : decode cL_ladder 82 = .ok (.iconst 5, 1) := by decide +kernel
theorem dL_ladder_83 : decode cL_ladder 83 = .ok (.if_icmp .ge 33, 3) := by decide +kernel
theorem dL_ladder_86 : decode cL_ladder 86 = .ok (.aload_n 1, 1) := by decide +kernel
theorem dL_ladder_87 : decode cL_ladder 87 = .ok (.bipush 119, 2) := by decide +kernel
theorem dL_ladder_89 : decode cL_ladder 89 = .ok (.iconst 2, 1) := by decide +kernel
theorem dL_ladder_90 : decode cL_ladder 90 = .ok (.newarray .int, 2) := by decide +kernel
theorem dL_ladder_92 : decode cL_ladder 92 = .ok (.dup, 1) := by decide +kernel
theorem dL_ladder_93 : decode cL_ladder 93 = .ok (.iconst 0, 1) := by decide +kernel
theorem dL_ladder_94 : decode cL_ladder 94 = .ok (.iload 6, 2) := by decide +kernel
theorem dL_ladder_96 : decode cL_ladder 96 = .ok (.iastore, 1) := by decide +kernel
theorem dL_ladder_97 : decode cL_ladder 97 = .ok (.dup, 1) := by decide +kernel
theorem dL_ladder_98 : decode cL_ladder 98 = .ok (.iconst 1, 1) := by decide +kernel
theorem dL_ladder_99 : decode cL_ladder 99 = .ok (.iload_n 2, 1) := by decide +kernel
theorem dL_ladder_100 : decode cL_ladder 100 = .ok (.iastore, 1) := by decide +kernel
theorem dL_ladder_101 : decode cL_ladder 101 = .ok (.invokestatic 164, 3) := by decide +kernel
theorem dL_ladder_104 : decode cL_ladder 104 = .ok (.iconst 1, 1) := by decide +kernel
theorem dL_ladder_105 : decode cL_ladder 105 = .ok (.if_icmp .eq 5, 3) := by decide +kernel
theorem dL_ladder_108 : decode cL_ladder 108 = .ok (.iconst 0, 1) := by decide +kernel
theorem dL_ladder_109 : decode cL_ladder 109 = .ok (.ireturn, 1) := by decide +kernel
theorem dL_ladder_110 : decode cL_ladder 110 = .ok (.iinc 6 1, 3) := by decide +kernel
theorem dL_ladder_113 : decode cL_ladder 113 = .ok (.goto (-33), 3) := by decide +kernel
theorem dL_ladder_116 : decode cL_ladder 116 = .ok (.aload_n 1, 1) := by decide +kernel
theorem dL_ladder_117 : decode cL_ladder 117 = .ok (.bipush 79, 2) := by decide +kernel
theorem dL_ladder_119 : decode cL_ladder 119 = .ok (.iconst 2, 1) := by decide +kernel
theorem dL_ladder_120 : decode cL_ladder 120 = .ok (.newarray .int, 2) := by decide +kernel
theorem dL_ladder_122 : decode cL_ladder 122 = .ok (.dup, 1) := by decide +kernel
theorem dL_ladder_123 : decode cL_ladder 123 = .ok (.iconst 0, 1) := by decide +kernel
theorem dL_ladder_124 : decode cL_ladder 124 = .ok (.iconst 3, 1) := by decide +kernel
theorem dL_ladder_125 : decode cL_ladder 125 = .ok (.iastore, 1) := by decide +kernel
theorem dL_ladder_126 : decode cL_ladder 126 = .ok (.dup, 1) := by decide +kernel
theorem dL_ladder_127 : decode cL_ladder 127 = .ok (.iconst 1, 1) := by decide +kernel
theorem dL_ladder_128 : decode cL_ladder 128 = .ok (.iconst 1, 1) := by decide +kernel
theorem dL_ladder_129 : decode cL_ladder 129 = .ok (.iastore, 1) := by decide +kernel
theorem dL_ladder_130 : decode cL_ladder 130 = .ok (.invokestatic 164, 3) := by decide +kernel
theorem dL_ladder_133 : decode cL_ladder 133 = .ok (.ifCond .ne 606, 3) := by decide +kernel
theorem dL_ladder_136 : decode cL_ladder 136 = .ok (.aload_n 1, 1) := by decide +kernel
theorem dL_ladder_137 : decode cL_ladder 137 = .ok (.bipush 99, 2) := by decide +kernel
theorem dL_ladder_139 : decode cL_ladder 139 = .ok (.iconst 4, 1) := by decide +kernel
theorem dL_ladder_140 : decode cL_ladder 140 = .ok (.newarray .int, 2) := by decide +kernel
theorem dL_ladder_142 : decode cL_ladder 142 = .ok (.dup, 1) := by decide +kernel
theorem dL_ladder_143 : decode cL_ladder 143 = .ok (.iconst 0, 1) := by decide +kernel
theorem dL_ladder_144 : decode cL_ladder 144 = .ok (.iconst 0, 1) := by decide +kernel
theorem dL_ladder_145 : decode cL_ladder 145 = .ok (.iastore, 1) := by decide +kernel
theorem dL_ladder_146 : decode cL_ladder 146 = .ok (.dup, 1) := by decide +kernel
theorem dL_ladder_147 : decode cL_ladder 147 = .ok (.iconst 1, 1) := by decide +kernel
theorem dL_ladder_148 : decode cL_ladder 148 = .ok (.iconst 0, 1) := by decide +kernel
theorem dL_ladder_149 : decode cL_ladder 149 = .ok (.iastore, 1) := by decide +kernel
theorem dL_ladder_150 : decode cL_ladder 150 = .ok (.dup, 1) := by decide +kernel
theorem dL_ladder_151 : decode cL_ladder 151 = .ok (.iconst 2, 1) := by decide +kernel
theorem dL_ladder_152 : decode cL_ladder 152 = .ok (.bipush 7, 2) := by decide +kernel
theorem dL_ladder_154 : decode cL_ladder 154 = .ok (.iastore, 1) := by decide +kernel
theorem dL_ladder_155 : decode cL_ladder 155 = .ok (.dup, 1) := by decide +kernel
theorem dL_ladder_156 : decode cL_ladder 156 = .ok (.iconst 3, 1) := by decide +kernel
theorem dL_ladder_157 : decode cL_ladder 157 = .ok (.iconst 0, 1) := by decide +kernel
theorem dL_ladder_158 : decode cL_ladder 158 = .ok (.iastore, 1) := by decide +kernel
theorem dL_ladder_159 : decode cL_ladder 159 = .ok (.invokestatic 164, 3) := by decide +kernel
theorem dL_ladder_162 : decode cL_ladder 162 = .ok (.ifCond .ne 577, 3) := by decide +kernel
theorem dL_ladder_165 : decode cL_ladder 165 = .ok (.aload_n 1, 1) := by decide +kernel
theorem dL_ladder_166 : decode cL_ladder 166 = .ok (.bipush 101, 2) := by decide +kernel
theorem dL_ladder_168 : decode cL_ladder 168 = .ok (.iconst 1, 1) := by decide +kernel
theorem dL_ladder_169 : decode cL_ladder 169 = .ok (.newarray .int, 2) := by decide +kernel
theorem dL_ladder_171 : decode cL_ladder 171 = .ok (.dup, 1) := by decide +kernel
theorem dL_ladder_172 : decode cL_ladder 172 = .ok (.iconst 0, 1) := by decide +kernel
theorem dL_ladder_173 : decode cL_ladder 173 = .ok (.iconst 0, 1) := by decide +kernel
theorem dL_ladder_174 : decode cL_ladder 174 = .ok (.iastore, 1) := by decide +kernel
theorem dL_ladder_175 : decode cL_ladder 175 = .ok (.invokestatic 164, 3) := by decide +kernel
theorem dL_ladder_178 : decode cL_ladder 178 = .ok (.bipush 102, 2) := by decide +kernel
theorem dL_ladder_180 : decode cL_ladder 180 = .ok (.if_icmp .ne 559, 3) := by decide +kernel
theorem dL_ladder_183 : decode cL_ladder 183 = .ok (.aload_n 1, 1) := by decide +kernel
theorem dL_ladder_184 : decode cL_ladder 184 = .ok (.bipush 116, 2) := by decide +kernel
theorem dL_ladder_186 : decode cL_ladder 186 = .ok (.iconst 1, 1) := by decide +kernel
theorem dL_ladder_187 : decode cL_ladder 187 = .ok (.newarray .int, 2) := by decide +kernel
theorem dL_ladder_189 : decode cL_ladder 189 = .ok (.dup, 1) := by decide +kernel
theorem dL_ladder_190 : decode cL_ladder 190 = .ok (.iconst 0, 1) := by decide +kernel
theorem dL_ladder_191 : decode cL_ladder 191 = .ok (.iconst 0, 1) := by decide +kernel
theorem dL_ladder_192 : decode cL_ladder 192 = .ok (.iastore, 1) := by decide +kernel
theorem dL_ladder_193 : decode cL_ladder 193 = .ok (.invokestatic 164, 3) := by decide +kernel
theorem dL_ladder_196 : decode cL_ladder 196 = .ok (.iconst 3, 1) := by decide +kernel
theorem dL_ladder_197 : decode cL_ladder 197 = .ok (.if_icmp .ne 542, 3) := by decide +kernel
theorem dL_ladder_200 : decode cL_ladder 200 = .ok (.aload_n 1, 1) := by decide +kernel
theorem dL_ladder_201 : decode cL_ladder 201 = .ok (.bipush 116, 2) := by decide +kernel
theorem dL_ladder_203 : decode cL_ladder 203 = .ok (.iconst 1, 1) := by decide +kernel
theorem dL_ladder_204 : decode cL_ladder 204 = .ok (.newarray .int, 2) := by decide +kernel
theorem dL_ladder_206 : decode cL_ladder 206 = .ok (.dup, 1) := by decide +kernel
theorem dL_ladder_207 : decode cL_ladder 207 = .ok (.iconst 0, 1) := by decide +kernel
theorem dL_ladder_208 : decode cL_ladder 208 = .ok (.iconst 0, 1) := by decide +kernel
theorem dL_ladder_209 : decode cL_ladder 209 = .ok (.iastore, 1) := by decide +kernel
theorem dL_ladder_210 : decode cL_ladder 210 = .ok (.invokestatic 164, 3) := by decide +kernel
theorem dL_ladder_213 : decode cL_ladder 213 = .ok (.ldc 78, 2) := by decide +kernel
theorem dL_ladder_215 : decode cL_ladder 215 = .ok (.if_icmp .ne 524, 3) := by decide +kernel
theorem dL_ladder_218 : decode cL_ladder 218 = .ok (.aload_n 1, 1) := by decide +kernel
theorem dL_ladder_219 : decode cL_ladder 219 = .ok (.bipush 112, 2) := by decide +kernel
theorem dL_ladder_221 : decode cL_ladder 221 = .ok (.iconst 1, 1) := by decide +kernel
theorem dL_ladder_222 : decode cL_ladder 222 = .ok (.newarray .int, 2) := by decide +kernel
theorem dL_ladder_224 : decode cL_ladder 224 = .ok (.dup, 1) := by decide +kernel
theorem dL_ladder_225 : decode cL_ladder 225 = .ok (.iconst 0, 1) := by decide +kernel
theorem dL_ladder_226 : decode cL_ladder 226 = .ok (.iconst 2, 1) := by decide +kernel
theorem dL_ladder_227 : decode cL_ladder 227 = .ok (.iastore, 1) := by decide +kernel
theorem dL_ladder_228 : decode cL_ladder 228 = .ok (.invokestatic 164, 3) := by decide +kernel
theorem dL_ladder_231 : decode cL_ladder 231 = .ok (.iconst 2, 1) := by decide +kernel
theorem dL_ladder_232 : decode cL_ladder 232 = .ok (.if_icmp .ne 507, 3) := by decide +kernel
theorem dL_ladder_235 : decode cL_ladder 235 = .ok (.aload_n 1, 1) := by decide +kernel
theorem dL_ladder_236 : decode cL_ladder 236 = .ok (.bipush 101, 2) := by decide +kernel
theorem dL_ladder_238 : decode cL_ladder 238 = .ok (.iconst 1, 1) := by decide +kernel
theorem dL_ladder_239 : decode cL_ladder 239 = .ok (.newarray .int, 2) := by decide +kernel
theorem dL_ladder_241 : decode cL_ladder 241 = .ok (.dup, 1) := by decide +kernel
theorem dL_ladder_242 : decode cL_ladder 242 = .ok (.iconst 0, 1) := by decide +kernel
theorem dL_ladder_243 : decode cL_ladder 243 = .ok (.iconst 0, 1) := by decide +kernel
theorem dL_ladder_244 : decode cL_ladder 244 = .ok (.iastore, 1) := by decide +kernel
theorem dL_ladder_245 : decode cL_ladder 245 = .ok (.invokestatic 164, 3) := by decide +kernel
theorem dL_ladder_248 : decode cL_ladder 248 = .ok (.bipush 102, 2) := by decide +kernel
theorem dL_ladder_250 : decode cL_ladder 250 = .ok (.if_icmp .ne 489, 3) := by decide +kernel
theorem dL_ladder_253 : decode cL_ladder 253 = .ok (.aload_n 1, 1) := by decide +kernel
theorem dL_ladder_254 : decode cL_ladder 254 = .ok (.bipush 112, 2) := by decide +kernel
theorem dL_ladder_256 : decode cL_ladder 256 = .ok (.iconst 1, 1) := by decide +kernel
theorem dL_ladder_257 : decode cL_ladder 257 = .ok (.newarray .int, 2) := by decide +kernel
theorem dL_ladder_259 : decode cL_ladder 259 = .ok (.dup, 1) := by decide +kernel
theorem dL_ladder_260 : decode cL_ladder 260 = .ok (.iconst 0, 1) := by decide +kernel
theorem dL_ladder_261 : decode cL_ladder 261 = .ok (.iconst 1, 1) := by decide +kernel
theorem dL_ladder_262 : decode cL_ladder 262 = .ok (.iastore, 1) := by decide +kernel
theorem dL_ladder_263 : decode cL_ladder 263 = .ok (.invokestatic 164, 3) := by decide +kernel
theorem dL_ladder_266 : decode cL_ladder 266 = .ok (.iconst 3, 1) := by decide +kernel
theorem dL_ladder_267 : decode cL_ladder 267 = .ok (.if_icmp .ne 472, 3) := by decide +kernel
theorem dL_ladder_270 : decode cL_ladder 270 = .ok (.aload_n 1, 1) := by decide +kernel
theorem dL_ladder_271 : decode cL_ladder 271 = .ok (.bipush 101, 2) := by decide +kernel
theorem dL_ladder_273 : decode cL_ladder 273 = .ok (.iconst 1, 1) := by decide +kernel
theorem dL_ladder_274 : decode cL_ladder 274 = .ok (.newarray .int, 2) := by decide +kernel
theorem dL_ladder_276 : decode cL_ladder 276 = .ok (.dup, 1) := by decide +kernel
theorem dL_ladder_277 : decode cL_ladder 277 = .ok (.iconst 0, 1) := by decide +kernel
theorem dL_ladder_278 : decode cL_ladder 278 = .ok (.iconst 0, 1) := by decide +kernel
theorem dL_ladder_279 : decode cL_ladder 279 = .ok (.iastore, 1) := by decide +kernel
theorem dL_ladder_280 : decode cL_ladder 280 = .ok (.invokestatic 164, 3) := by decide +kernel
theorem dL_ladder_283 : decode cL_ladder 283 = .ok (.bipush 114, 2) := by decide +kernel
theorem dL_ladder_285 : decode cL_ladder 285 = .ok (.if_icmp .ne 454, 3) := by decide +kernel
theorem dL_ladder_288 : decode cL_ladder 288 = .ok (.aload_n 1, 1) := by decide +kernel
theorem dL_ladder_289 : decode cL_ladder 289 = .ok (.bipush 101, 2) := by decide +kernel
theorem dL_ladder_291 : decode cL_ladder 291 = .ok (.iconst 1, 1) := by decide +kernel
theorem dL_ladder_292 : decode cL_ladder 292 = .ok (.newarray .int, 2) := by decide +kernel
theorem dL_ladder_294 : decode cL_ladder 294 = .ok (.dup, 1) := by decide +kernel
theorem dL_ladder_295 : decode cL_ladder 295 = .ok (.iconst 0, 1) := by decide +kernel
theorem dL_ladder_296 : decode cL_ladder 296 = .ok (.iconst 0, 1) := by decide +kernel
theorem dL_ladder_297 : decode cL_ladder 297 = .ok (.iastore, 1) := by decide +kernel
theorem dL_ladder_298 : decode cL_ladder 298 = .ok (.invokestatic 164, 3) := by decide +kernel
theorem dL_ladder_301 : decode cL_ladder 301 = .ok (.ldc 78, 2) := by decide +kernel
theorem dL_ladder_303 : decode cL_ladder 303 = .ok (.if_icmp .ne 436, 3) := by decide +kernel
theorem dL_ladder_306 : decode cL_ladder 306 = .ok (.aload_n 1, 1) := by decide +kernel
theorem dL_ladder_307 : decode cL_ladder 307 = .ok (.bipush 97, 2) := by decide +kernel
theorem dL_ladder_309 : decode cL_ladder 309 = .ok (.iconst 1, 1) := by decide +kernel
theorem dL_ladder_310 : decode cL_ladder 310 = .ok (.newarray .int, 2) := by decide +kernel
theorem dL_ladder_312 : decode cL_ladder 312 = .ok (.dup, 1) := by decide +kernel
theorem dL_ladder_313 : decode cL_ladder 313 = .ok (.iconst 0, 1) := by decide +kernel
theorem dL_ladder_314 : decode cL_ladder 314 = .ok (.iconst 0, 1) := by decide +kernel
theorem dL_ladder_315 : decode cL_ladder 315 = .ok (.iastore, 1) := by decide +kernel
theorem dL_ladder_316 : decode cL_ladder 316 = .ok (.invokestatic 164, 3) := by decide +kernel
theorem dL_ladder_319 : decode cL_ladder 319 = .ok (.bipush 6, 2) := by decide +kernel
theorem dL_ladder_321 : decode cL_ladder 321 = .ok (.if_icmp .ne 418, 3) := by decide +kernel
theorem dL_ladder_324 : decode cL_ladder 324 = .ok (.aload_n 1, 1) := by decide +kernel
theorem dL_ladder_325 : decode cL_ladder 325 = .ok (.bipush 110, 2) := by decide +kernel
theorem dL_ladder_327 : decode cL_ladder 327 = .ok (.iconst 0, 1) := by decide +kernel
theorem dL_ladder_328 : decode cL_ladder 328 = .ok (.newarray .int, 2) := by decide +kernel
theorem dL_ladder_330 : decode cL_ladder 330 = .ok (.invokestatic 164, 3) := by decide +kernel
theorem dL_ladder_333 : decode cL_ladder 333 = .ok (.bipush 6, 2) := by decide +kernel
theorem dL_ladder_335 : decode cL_ladder 335 = .ok (.if_icmp .ne 404, 3) := by decide +kernel
theorem dL_ladder_338 : decode cL_ladder 338 = .ok (.aload_n 1, 1) := by decide +kernel
theorem dL_ladder_339 : decode cL_ladder 339 = .ok (.bipush 112, 2) := by decide +kernel
theorem dL_ladder_341 : decode cL_ladder 341 = .ok (.iconst 1, 1) := by decide +kernel
theorem dL_ladder_342 : decode cL_ladder 342 = .ok (.newarray .int, 2) := by decide +kernel
theorem dL_ladder_344 : decode cL_ladder 344 = .ok (.dup, 1) := by decide +kernel
theorem dL_ladder_345 : decode cL_ladder 345 = .ok (.iconst 0, 1) := by decide +kernel
theorem dL_ladder_346 : decode cL_ladder 346 = .ok (.iconst 3, 1) := by decide +kernel
theorem dL_ladder_347 : decode cL_ladder 347 = .ok (.iastore, 1) := by decide +kernel
theorem dL_ladder_348 : decode cL_ladder 348 = .ok (.invokestatic 164, 3) := by decide +kernel
theorem dL_ladder_351 : decode cL_ladder 351 = .ok (.bipush 6, 2) := by decide +kernel
theorem dL_ladder_353 : decode cL_ladder 353 = .ok (.if_icmp .ne 386, 3) := by decide +kernel
theorem dL_ladder_356 : decode cL_ladder 356 = .ok (.aload_n 1, 1) := by decide +kernel
theorem dL_ladder_357 : decode cL_ladder 357 = .ok (.bipush 111, 2) := by decide +kernel
theorem dL_ladder_359 : decode cL_ladder 359 = .ok (.iconst 1, 1) := by decide +kernel
theorem dL_ladder_360 : decode cL_ladder 360 = .ok (.newarray .int, 2) := by decide +kernel
theorem dL_ladder_362 : decode cL_ladder 362 = .ok (.dup, 1) := by decide +kernel
theorem dL_ladder_363 : decode cL_ladder 363 = .ok (.iconst 0, 1) := by decide +kernel
theorem dL_ladder_364 : decode cL_ladder 364 = .ok (.iconst 0, 1) := by decide +kernel
theorem dL_ladder_365 : decode cL_ladder 365 = .ok (.iastore, 1) := by decide +kernel
theorem dL_ladder_366 : decode cL_ladder 366 = .ok (.invokestatic 164, 3) := by decide +kernel
theorem dL_ladder_369 : decode cL_ladder 369 = .ok (.ifCond .ne 370, 3) := by decide +kernel
theorem dL_ladder_372 : decode cL_ladder 372 = .ok (.aload_n 1, 1) := by decide +kernel
theorem dL_ladder_373 : decode cL_ladder 373 = .ok (.bipush 69, 2) := by decide +kernel
theorem dL_ladder_375 : decode cL_ladder 375 = .ok (.iconst 2, 1) := by decide +kernel
theorem dL_ladder_376 : decode cL_ladder 376 = .ok (.newarray .int, 2) := by decide +kernel
theorem dL_ladder_378 : decode cL_ladder 378 = .ok (.dup, 1) := by decide +kernel
theorem dL_ladder_379 : decode cL_ladder 379 = .ok (.iconst 0, 1) := by decide +kernel
theorem dL_ladder_380 : decode cL_ladder 380 = .ok (.iconst 0, 1) := by decide +kernel
theorem dL_ladder_381 : decode cL_ladder 381 = .ok (.iastore, 1) := by decide +kernel
theorem dL_ladder_382 : decode cL_ladder 382 = .ok (.dup, 1) := by decide +kernel
theorem dL_ladder_383 : decode cL_ladder 383 = .ok (.iconst 1, 1) := by decide +kernel
theorem dL_ladder_384 : decode cL_ladder 384 = .ok (.bipush 31, 2) := by decide +kernel
theorem dL_ladder_386 : decode cL_ladder 386 = .ok (.iastore, 1) := by decide +kernel
theorem dL_ladder_387 : decode cL_ladder 387 = .ok (.invokestatic 164, 3) := by decide +kernel
theorem dL_ladder_390 : decode cL_ladder 390 = .ok (.ldc 72, 2) := by decide +kernel
theorem dL_ladder_392 : decode cL_ladder 392 = .ok (.if_icmp .ne 347, 3) := by decide +kernel
theorem dL_ladder_395 : decode cL_ladder 395 = .ok (.aload_n 1, 1) := by decide +kernel
theorem dL_ladder_396 : decode cL_ladder 396 = .ok (.bipush 69, 2) := by decide +kernel
theorem dL_ladder_398 : decode cL_ladder 398 = .ok (.iconst 2, 1) := by decide +kernel
theorem dL_ladder_399 : decode cL_ladder 399 = .ok (.newarray .int, 2) := by decide +kernel
theorem dL_ladder_401 : decode cL_ladder 401 = .ok (.dup, 1) := by decide +kernel
theorem dL_ladder_402 : decode cL_ladder 402 = .ok (.iconst 0, 1) := by decide +kernel
theorem dL_ladder_403 : decode cL_ladder 403 = .ok (.iconst 0, 1) := by decide +kernel
theorem dL_ladder_404 : decode cL_ladder 404 = .ok (.iastore, 1) := by decide +kernel
theorem dL_ladder_405 : decode cL_ladder 405 = .ok (.dup, 1) := by decide +kernel
theorem dL_ladder_406 : decode cL_ladder 406 = .ok (.iconst 1, 1) := by decide +kernel
theorem dL_ladder_407 : decode cL_ladder 407 = .ok (.iconst 2, 1) := by decide +kernel
theorem dL_ladder_408 : decode cL_ladder 408 = .ok (.iastore, 1) := by decide +kernel
theorem dL_ladder_409 : decode cL_ladder 409 = .ok (.invokestatic 164, 3) := by decide +kernel
theorem dL_ladder_412 : decode cL_ladder 412 = .ok (.bipush 8, 2) := by decide +kernel
theorem dL_ladder_414 : decode cL_ladder 414 = .ok (.if_icmp .ne 325, 3) := by decide +kernel
theorem dL_ladder_417 : decode cL_ladder 417 = .ok (.aload_n 1, 1) := by decide +kernel
theorem dL_ladder_418 : decode cL_ladder 418 = .ok (.bipush 69, 2) := by decide +kernel
theorem dL_ladder_420 : decode cL_ladder 420 = .ok (.iconst 2, 1) := by decide +kernel
theorem dL_ladder_421 : decode cL_ladder 421 = .ok (.newarray .int, 2) := by decide +kernel
theorem dL_ladder_423 : decode cL_ladder 423 = .ok (.dup, 1) := by decide +kernel
theorem dL_ladder_424 : decode cL_ladder 424 = .ok (.iconst 0, 1) := by decide +kernel
theorem dL_ladder_425 : decode cL_ladder 425 = .ok (.iconst 0, 1) := by decide +kernel
theorem dL_ladder_426 : decode cL_ladder 426 = .ok (.iastore, 1) := by decide +kernel
theorem dL_ladder_427 : decode cL_ladder 427 = .ok (.dup, 1) := by decide +kernel
theorem dL_ladder_428 : decode cL_ladder 428 = .ok (.iconst 1, 1) := by decide +kernel
theorem dL_ladder_429 : decode cL_ladder 429 = .ok (.iconst 2, 1) := by decide +kernel
theorem dL_ladder_430 : decode cL_ladder 430 = .ok (.iastore, 1) := by decide +kernel
theorem dL_ladder_431 : decode cL_ladder 431 = .ok (.invokestatic 164, 3) := by decide +kernel
theorem dL_ladder_434 : decode cL_ladder 434 = .ok (.ldc 78, 2) := by decide +kernel
theorem dL_ladder_436 : decode cL_ladder 436 = .ok (.if_icmp .ne 303, 3) := by decide +kernel
theorem dL_ladder_439 : decode cL_ladder 439 = .ok (.aload_n 1, 1) := by decide +kernel
theorem dL_ladder_440 : decode cL_ladder 440 = .ok (.bipush 112, 2) := by decide +kernel
theorem dL_ladder_442 : decode cL_ladder 442 = .ok (.iconst 1, 1) := by decide +kernel
theorem dL_ladder_443 : decode cL_ladder 443 = .ok (.newarray .int, 2) := by decide +kernel
theorem dL_ladder_445 : decode cL_ladder 445 = .ok (.dup, 1) := by decide +kernel
theorem dL_ladder_446 : decode cL_ladder 446 = .ok (.iconst 0, 1) := by decide +kernel
theorem dL_ladder_447 : decode cL_ladder 447 = .ok (.iconst 4, 1) := by decide +kernel
theorem dL_ladder_448 : decode cL_ladder 448 = .ok (.iastore, 1) := by decide +kernel
theorem dL_ladder_449 : decode cL_ladder 449 = .ok (.invokestatic 164, 3) := by decide +kernel
theorem dL_ladder_452 : decode cL_ladder 452 = .ok (.bipush 10, 2) := by decide +kernel
theorem dL_ladder_454 : decode cL_ladder 454 = .ok (.if_icmp .ne 285, 3) := by decide +kernel
theorem dL_ladder_457 : decode cL_ladder 457 = .ok (.aload_n 1, 1) := by decide +kernel
theorem dL_ladder_458 : decode cL_ladder 458 = .ok (.bipush 111, 2) := by decide +kernel
theorem dL_ladder_460 : decode cL_ladder 460 = .ok (.iconst 1, 1) := by decide +kernel
theorem dL_ladder_461 : decode cL_ladder 461 = .ok (.newarray .int, 2) := by decide +kernel
theorem dL_ladder_463 : decode cL_ladder 463 = .ok (.dup, 1) := by decide +kernel
theorem dL_ladder_464 : decode cL_ladder 464 = .ok (.iconst 0, 1) := by decide +kernel
theorem dL_ladder_465 : decode cL_ladder 465 = .ok (.iconst 0, 1) := by decide +kernel
theorem dL_ladder_466 : decode cL_ladder 466 = .ok (.iastore, 1) := by decide +kernel
theorem dL_ladder_467 : decode cL_ladder 467 = .ok (.invokestatic 164, 3) := by decide +kernel
theorem dL_ladder_470 : decode cL_ladder 470 = .ok (.iconst 1, 1) := by decide +kernel
theorem dL_ladder_471 : decode cL_ladder 471 = .ok (.if_icmp .ne 268, 3) := by decide +kernel
theorem dL_ladder_474 : decode cL_ladder 474 = .ok (.aload_n 1, 1) := by decide +kernel
theorem dL_ladder_475 : decode cL_ladder 475 = .ok (.bipush 110, 2) := by decide +kernel
theorem dL_ladder_477 : decode cL_ladder 477 = .ok (.iconst 0, 1) := by decide +kernel
theorem dL_ladder_478 : decode cL_ladder 478 = .ok (.newarray .int, 2) := by decide +kernel
theorem dL_ladder_480 : decode cL_ladder 480 = .ok (.invokestatic 164, 3) := by decide +kernel
theorem dL_ladder_483 : decode cL_ladder 483 = .ok (.ldc 81, 2) := by decide +kernel
theorem dL_ladder_485 : decode cL_ladder 485 = .ok (.if_icmp .ne 254, 3) := by decide +kernel
theorem dL_ladder_488 : decode cL_ladder 488 = .ok (.aload_n 1, 1) := by decide +kernel
theorem dL_ladder_489 : decode cL_ladder 489 = .ok (.bipush 102, 2) := by decide +kernel
theorem dL_ladder_491 : decode cL_ladder 491 = .ok (.iconst 2, 1) := by decide +kernel
theorem dL_ladder_492 : decode cL_ladder 492 = .ok (.newarray .int, 2) := by decide +kernel
theorem dL_ladder_494 : decode cL_ladder 494 = .ok (.dup, 1) := by decide +kernel
theorem dL_ladder_495 : decode cL_ladder 495 = .ok (.iconst 0, 1) := by decide +kernel
theorem dL_ladder_496 : decode cL_ladder 496 = .ok (.iconst 0, 1) := by decide +kernel
theorem dL_ladder_497 : decode cL_ladder 497 = .ok (.iastore, 1) := by decide +kernel
theorem dL_ladder_498 : decode cL_ladder 498 = .ok (.dup, 1) := by decide +kernel
theorem dL_ladder_499 : decode cL_ladder 499 = .ok (.iconst 1, 1) := by decide +kernel
theorem dL_ladder_500 : decode cL_ladder 500 = .ok (.iconst 1, 1) := by decide +kernel
theorem dL_ladder_501 : decode cL_ladder 501 = .ok (.iastore, 1) := by decide +kernel
theorem dL_ladder_502 : decode cL_ladder 502 = .ok (.invokestatic 164, 3) := by decide +kernel
theorem dL_ladder_505 : decode cL_ladder 505 = .ok (.ldc 78, 2) := by decide +kernel
theorem dL_ladder_507 : decode cL_ladder 507 = .ok (.if_icmp .ne 232, 3) := by decide +kernel
theorem dL_ladder_510 : decode cL_ladder 510 = .ok (.aload_n 1, 1) := by decide +kernel
theorem dL_ladder_511 : decode cL_ladder 511 = .ok (.bipush 65, 2) := by decide +kernel
theorem dL_ladder_513 : decode cL_ladder 513 = .ok (.iconst 1, 1) := by decide +kernel
theorem dL_ladder_514 : decode cL_ladder 514 = .ok (.newarray .int, 2) := by decide +kernel
theorem dL_ladder_516 : decode cL_ladder 516 = .ok (.dup, 1) := by decide +kernel
theorem dL_ladder_517 : decode cL_ladder 517 = .ok (.iconst 0, 1) := by decide +kernel
theorem dL_ladder_518 : decode cL_ladder 518 = .ok (.iconst 0, 1) := by decide +kernel
theorem dL_ladder_519 : decode cL_ladder 519 = .ok (.iastore, 1) := by decide +kernel
theorem dL_ladder_520 : decode cL_ladder 520 = .ok (.invokestatic 164, 3) := by decide +kernel
theorem dL_ladder_523 : decode cL_ladder 523 = .ok (.iconst 2, 1) := by decide +kernel
theorem dL_ladder_524 : decode cL_ladder 524 = .ok (.if_icmp .ne 215, 3) := by decide +kernel
theorem dL_ladder_527 : decode cL_ladder 527 = .ok (.aload_n 1, 1) := by decide +kernel
theorem dL_ladder_528 : decode cL_ladder 528 = .ok (.bipush 104, 2) := by decide +kernel
theorem dL_ladder_530 : decode cL_ladder 530 = .ok (.iconst 1, 1) := by decide +kernel
theorem dL_ladder_531 : decode cL_ladder 531 = .ok (.newarray .int, 2) := by decide +kernel
theorem dL_ladder_533 : decode cL_ladder 533 = .ok (.dup, 1) := by decide +kernel
theorem dL_ladder_534 : decode cL_ladder 534 = .ok (.iconst 0, 1) := by decide +kernel
theorem dL_ladder_535 : decode cL_ladder 535 = .ok (.iconst 0, 1) := by decide +kernel
theorem dL_ladder_536 : decode cL_ladder 536 = .ok (.iastore, 1) := by decide +kernel
theorem dL_ladder_537 : decode cL_ladder 537 = .ok (.invokestatic 164, 3) := by decide +kernel
theorem dL_ladder_540 : decode cL_ladder 540 = .ok (.ldc 81, 2) := by decide +kernel
theorem dL_ladder_542 : decode cL_ladder 542 = .ok (.if_icmp .ne 197, 3) := by decide +kernel
theorem dL_ladder_545 : decode cL_ladder 545 = .ok (.aload_n 1, 1) := by decide +kernel
theorem dL_ladder_546 : decode cL_ladder 546 = .ok (.bipush 100, 2) := by decide +kernel
theorem dL_ladder_548 : decode cL_ladder 548 = .ok (.iconst 1, 1) := by decide +kernel
theorem dL_ladder_549 : decode cL_ladder 549 = .ok (.newarray .int, 2) := by decide +kernel
theorem dL_ladder_551 : decode cL_ladder 551 = .ok (.dup, 1) := by decide +kernel
theorem dL_ladder_552 : decode cL_ladder 552 = .ok (.iconst 0, 1) := by decide +kernel
theorem dL_ladder_553 : decode cL_ladder 553 = .ok (.iconst 0, 1) := by decide +kernel
theorem dL_ladder_554 : decode cL_ladder 554 = .ok (.iastore, 1) := by decide +kernel
theorem dL_ladder_555 : decode cL_ladder 555 = .ok (.invokestatic 164, 3) := by decide +kernel
theorem dL_ladder_558 : decode cL_ladder 558 = .ok (.iconst 3, 1) := by decide +kernel
theorem dL_ladder_559 : decode cL_ladder 559 = .ok (.if_icmp .ne 180, 3) := by decide +kernel
theorem dL_ladder_562 : decode cL_ladder 562 = .ok (.aload_n 1, 1) := by decide +kernel
theorem dL_ladder_563 : decode cL_ladder 563 = .ok (.bipush 102, 2) := by decide +kernel
theorem dL_ladder_565 : decode cL_ladder 565 = .ok (.iconst 2, 1) := by decide +kernel
theorem dL_ladder_566 : decode cL_ladder 566 = .ok (.newarray .int, 2) := by decide +kernel
theorem dL_ladder_568 : decode cL_ladder 568 = .ok (.dup, 1) := by decide +kernel
theorem dL_ladder_569 : decode cL_ladder 569 = .ok (.iconst 0, 1) := by decide +kernel
theorem dL_ladder_570 : decode cL_ladder 570 = .ok (.iconst 0, 1) := by decide +kernel
theorem dL_ladder_571 : decode cL_ladder 571 = .ok (.iastore, 1) := by decide +kernel
theorem dL_ladder_572 : decode cL_ladder 572 = .ok (.dup, 1) := by decide +kernel
theorem dL_ladder_573 : decode cL_ladder 573 = .ok (.iconst 1, 1) := by decide +kernel
theorem dL_ladder_574 : decode cL_ladder 574 = .ok (.bipush 32, 2) := by decide +kernel
theorem dL_ladder_576 : decode cL_ladder 576 = .ok (.iastore, 1) := by decide +kernel
theorem dL_ladder_577 : decode cL_ladder 577 = .ok (.invokestatic 164, 3) := by decide +kernel
theorem dL_ladder_580 : decode cL_ladder 580 = .ok (.ldc 72, 2) := by decide +kernel
theorem dL_ladder_582 : decode cL_ladder 582 = .ok (.if_icmp .ne 157, 3) := by decide +kernel
theorem dL_ladder_585 : decode cL_ladder 585 = .ok (.aload_n 1, 1) := by decide +kernel
theorem dL_ladder_586 : decode cL_ladder 586 = .ok (.bipush 102, 2) := by decide +kernel
theorem dL_ladder_588 : decode cL_ladder 588 = .ok (.iconst 2, 1) := by decide +kernel
theorem dL_ladder_589 : decode cL_ladder 589 = .ok (.newarray .int, 2) := by decide +kernel
theorem dL_ladder_591 : decode cL_ladder 591 = .ok (.dup, 1) := by decide +kernel
theorem dL_ladder_592 : decode cL_ladder 592 = .ok (.iconst 0, 1) := by decide +kernel
theorem dL_ladder_593 : decode cL_ladder 593 = .ok (.iconst 0, 1) := by decide +kernel
theorem dL_ladder_594 : decode cL_ladder 594 = .ok (.iastore, 1) := by decide +kernel
theorem dL_ladder_595 : decode cL_ladder 595 = .ok (.dup, 1) := by decide +kernel
theorem dL_ladder_596 : decode cL_ladder 596 = .ok (.iconst 1, 1) := by decide +kernel
theorem dL_ladder_597 : decode cL_ladder 597 = .ok (.iload_n 3, 1) := by decide +kernel
theorem dL_ladder_598 : decode cL_ladder 598 = .ok (.iastore, 1) := by decide +kernel
theorem dL_ladder_599 : decode cL_ladder 599 = .ok (.invokestatic 164, 3) := by decide +kernel
theorem dL_ladder_602 : decode cL_ladder 602 = .ok (.iload 5, 2) := by decide +kernel
theorem dL_ladder_604 : decode cL_ladder 604 = .ok (.if_icmp .ne 135, 3) := by decide +kernel
theorem dL_ladder_607 : decode cL_ladder 607 = .ok (.aload_n 1, 1) := by decide +kernel
theorem dL_ladder_608 : decode cL_ladder 608 = .ok (.bipush 110, 2) := by decide +kernel
theorem dL_ladder_610 : decode cL_ladder 610 = .ok (.iconst 0, 1) := by decide +kernel
theorem dL_ladder_611 : decode cL_ladder 611 = .ok (.newarray .int, 2) := by decide +kernel
theorem dL_ladder_613 : decode cL_ladder 613 = .ok (.invokestatic 164, 3) := by decide +kernel
theorem dL_ladder_616 : decode cL_ladder 616 = .ok (.bipush 10, 2) := by decide +kernel
theorem dL_ladder_618 : decode cL_ladder 618 = .ok (.bipush 30, 2) := by decide +kernel
theorem dL_ladder_620 : decode cL_ladder 620 = .ok (.iload 5, 2) := by decide +kernel
theorem dL_ladder_622 : decode cL_ladder 622 = .ok (.imul, 1) := by decide +kernel
theorem dL_ladder_623 : decode cL_ladder 623 = .ok (.iadd, 1) := by decide +kernel
theorem dL_ladder_624 : decode cL_ladder 624 = .ok (.if_icmp .ne 115, 3) := by decide +kernel
theorem dL_ladder_627 : decode cL_ladder 627 = .ok (.aload_n 1, 1) := by decide +kernel
theorem dL_ladder_628 : decode cL_ladder 628 = .ok (.bipush 89, 2) := by decide +kernel
theorem dL_ladder_630 : decode cL_ladder 630 = .ok (.iconst 1, 1) := by decide +kernel
theorem dL_ladder_631 : decode cL_ladder 631 = .ok (.newarray .int, 2) := by decide +kernel
theorem dL_ladder_633 : decode cL_ladder 633 = .ok (.dup, 1) := by decide +kernel
theorem dL_ladder_634 : decode cL_ladder 634 = .ok (.iconst 0, 1) := by decide +kernel
theorem dL_ladder_635 : decode cL_ladder 635 = .ok (.iconst 0, 1) := by decide +kernel
theorem dL_ladder_636 : decode cL_ladder 636 = .ok (.iastore, 1) := by decide +kernel
theorem dL_ladder_637 : decode cL_ladder 637 = .ok (.invokestatic 164, 3) := by decide +kernel
theorem dL_ladder_640 : decode cL_ladder 640 = .ok (.ldc 81, 2) := by decide +kernel
theorem dL_ladder_642 : decode cL_ladder 642 = .ok (.if_icmp .ne 97, 3) := by decide +kernel
theorem dL_ladder_645 : decode cL_ladder 645 = .ok (.aload_n 1, 1) := by decide +kernel
theorem dL_ladder_646 : decode cL_ladder 646 = .ok (.bipush 121, 2) := by decide +kernel
theorem dL_ladder_648 : decode cL_ladder 648 = .ok (.iconst 2, 1) := by decide +kernel
theorem dL_ladder_649 : decode cL_ladder 649 = .ok (.newarray .int, 2) := by decide +kernel
theorem dL_ladder_651 : decode cL_ladder 651 = .ok (.dup, 1) := by decide +kernel
theorem dL_ladder_652 : decode cL_ladder 652 = .ok (.iconst 0, 1) := by decide +kernel
theorem dL_ladder_653 : decode cL_ladder 653 = .ok (.iconst 0, 1) := by decide +kernel
theorem dL_ladder_654 : decode cL_ladder 654 = .ok (.iastore, 1) := by decide +kernel
theorem dL_ladder_655 : decode cL_ladder 655 = .ok (.dup, 1) := by decide +kernel
theorem dL_ladder_656 : decode cL_ladder 656 = .ok (.iconst 1, 1) := by decide +kernel
theorem dL_ladder_657 : decode cL_ladder 657 = .ok (.iconst 0, 1) := by decide +kernel
theorem dL_ladder_658 : decode cL_ladder 658 = .ok (.iastore, 1) := by decide +kernel
theorem dL_ladder_659 : decode cL_ladder 659 = .ok (.invokestatic 164, 3) := by decide +kernel
theorem dL_ladder_662 : decode cL_ladder 662 = .ok (.bipush 10, 2) := by decide +kernel
theorem dL_ladder_664 : decode cL_ladder 664 = .ok (.bipush 30, 2) := by decide +kernel
theorem dL_ladder_666 : decode cL_ladder 666 = .ok (.iload 5, 2) := by decide +kernel
theorem dL_ladder_668 : decode cL_ladder 668 = .ok (.imul, 1) := by decide +kernel
theorem dL_ladder_669 : decode cL_ladder 669 = .ok (.iadd, 1) := by decide +kernel
theorem dL_ladder_670 : decode cL_ladder 670 = .ok (.if_icmp .ne 69, 3) := by decide +kernel
theorem dL_ladder_673 : decode cL_ladder 673 = .ok (.aload_n 1, 1) := by decide +kernel
theorem dL_ladder_674 : decode cL_ladder 674 = .ok (.bipush 89, 2) := by decide +kernel
theorem dL_ladder_676 : decode cL_ladder 676 = .ok (.iconst 1, 1) := by decide +kernel
theorem dL_ladder_677 : decode cL_ladder 677 = .ok (.newarray .int, 2) := by decide +kernel
theorem dL_ladder_679 : decode cL_ladder 679 = .ok (.dup, 1) := by decide +kernel
theorem dL_ladder_680 : decode cL_ladder 680 = .ok (.iconst 0, 1) := by decide +kernel
theorem dL_ladder_681 : decode cL_ladder 681 = .ok (.iconst 0, 1) := by decide +kernel
theorem dL_ladder_682 : decode cL_ladder 682 = .ok (.iastore, 1) := by decide +kernel
theorem dL_ladder_683 : decode cL_ladder 683 = .ok (.invokestatic 164, 3) := by decide +kernel
theorem dL_ladder_686 : decode cL_ladder 686 = .ok (.ifCond .ne 53, 3) := by decide +kernel
theorem dL_ladder_689 : decode cL_ladder 689 = .ok (.aload_n 1, 1) := by decide +kernel
theorem dL_ladder_690 : decode cL_ladder 690 = .ok (.bipush 121, 2) := by decide +kernel
theorem dL_ladder_692 : decode cL_ladder 692 = .ok (.iconst 2, 1) := by decide +kernel
theorem dL_ladder_693 : decode cL_ladder 693 = .ok (.newarray .int, 2) := by decide +kernel
theorem dL_ladder_695 : decode cL_ladder 695 = .ok (.dup, 1) := by decide +kernel
theorem dL_ladder_696 : decode cL_ladder 696 = .ok (.iconst 0, 1) := by decide +kernel
theorem dL_ladder_697 : decode cL_ladder 697 = .ok (.iconst 0, 1) := by decide +kernel
theorem dL_ladder_698 : decode cL_ladder 698 = .ok (.iastore, 1) := by decide +kernel
theorem dL_ladder_699 : decode cL_ladder 699 = .ok (.dup, 1) := by decide +kernel
theorem dL_ladder_700 : decode cL_ladder 700 = .ok (.iconst 1, 1) := by decide +kernel
theorem dL_ladder_701 : decode cL_ladder 701 = .ok (.iconst 1, 1) := by decide +kernel
theorem dL_ladder_702 : decode cL_ladder 702 = .ok (.iastore, 1) := by decide +kernel
theorem dL_ladder_703 : decode cL_ladder 703 = .ok (.invokestatic 164, 3) := by decide +kernel
theorem dL_ladder_706 : decode cL_ladder 706 = .ok (.ldc 78, 2) := by decide +kernel
theorem dL_ladder_708 : decode cL_ladder 708 = .ok (.if_icmp .ne 31, 3) := by decide +kernel
theorem dL_ladder_711 : decode cL_ladder 711 = .ok (.aload_n 1, 1) := by decide +kernel
theorem dL_ladder_712 : decode cL_ladder 712 = .ok (.bipush 70, 2) := by decide +kernel
theorem dL_ladder_714 : decode cL_ladder 714 = .ok (.iconst 1, 1) := by decide +kernel
theorem dL_ladder_715 : decode cL_ladder 715 = .ok (.newarray .int, 2) := by decide +kernel
theorem dL_ladder_717 : decode cL_ladder 717 = .ok (.dup, 1) := by decide +kernel
theorem dL_ladder_718 : decode cL_ladder 718 = .ok (.iconst 0, 1) := by decide +kernel
theorem dL_ladder_719 : decode cL_ladder 719 = .ok (.iconst 0, 1) := by decide +kernel
theorem dL_ladder_720 : decode cL_ladder 720 = .ok (.iastore, 1) := by decide +kernel
theorem dL_ladder_721 : decode cL_ladder 721 = .ok (.invokestatic 164, 3) := by decide +kernel
theorem dL_ladder_724 : decode cL_ladder 724 = .ok (.ldc 78, 2) := by decide +kernel
theorem dL_ladder_726 : decode cL_ladder 726 = .ok (.if_icmp .ne 13, 3) := by decide +kernel
theorem dL_ladder_729 : decode cL_ladder 729 = .ok (.aload_n 1, 1) := by decide +kernel
theorem dL_ladder_730 : decode cL_ladder 730 = .ok (.iconst 0, 1) := by decide +kernel
theorem dL_ladder_731 : decode cL_ladder 731 = .ok (.invokevirtual 132, 3) := by decide +kernel
theorem dL_ladder_734 : decode cL_ladder 734 = .ok (.fconst 0, 1) := by decide +kernel
theorem dL_ladder_735 : decode cL_ladder 735 = .ok (.fcmp .l, 1) := by decide +kernel
theorem dL_ladder_736 : decode cL_ladder 736 = .ok (.ifCond .eq 5, 3) := by decide +kernel
theorem dL_ladder_739 : decode cL_ladder 739 = .ok (.iconst 0, 1) := by decide +kernel
theorem dL_ladder_740 : decode cL_ladder 740 = .ok (.ireturn, 1) := by decide +kernel
theorem dL_ladder_741 : decode cL_ladder 741 = .ok (.iconst 4, 1) := by decide +kernel
theorem dL_ladder_742 : decode cL_ladder 742 = .ok (.iload 5, 2) := by decide +kernel
theorem dL_ladder_744 : decode cL_ladder 744 = .ok (.iconst 1, 1) := by decide +kernel
theorem dL_ladder_745 : decode cL_ladder 745 = .ok (.iadd, 1) := by decide +kernel
theorem dL_ladder_746 : decode cL_ladder 746 = .ok (.invokestatic 188, 3) := by decide +kernel
theorem dL_ladder_749 : decode cL_ladder 749 = .ok (.istore 6, 2) := by decide +kernel
theorem dL_ladder_751 : decode cL_ladder 751 = .ok (.bipush 11, 2) := by decide +kernel
theorem dL_ladder_753 : decode cL_ladder 753 = .ok (.bipush 30, 2) := by decide +kernel
theorem dL_ladder_755 : decode cL_ladder 755 = .ok (.iload 5, 2) := by decide +kernel
theorem dL_ladder_757 : decode cL_ladder 757 = .ok (.imul, 1) := by decide +kernel
theorem dL_ladder_758 : decode cL_ladder 758 = .ok (.iadd, 1) := by decide +kernel
theorem dL_ladder_759 : decode cL_ladder 759 = .ok (.istore 7, 2) := by decide +kernel
theorem dL_ladder_761 : decode cL_ladder 761 = .ok (.aload_n 1, 1) := by decide +kernel
theorem dL_ladder_762 : decode cL_ladder 762 = .ok (.bipush 112, 2) := by decide +kernel
theorem dL_ladder_764 : decode cL_ladder 764 = .ok (.iconst 1, 1) := by decide +kernel
theorem dL_ladder_765 : decode cL_ladder 765 = .ok (.newarray .int, 2) := by decide +kernel
theorem dL_ladder_767 : decode cL_ladder 767 = .ok (.dup, 1) := by decide +kernel
theorem dL_ladder_768 : decode cL_ladder 768 = .ok (.iconst 0, 1) := by decide +kernel
theorem dL_ladder_769 : decode cL_ladder 769 = .ok (.iconst 1, 1) := by decide +kernel
theorem dL_ladder_770 : decode cL_ladder 770 = .ok (.bipush 30, 2) := by decide +kernel
theorem dL_ladder_772 : decode cL_ladder 772 = .ok (.iload 5, 2) := by decide +kernel
theorem dL_ladder_774 : decode cL_ladder 774 = .ok (.imul, 1) := by decide +kernel
theorem dL_ladder_775 : decode cL_ladder 775 = .ok (.iadd, 1) := by decide +kernel
theorem dL_ladder_776 : decode cL_ladder 776 = .ok (.iastore, 1) := by decide +kernel
theorem dL_ladder_777 : decode cL_ladder 777 = .ok (.invokestatic 164, 3) := by decide +kernel
theorem dL_ladder_780 : decode cL_ladder 780 = .ok (.iload 7, 2) := by decide +kernel
theorem dL_ladder_782 : decode cL_ladder 782 = .ok (.if_icmp .ne 247, 3) := by decide +kernel
theorem dL_ladder_785 : decode cL_ladder 785 = .ok (.aload_n 1, 1) := by decide +kernel
theorem dL_ladder_786 : decode cL_ladder 786 = .ok (.bipush 72, 2) := by decide +kernel
theorem dL_ladder_788 : decode cL_ladder 788 = .ok (.iconst 1, 1) := by decide +kernel
theorem dL_ladder_789 : decode cL_ladder 789 = .ok (.newarray .int, 2) := by decide +kernel
theorem dL_ladder_791 : decode cL_ladder 791 = .ok (.dup, 1) := by decide +kernel
theorem dL_ladder_792 : decode cL_ladder 792 = .ok (.iconst 0, 1) := by decide +kernel
theorem dL_ladder_793 : decode cL_ladder 793 = .ok (.iconst 0, 1) := by decide +kernel
theorem dL_ladder_794 : decode cL_ladder 794 = .ok (.iastore, 1) := by decide +kernel
theorem dL_ladder_795 : decode cL_ladder 795 = .ok (.invokestatic 164, 3) := by decide +kernel
theorem dL_ladder_798 : decode cL_ladder 798 = .ok (.ldc 78, 2) := by decide +kernel
theorem dL_ladder_800 : decode cL_ladder 800 = .ok (.if_icmp .ne 229, 3) := by decide +kernel
theorem dL_ladder_803 : decode cL_ladder 803 = .ok (.aload_n 1, 1) := by decide +kernel
theorem dL_ladder_804 : decode cL_ladder 804 = .ok (.bipush 70, 2) := by decide +kernel
theorem dL_ladder_806 : decode cL_ladder 806 = .ok (.iconst 1, 1) := by decide +kernel
theorem dL_ladder_807 : decode cL_ladder 807 = .ok (.newarray .int, 2) := by decide +kernel
theorem dL_ladder_809 : decode cL_ladder 809 = .ok (.dup, 1) := by decide +kernel
theorem dL_ladder_810 : decode cL_ladder 810 = .ok (.iconst 0, 1) := by decide +kernel
theorem dL_ladder_811 : decode cL_ladder 811 = .ok (.iconst 0, 1) := by decide +kernel
theorem dL_ladder_812 : decode cL_ladder 812 = .ok (.iastore, 1) := by decide +kernel
theorem dL_ladder_813 : decode cL_ladder 813 = .ok (.invokestatic 164, 3) := by decide +kernel
theorem dL_ladder_816 : decode cL_ladder 816 = .ok (.iload 6, 2) := by decide +kernel
theorem dL_ladder_818 : decode cL_ladder 818 = .ok (.if_icmp .ne 211, 3) := by decide +kernel
theorem dL_ladder_821 : decode cL_ladder 821 = .ok (.aload_n 1, 1) := by decide +kernel
theorem dL_ladder_822 : decode cL_ladder 822 = .ok (.bipush 82, 2) := by decide +kernel
theorem dL_ladder_824 : decode cL_ladder 824 = .ok (.iconst 1, 1) := by decide +kernel
theorem dL_ladder_825 : decode cL_ladder 825 = .ok (.newarray .int, 2) := by decide +kernel
theorem dL_ladder_827 : decode cL_ladder 827 = .ok (.dup, 1) := by decide +kernel
theorem dL_ladder_828 : decode cL_ladder 828 = .ok (.iconst 0, 1) := by decide +kernel
theorem dL_ladder_829 : decode cL_ladder 829 = .ok (.iconst 0, 1) := by decide +kernel
theorem dL_ladder_830 : decode cL_ladder 830 = .ok (.iastore, 1) := by decide +kernel
theorem dL_ladder_831 : decode cL_ladder 831 = .ok (.invokestatic 164, 3) := by decide +kernel
theorem dL_ladder_834 : decode cL_ladder 834 = .ok (.iload 6, 2) := by decide +kernel
theorem dL_ladder_836 : decode cL_ladder 836 = .ok (.if_icmp .ne 193, 3) := by decide +kernel
theorem dL_ladder_839 : decode cL_ladder 839 = .ok (.aload_n 1, 1) := by decide +kernel
theorem dL_ladder_840 : decode cL_ladder 840 = .ok (.bipush 89, 2) := by decide +kernel
theorem dL_ladder_842 : decode cL_ladder 842 = .ok (.iconst 1, 1) := by decide +kernel
theorem dL_ladder_843 : decode cL_ladder 843 = .ok (.newarray .int, 2) := by decide +kernel
theorem dL_ladder_845 : decode cL_ladder 845 = .ok (.dup, 1) := by decide +kernel
theorem dL_ladder_846 : decode cL_ladder 846 = .ok (.iconst 0, 1) := by decide +kernel
theorem dL_ladder_847 : decode cL_ladder 847 = .ok (.iconst 0, 1) := by decide +kernel
theorem dL_ladder_848 : decode cL_ladder 848 = .ok (.iastore, 1) := by decide +kernel
theorem dL_ladder_849 : decode cL_ladder 849 = .ok (.invokestatic 164, 3) := by decide +kernel
theorem dL_ladder_852 : decode cL_ladder 852 = .ok (.ldc 81, 2) := by decide +kernel
theorem dL_ladder_854 : decode cL_ladder 854 = .ok (.if_icmp .ne 175, 3) := by decide +kernel
theorem dL_ladder_857 : decode cL_ladder 857 = .ok (.aload_n 1, 1) := by decide +kernel
theorem dL_ladder_858 : decode cL_ladder 858 = .ok (.bipush 121, 2) := by decide +kernel
theorem dL_ladder_860 : decode cL_ladder 860 = .ok (.iconst 2, 1) := by decide +kernel
theorem dL_ladder_861 : decode cL_ladder 861 = .ok (.newarray .int, 2) := by decide +kernel
theorem dL_ladder_863 : decode cL_ladder 863 = .ok (.dup, 1) := by decide +kernel
theorem dL_ladder_864 : decode cL_ladder 864 = .ok (.iconst 0, 1) := by decide +kernel
theorem dL_ladder_865 : decode cL_ladder 865 = .ok (.iconst 0, 1) := by decide +kernel
theorem dL_ladder_866 : decode cL_ladder 866 = .ok (.iastore, 1) := by decide +kernel
theorem dL_ladder_867 : decode cL_ladder 867 = .ok (.dup, 1) := by decide +kernel
theorem dL_ladder_868 : decode cL_ladder 868 = .ok (.iconst 1, 1) := by decide +kernel
theorem dL_ladder_869 : decode cL_ladder 869 = .ok (.iconst 1, 1) := by decide +kernel
theorem dL_ladder_870 : decode cL_ladder 870 = .ok (.iastore, 1) := by decide +kernel
theorem dL_ladder_871 : decode cL_ladder 871 = .ok (.invokestatic 164, 3) := by decide +kernel
theorem dL_ladder_874 : decode cL_ladder 874 = .ok (.iload 7, 2) := by decide +kernel
theorem dL_ladder_876 : decode cL_ladder 876 = .ok (.bipush 30, 2) := by decide +kernel
theorem dL_ladder_878 : decode cL_ladder 878 = .ok (.iload 6, 2) := by decide +kernel
theorem dL_ladder_880 : decode cL_ladder 880 = .ok (.imul, 1) := by decide +kernel
theorem dL_ladder_881 : decode cL_ladder 881 = .ok (.iadd, 1) := by decide +kernel
theorem dL_ladder_882 : decode cL_ladder 882 = .ok (.if_icmp .ne 147, 3) := by decide +kernel
theorem dL_ladder_885 : decode cL_ladder 885 = .ok (.aload_n 1, 1) := by decide +kernel
theorem dL_ladder_886 : decode cL_ladder 886 = .ok (.bipush 89, 2) := by decide +kernel
theorem dL_ladder_888 : decode cL_ladder 888 = .ok (.iconst 1, 1) := by decide +kernel
theorem dL_ladder_889 : decode cL_ladder 889 = .ok (.newarray .int, 2) := by decide +kernel
theorem dL_ladder_891 : decode cL_ladder 891 = .ok (.dup, 1) := by decide +kernel
theorem dL_ladder_892 : decode cL_ladder 892 = .ok (.iconst 0, 1) := by decide +kernel
theorem dL_ladder_893 : decode cL_ladder 893 = .ok (.iconst 0, 1) := by decide +kernel
theorem dL_ladder_894 : decode cL_ladder 894 = .ok (.iastore, 1) := by decide +kernel
theorem dL_ladder_895 : decode cL_ladder 895 = .ok (.invokestatic 164, 3) := by decide +kernel
theorem dL_ladder_898 : decode cL_ladder 898 = .ok (.iconst 1, 1) := by decide +kernel
theorem dL_ladder_899 : decode cL_ladder 899 = .ok (.if_icmp .ne 130, 3) := by decide +kernel
theorem dL_ladder_902 : decode cL_ladder 902 = .ok (.aload_n 1, 1) := by decide +kernel
theorem dL_ladder_903 : decode cL_ladder 903 = .ok (.bipush 112, 2) := by decide +kernel
theorem dL_ladder_905 : decode cL_ladder 905 = .ok (.iconst 1, 1) := by decide +kernel
theorem dL_ladder_906 : decode cL_ladder 906 = .ok (.newarray .int, 2) := by decide +kernel
theorem dL_ladder_908 : decode cL_ladder 908 = .ok (.dup, 1) := by decide +kernel
theorem dL_ladder_909 : decode cL_ladder 909 = .ok (.iconst 0, 1) := by decide +kernel
theorem dL_ladder_910 : decode cL_ladder 910 = .ok (.iconst 1, 1) := by decide +kernel
theorem dL_ladder_911 : decode cL_ladder 911 = .ok (.bipush 30, 2) := by decide +kernel
theorem dL_ladder_913 : decode cL_ladder 913 = .ok (.iload 6, 2) := by decide +kernel
theorem dL_ladder_915 : decode cL_ladder 915 = .ok (.imul, 1) := by decide +kernel
theorem dL_ladder_916 : decode cL_ladder 916 = .ok (.iadd, 1) := by decide +kernel
theorem dL_ladder_917 : decode cL_ladder 917 = .ok (.iastore, 1) := by decide +kernel
theorem dL_ladder_918 : decode cL_ladder 918 = .ok (.invokestatic 164, 3) := by decide +kernel
theorem dL_ladder_921 : decode cL_ladder 921 = .ok (.ifCond .lt 108, 3) := by decide +kernel
theorem dL_ladder_924 : decode cL_ladder 924 = .ok (.aload_n 1, 1) := by decide +kernel
theorem dL_ladder_925 : decode cL_ladder 925 = .ok (.bipush 70, 2) := by decide +kernel
theorem dL_ladder_927 : decode cL_ladder 927 = .ok (.iconst 1, 1) := by decide +kernel
theorem dL_ladder_928 : decode cL_ladder 928 = .ok (.newarray .int, 2) := by decide +kernel
theorem dL_ladder_930 : decode cL_ladder 930 = .ok (.dup, 1) := by decide +kernel
theorem dL_ladder_931 : decode cL_ladder 931 = .ok (.iconst 0, 1) := by decide +kernel
theorem dL_ladder_932 : decode cL_ladder 932 = .ok (.iconst 0, 1) := by decide +kernel
theorem dL_ladder_933 : decode cL_ladder 933 = .ok (.iastore, 1) := by decide +kernel
theorem dL_ladder_934 : decode cL_ladder 934 = .ok (.invokestatic 164, 3) := by decide +kernel
theorem dL_ladder_937 : decode cL_ladder 937 = .ok (.ifCond .ne 92, 3) := by decide +kernel
theorem dL_ladder_940 : decode cL_ladder 940 = .ok (.aload_n 1, 1) := by decide +kernel
theorem dL_ladder_941 : decode cL_ladder 941 = .ok (.bipush 115, 2) := by decide +kernel
theorem dL_ladder_943 : decode cL_ladder 943 = .ok (.iconst 1, 1) := by decide +kernel
theorem dL_ladder_944 : decode cL_ladder 944 = .ok (.newarray .int, 2) := by decide +kernel
theorem dL_ladder_946 : decode cL_ladder 946 = .ok (.dup, 1) := by decide +kernel
theorem dL_ladder_947 : decode cL_ladder 947 = .ok (.iconst 0, 1) := by decide +kernel
theorem dL_ladder_948 : decode cL_ladder 948 = .ok (.iconst 0, 1) := by decide +kernel
theorem dL_ladder_949 : decode cL_ladder 949 = .ok (.iastore, 1) := by decide +kernel
theorem dL_ladder_950 : decode cL_ladder 950 = .ok (.invokestatic 164, 3) := by decide +kernel
theorem dL_ladder_953 : decode cL_ladder 953 = .ok (.bipush 105, 2) := by decide +kernel
theorem dL_ladder_955 : decode cL_ladder 955 = .ok (.if_icmp .ne 74, 3) := by decide +kernel
theorem dL_ladder_958 : decode cL_ladder 958 = .ok (.aload_n 1, 1) := by decide +kernel
theorem dL_ladder_959 : decode cL_ladder 959 = .ok (.bipush 82, 2) := by decide +kernel
theorem dL_ladder_961 : decode cL_ladder 961 = .ok (.iconst 1, 1) := by decide +kernel
theorem dL_ladder_962 : decode cL_ladder 962 = .ok (.newarray .int, 2) := by decide +kernel
theorem dL_ladder_964 : decode cL_ladder 964 = .ok (.dup, 1) := by decide +kernel
theorem dL_ladder_965 : decode cL_ladder 965 = .ok (.iconst 0, 1) := by decide +kernel
theorem dL_ladder_966 : decode cL_ladder 966 = .ok (.iconst 0, 1) := by decide +kernel
theorem dL_ladder_967 : decode cL_ladder 967 = .ok (.iastore, 1) := by decide +kernel
theorem dL_ladder_968 : decode cL_ladder 968 = .ok (.invokestatic 164, 3) := by decide +kernel
theorem dL_ladder_971 : decode cL_ladder 971 = .ok (.iload 6, 2) := by decide +kernel
theorem dL_ladder_973 : decode cL_ladder 973 = .ok (.if_icmp .ne 56, 3) := by decide +kernel
theorem dL_ladder_976 : decode cL_ladder 976 = .ok (.aload_n 1, 1) := by decide +kernel
theorem dL_ladder_977 : decode cL_ladder 977 = .ok (.bipush 70, 2) := by decide +kernel
theorem dL_ladder_979 : decode cL_ladder 979 = .ok (.iconst 1, 1) := by decide +kernel
theorem dL_ladder_980 : decode cL_ladder 980 = .ok (.newarray .int, 2) := by decide +kernel
theorem dL_ladder_982 : decode cL_ladder 982 = .ok (.dup, 1) := by decide +kernel
theorem dL_ladder_983 : decode cL_ladder 983 = .ok (.iconst 0, 1) := by decide +kernel
theorem dL_ladder_984 : decode cL_ladder 984 = .ok (.iconst 0, 1) := by decide +kernel
theorem dL_ladder_985 : decode cL_ladder 985 = .ok (.iastore, 1) := by decide +kernel
theorem dL_ladder_986 : decode cL_ladder 986 = .ok (.invokestatic 164, 3) := by decide +kernel
theorem dL_ladder_989 : decode cL_ladder 989 = .ok (.ldc 78, 2) := by decide +kernel
theorem dL_ladder_991 : decode cL_ladder 991 = .ok (.if_icmp .ne 38, 3) := by decide +kernel
theorem dL_ladder_994 : decode cL_ladder 994 = .ok (.aload_n 1, 1) := by decide +kernel
theorem dL_ladder_995 : decode cL_ladder 995 = .ok (.bipush 87, 2) := by decide +kernel
theorem dL_ladder_997 : decode cL_ladder 997 = .ok (.iconst 1, 1) := by decide +kernel
theorem dL_ladder_998 : decode cL_ladder 998 = .ok (.newarray .int, 2) := by decide +kernel
theorem dL_ladder_1000 : decode cL_ladder 1000 = .ok (.dup, 1) := by decide +kernel
theorem dL_ladder_1001 : decode cL_ladder 1001 = .ok (.iconst 0, 1) := by decide +kernel
theorem dL_ladder_1002 : decode cL_ladder 1002 = .ok (.iconst 0, 1) := by decide +kernel
theorem dL_ladder_1003 : decode cL_ladder 1003 = .ok (.iastore, 1) := by decide +kernel
theorem dL_ladder_1004 : decode cL_ladder 1004 = .ok (.invokestatic 164, 3) := by decide +kernel
theorem dL_ladder_1007 : decode cL_ladder 1007 = .ok (.ldc 78, 2) := by decide +kernel
theorem dL_ladder_1009 : decode cL_ladder 1009 = .ok (.if_icmp .ne 20, 3) := by decide +kernel
theorem dL_ladder_1012 : decode cL_ladder 1012 = .ok (.aload_n 1, 1) := by decide +kernel
theorem dL_ladder_1013 : decode cL_ladder 1013 = .ok (.bipush 112, 2) := by decide +kernel
theorem dL_ladder_1015 : decode cL_ladder 1015 = .ok (.iconst 1, 1) := by decide +kernel
theorem dL_ladder_1016 : decode cL_ladder 1016 = .ok (.newarray .int, 2) := by decide +kernel
theorem dL_ladder_1018 : decode cL_ladder 1018 = .ok (.dup, 1) := by decide +kernel
theorem dL_ladder_1019 : decode cL_ladder 1019 = .ok (.iconst 0, 1) := by decide +kernel
theorem dL_ladder_1020 : decode cL_ladder 1020 = .ok (.bipush 9, 2) := by decide +kernel
theorem dL_ladder_1022 : decode cL_ladder 1022 = .ok (.iastore, 1) := by decide +kernel
theorem dL_ladder_1023 : decode cL_ladder 1023 = .ok (.invokestatic 164, 3) := by decide +kernel
theorem dL_ladder_1026 : decode cL_ladder 1026 = .ok (.ifCond .ge 5, 3) := by decide +kernel
theorem dL_ladder_1029 : decode cL_ladder 1029 = .ok (.iconst 0, 1) := by decide +kernel
theorem dL_ladder_1030 : decode cL_ladder 1030 = .ok (.ireturn, 1) := by decide +kernel
theorem dL_ladder_1031 : decode cL_ladder 1031 = .ok (.aload_n 1, 1) := by decide +kernel
theorem dL_ladder_1032 : decode cL_ladder 1032 = .ok (.bipush 100, 2) := by decide +kernel
theorem dL_ladder_1034 : decode cL_ladder 1034 = .ok (.iconst 1, 1) := by decide +kernel
theorem dL_ladder_1035 : decode cL_ladder 1035 = .ok (.newarray .int, 2) := by decide +kernel
theorem dL_ladder_1037 : decode cL_ladder 1037 = .ok (.dup, 1) := by decide +kernel
theorem dL_ladder_1038 : decode cL_ladder 1038 = .ok (.iconst 0, 1) := by decide +kernel
theorem dL_ladder_1039 : decode cL_ladder 1039 = .ok (.iconst 0, 1) := by decide +kernel
theorem dL_ladder_1040 : decode cL_ladder 1040 = .ok (.iastore, 1) := by decide +kernel
theorem dL_ladder_1041 : decode cL_ladder 1041 = .ok (.invokestatic 164, 3) := by decide +kernel
theorem dL_ladder_1044 : decode cL_ladder 1044 = .ok (.iload 7, 2) := by decide +kernel
theorem dL_ladder_1046 : decode cL_ladder 1046 = .ok (.iconst 1, 1) := by decide +kernel
theorem dL_ladder_1047 : decode cL_ladder 1047 = .ok (.iadd, 1) := by decide +kernel
theorem dL_ladder_1048 : decode cL_ladder 1048 = .ok (.bipush 30, 2) := by decide +kernel
theorem dL_ladder_1050 : decode cL_ladder 1050 = .ok (.iload 6, 2) := by decide +kernel
theorem dL_ladder_1052 : decode cL_ladder 1052 = .ok (.imul, 1) := by decide +kernel
theorem dL_ladder_1053 : decode cL_ladder 1053 = .ok (.iadd, 1) := by decide +kernel
theorem dL_ladder_1054 : decode cL_ladder 1054 = .ok (.bipush 7, 2) := by decide +kernel
theorem dL_ladder_1056 : decode cL_ladder 1056 = .ok (.isub, 1) := by decide +kernel
theorem dL_ladder_1057 : decode cL_ladder 1057 = .ok (.if_icmp .ne 64, 3) := by decide +kernel
theorem dL_ladder_1060 : decode cL_ladder 1060 = .ok (.aload_n 1, 1) := by decide +kernel
theorem dL_ladder_1061 : decode cL_ladder 1061 = .ok (.invokevirtual 138, 3) := by decide +kernel
theorem dL_ladder_1064 : decode cL_ladder 1064 = .ok (.iload 7, 2) := by decide +kernel
theorem dL_ladder_1066 : decode cL_ladder 1066 = .ok (.iconst 1, 1) := by decide +kernel
theorem dL_ladder_1067 : decode cL_ladder 1067 = .ok (.iadd, 1) := by decide +kernel
theorem dL_ladder_1068 : decode cL_ladder 1068 = .ok (.bipush 30, 2) := by decide +kernel
theorem dL_ladder_1070 : decode cL_ladder 1070 = .ok (.iload 6, 2) := by decide +kernel
theorem dL_ladder_1072 : decode cL_ladder 1072 = .ok (.imul, 1) := by decide +kernel
theorem dL_ladder_1073 : decode cL_ladder 1073 = .ok (.iadd, 1) := by decide +kernel
theorem dL_ladder_1074 : decode cL_ladder 1074 = .ok (.bipush 7, 2) := by decide +kernel
theorem dL_ladder_1076 : decode cL_ladder 1076 = .ok (.isub, 1) := by decide +kernel
theorem dL_ladder_1077 : decode cL_ladder 1077 = .ok (.i2d, 1) := by decide +kernel
theorem dL_ladder_1078 : decode cL_ladder 1078 = .ok (.dcmp .l, 1) := by decide +kernel
theorem dL_ladder_1079 : decode cL_ladder 1079 = .ok (.ifCond .ne 42, 3) := by decide +kernel
theorem dL_ladder_1082 : decode cL_ladder 1082 = .ok (.aload_n 1, 1) := by decide +kernel
theorem dL_ladder_1083 : decode cL_ladder 1083 = .ok (.iconst 0, 1) := by decide +kernel
theorem dL_ladder_1084 : decode cL_ladder 1084 = .ok (.invokevirtual 132, 3) := by decide +kernel
theorem dL_ladder_1087 : decode cL_ladder 1087 = .ok (.fconst 0, 1) := by decide +kernel
theorem dL_ladder_1088 : decode cL_ladder 1088 = .ok (.fcmp .l, 1) := by decide +kernel
theorem dL_ladder_1089 : decode cL_ladder 1089 = .ok (.ifCond .ne 32, 3) := by decide +kernel
theorem dL_ladder_1092 : decode cL_ladder 1092 = .ok (.aload_n 1, 1) := by decide +kernel
theorem dL_ladder_1093 : decode cL_ladder 1093 = .ok (.bipush 78, 2) := by decide +kernel
theorem dL_ladder_1095 : decode cL_ladder 1095 = .ok (.iconst 1, 1) := by decide +kernel
theorem dL_ladder_1096 : decode cL_ladder 1096 = .ok (.newarray .int, 2) := by decide +kernel
theorem dL_ladder_1098 : decode cL_ladder 1098 = .ok (.dup, 1) := by decide +kernel
theorem dL_ladder_1099 : decode cL_ladder 1099 = .ok (.iconst 0, 1) := by decide +kernel
theorem dL_ladder_1100 : decode cL_ladder 1100 = .ok (.bipush 105, 2) := by decide +kernel
theorem dL_ladder_1102 : decode cL_ladder 1102 = .ok (.iastore, 1) := by decide +kernel
theorem dL_ladder_1103 : decode cL_ladder 1103 = .ok (.invokestatic 164, 3) := by decide +kernel
theorem dL_ladder_1106 : decode cL_ladder 1106 = .ok (.iconst 1, 1) := by decide +kernel
theorem dL_ladder_1107 : decode cL_ladder 1107 = .ok (.if_icmp .ne 14, 3) := by decide +kernel
theorem dL_ladder_1110 : decode cL_ladder 1110 = .ok (.aload_n 1, 1) := by decide +kernel
theorem dL_ladder_1111 : decode cL_ladder 1111 = .ok (.invokevirtual 160, 3) := by decide +kernel
theorem dL_ladder_1114 : decode cL_ladder 1114 = .ok (.ifCond .eq 7, 3) := by decide +kernel
theorem dL_ladder_1117 : decode cL_ladder 1117 = .ok (.iconst 1, 1) := by decide +kernel
theorem dL_ladder_1118 : decode cL_ladder 1118 = .ok (.goto 4, 3) := by decide +kernel
theorem dL_ladder_1121 : decode cL_ladder 1121 = .ok (.iconst 0, 1) := by decide +kernel
theorem dL_ladder_1122 : decode cL_ladder 1122 = .ok (.ireturn, 1) := by decide +kernel
theorem dL_silence_0 : decode cL_silence 0 = .ok (.new 8, 3) := by decide +kernel
theorem dL_silence_3 : decode cL_silence 3 = .ok (.dup, 1) := by decide +kernel
theorem dL_silence_4 : decode cL_silence 4 = .ok (.invokespecial 142, 3) := by decide +kernel
theorem dL_silence_7 : decode cL_silence 7 = .ok (.astore_n 0, 1) := by decide +kernel
theorem dL_silence_8 : decode cL_silence 8 = .ok (.aload_n 0, 1) := by decide +kernel
theorem dL_silence_9 : decode cL_silence 9 = .ok (.bipush 79, 2) := by decide +kernel
theorem dL_silence_11 : decode cL_silence 11 = .ok (.iconst 2, 1) := by decide +kernel
theorem dL_silence_12 : decode cL_silence 12 = .ok (.newarray .int, 2) := by decide +kernel
theorem dL_silence_14 : decode cL_silence 14 = .ok (.dup, 1) := by decide +kernel
theorem dL_silence_15 : decode cL_silence 15 = .ok (.iconst 0, 1) := by decide +kernel
theorem dL_silence_16 : decode cL_silence 16 = .ok (.iconst 1, 1) := by decide +kernel
theorem dL_silence_17 : decode cL_silence 17 = .ok (.iastore, 1) := by decide +kernel
theorem dL_silence_18 : decode cL_silence 18 = .ok (.dup, 1) := by decide +kernel
theorem dL_silence_19 : decode cL_silence 19 = .ok (.iconst 1, 1) := by decide +kernel
theorem dL_silence_20 : decode cL_silence 20 = .ok (.iconst 3, 1) := by decide +kernel
theorem dL_silence_21 : decode cL_silence 21 = .ok (.iastore, 1) := by decide +kernel
theorem dL_silence_22 : decode cL_silence 22 = .ok (.invokestatic 164, 3) := by decide +kernel
theorem dL_silence_25 : decode cL_silence 25 = .ok (.ifCond .eq 5, 3) := by decide +kernel
theorem dL_silence_28 : decode cL_silence 28 = .ok (.iconst 0, 1) := by decide +kernel
theorem dL_silence_29 : decode cL_silence 29 = .ok (.ireturn, 1) := by decide +kernel
theorem dL_silence_30 : decode cL_silence 30 = .ok (.iconst 0, 1) := by decide +kernel
theorem dL_silence_31 : decode cL_silence 31 = .ok (.istore_n 1, 1) := by decide +kernel
theorem dL_silence_32 : decode cL_silence 32 = .ok (.iload_n 1, 1) := by decide +kernel
theorem dL_silence_33 : decode cL_silence 33 = .ok (.iconst 4, 1) := by decide +kernel
theorem dL_silence_34 : decode cL_silence 34 = .ok (.if_icmp .ge 66, 3) := by decide +kernel
theorem dL_silence_37 : decode cL_silence 37 = .ok (.aload_n 0, 1) := by decide +kernel
theorem dL_silence_38 : decode cL_silence 38 = .ok (.bipush 99, 2) := by decide +kernel
theorem dL_silence_40 : decode cL_silence 40 = .ok (.iconst 4, 1) := by decide +kernel
theorem dL_silence_41 : decode cL_silence 41 = .ok (.newarray .int, 2) := by decide +kernel
theorem dL_silence_43 : decode cL_silence 43 = .ok (.dup, 1) := by decide +kernel
theorem dL_silence_44 : decode cL_silence 44 = .ok (.iconst 0, 1) := by decide +kernel
theorem dL_silence_45 : decode cL_silence 45 = .ok (.iconst 0, 1) := by decide +kernel
theorem dL_silence_46 : decode cL_silence 46 = .ok (.iastore, 1) := by decide +kernel
theorem dL_silence_47 : decode cL_silence 47 = .ok (.dup, 1) := by decide +kernel
theorem dL_silence_48 : decode cL_silence 48 = .ok (.iconst 1, 1) := by decide +kernel
theorem dL_silence_49 : decode cL_silence 49 = .ok (.iload_n 1, 1) := by decide +kernel
theorem dL_silence_50 : decode cL_silence 50 = .ok (.iconst 3, 1) := by decide +kernel
theorem dL_silence_51 : decode cL_silence 51 = .ok (.if_icmp .ne 7, 3) := by decide +kernel
theorem dL_silence_54 : decode cL_silence 54 = .ok (.iconst 1, 1) := by decide +kernel
theorem dL_silence_55 : decode cL_silence 55 = .ok (.goto 4, 3) := by decide +kernel
theorem dL_silence_58 : decode cL_silence 58 = .ok (.iconst 0, 1) := by decide +kernel
theorem dL_silence_59 : decode cL_silence 59 = .ok (.iastore, 1) := by decide +kernel
theorem dL_silence_60 : decode cL_silence 60 = .ok (.dup, 1) := by decide +kernel
theorem dL_silence_61 : decode cL_silence 61 = .ok (.iconst 2, 1) := by decide +kernel
theorem dL_silence_62 : decode cL_silence 62 = .ok (.iload_n 1, 1) := by decide +kernel
theorem dL_silence_63 : decode cL_silence 63 = .ok (.iastore, 1) := by decide +kernel
theorem dL_silence_64 : decode cL_silence 64 = .ok (.dup, 1) := by decide +kernel
theorem dL_silence_65 : decode cL_silence 65 = .ok (.iconst 3, 1) := by decide +kernel
theorem dL_silence_66 : decode cL_silence 66 = .ok (.iconst 0, 1) := by decide +kernel
theorem dL_silence_67 : decode cL_silence 67 = .ok (.iastore, 1) := by decide +kernel
theorem dL_silence_68 : decode cL_silence 68 = .ok (.invokestatic 164, 3) := by decide +kernel
theorem dL_silence_71 : decode cL_silence 71 = .ok (.iload_n 1, 1) := by decide +kernel
theorem dL_silence_72 : decode cL_silence 72 = .ok (.if_icmp .ne 20, 3) := by decide +kernel
theorem dL_silence_75 : decode cL_silence 75 = .ok (.aload_n 0, 1) := by decide +kernel
theorem dL_silence_76 : decode cL_silence 76 = .ok (.bipush 116, 2) := by decide +kernel
theorem dL_silence_78 : decode cL_silence 78 = .ok (.iconst 1, 1) := by decide +kernel
theorem dL_silence_79 : decode cL_silence 79 = .ok (.newarray .int, 2) := by decide +kernel
theorem dL_silence_81 : decode cL_silence 81 = .ok (.dup, 1) := by decide +kernel
theorem dL_silence_82 : decode cL_silence 82 = .ok (.iconst 0, 1) := by decide +kernel
theorem dL_silence_83 : decode cL_silence 83 = .ok (.iload_n 1, 1) := by decide +kernel
theorem dL_silence_84 : decode cL_silence 84 = .ok (.iastore, 1) := by decide +kernel
theorem dL_silence_85 : decode cL_silence 85 = .ok (.invokestatic 164, 3) := by decide +kernel
theorem dL_silence_88 : decode cL_silence 88 = .ok (.iconst 1, 1) := by decide +kernel
theorem dL_silence_89 : decode cL_silence 89 = .ok (.if_icmp .eq 5, 3) := by decide +kernel
theorem dL_silence_92 : decode cL_silence 92 = .ok (.iconst 0, 1) := by decide +kernel
theorem dL_silence_93 : decode cL_silence 93 = .ok (.ireturn, 1) := by decide +kernel
theorem dL_silence_94 : decode cL_silence 94 = .ok (.iinc 1 1, 3) := by decide +kernel
theorem dL_silence_97 : decode cL_silence 97 = .ok (.goto (-65), 3) := by decide +kernel
theorem dL_silence_100 : decode cL_silence 100 = .ok (.aload_n 0, 1) := by decide +kernel
theorem dL_silence_101 : decode cL_silence 101 = .ok (.bipush 112, 2) := by decide +kernel
theorem dL_silence_103 : decode cL_silence 103 = .ok (.iconst 1, 1) := by decide +kernel
theorem dL_silence_104 : decode cL_silence 104 = .ok (.newarray .int, 2) := by decide +kernel
theorem dL_silence_106 : decode cL_silence 106 = .ok (.dup, 1) := by decide +kernel
theorem dL_silence_107 : decode cL_silence 107 = .ok (.iconst 0, 1) := by decide +kernel
theorem dL_silence_108 : decode cL_silence 108 = .ok (.iconst 1, 1) := by decide +kernel
theorem dL_silence_109 : decode cL_silence 109 = .ok (.iastore, 1) := by decide +kernel
theorem dL_silence_110 : decode cL_silence 110 = .ok (.invokestatic 164, 3) := by decide +kernel
theorem dL_silence_113 : decode cL_silence 113 = .ok (.iconst 1, 1) := by decide +kernel
theorem dL_silence_114 : decode cL_silence 114 = .ok (.if_icmp .eq 5, 3) := by decide +kernel
theorem dL_silence_117 : decode cL_silence 117 = .ok (.iconst 0, 1) := by decide +kernel
theorem dL_silence_118 : decode cL_silence 118 = .ok (.ireturn, 1) := by decide +kernel
theorem dL_silence_119 : decode cL_silence 119 = .ok (.iconst 0, 1) := by decide +kernel
theorem dL_silence_120 : decode cL_silence 120 = .ok (.istore_n 1, 1) := by decide +kernel
theorem dL_silence_121 : decode cL_silence 121 = .ok (.iload_n 1, 1) := by decide +kernel
theorem dL_silence_122 : decode cL_silence 122 = .ok (.iconst 4, 1) := by decide +kernel
theorem dL_silence_123 : decode cL_silence 123 = .ok (.if_icmp .ge 29, 3) := by decide +kernel
theorem dL_silence_126 : decode cL_silence 126 = .ok (.aload_n 0, 1) := by decide +kernel
theorem dL_silence_127 : decode cL_silence 127 = .ok (.bipush 101, 2) := by decide +kernel
theorem dL_silence_129 : decode cL_silence 129 = .ok (.iconst 1, 1) := by decide +kernel
theorem dL_silence_130 : decode cL_silence 130 = .ok (.newarray .int, 2) := by decide +kernel
theorem dL_silence_132 : decode cL_silence 132 = .ok (.dup, 1) := by decide +kernel
theorem dL_silence_133 : decode cL_silence 133 = .ok (.iconst 0, 1) := by decide +kernel
theorem dL_silence_134 : decode cL_silence 134 = .ok (.iload_n 1, 1) := by decide +kernel
theorem dL_silence_135 : decode cL_silence 135 = .ok (.iastore, 1) := by decide +kernel
theorem dL_silence_136 : decode cL_silence 136 = .ok (.invokestatic 164, 3) := by decide +kernel
theorem dL_silence_139 : decode cL_silence 139 = .ok (.bipush 114, 2) := by decide +kernel
theorem dL_silence_141 : decode cL_silence 141 = .ok (.if_icmp .eq 5, 3) := by decide +kernel
theorem dL_silence_144 : decode cL_silence 144 = .ok (.iconst 0, 1) := by decide +kernel
theorem dL_silence_145 : decode cL_silence 145 = .ok (.ireturn, 1) := by decide +kernel
theorem dL_silence_146 : decode cL_silence 146 = .ok (.iinc 1 1, 3) := by decide +kernel
theorem dL_silence_149 : decode cL_silence 149 = .ok (.goto (-28), 3) := by decide +kernel
theorem dL_silence_152 : decode cL_silence 152 = .ok (.aload_n 0, 1) := by decide +kernel
theorem dL_silence_153 : decode cL_silence 153 = .ok (.bipush 106, 2) := by decide +kernel
theorem dL_silence_155 : decode cL_silence 155 = .ok (.iconst 2, 1) := by decide +kernel
theorem dL_silence_156 : decode cL_silence 156 = .ok (.newarray .int, 2) := by decide +kernel
theorem dL_silence_158 : decode cL_silence 158 = .ok (.dup, 1) := by decide +kernel
theorem dL_silence_159 : decode cL_silence 159 = .ok (.iconst 0, 1) := by decide +kernel
theorem dL_silence_160 : decode cL_silence 160 = .ok (.iconst 1, 1) := by decide +kernel
theorem dL_silence_161 : decode cL_silence 161 = .ok (.iastore, 1) := by decide +kernel
theorem dL_silence_162 : decode cL_silence 162 = .ok (.dup, 1) := by decide +kernel
theorem dL_silence_163 : decode cL_silence 163 = .ok (.iconst 1, 1) := by decide +kernel
theorem dL_silence_164 : decode cL_silence 164 = .ok (.iconst 0, 1) := by decide +kernel
theorem dL_silence_165 : decode cL_silence 165 = .ok (.iastore, 1) := by decide +kernel
theorem dL_silence_166 : decode cL_silence 166 = .ok (.invokestatic 164, 3) := by decide +kernel
theorem dL_silence_169 : decode cL_silence 169 = .ok (.iconst 1, 1) := by decide +kernel
theorem dL_silence_170 : decode cL_silence 170 = .ok (.if_icmp .ne 444, 3) := by decide +kernel
theorem dL_silence_173 : decode cL_silence 173 = .ok (.aload_n 0, 1) := by decide +kernel
theorem dL_silence_174 : decode cL_silence 174 = .ok (.bipush 106, 2) := by decide +kernel
theorem dL_silence_176 : decode cL_silence 176 = .ok (.iconst 2, 1) := by decide +kernel
theorem dL_silence_177 : decode cL_silence 177 = .ok (.newarray .int, 2) := by decide +kernel
theorem dL_silence_179 : decode cL_silence 179 = .ok (.dup, 1) := by decide +kernel
theorem dL_silence_180 : decode cL_silence 180 = .ok (.iconst 0, 1) := by decide +kernel
theorem dL_silence_181 : decode cL_silence 181 = .ok (.iconst 0, 1) := by decide +kernel
theorem dL_silence_182 : decode cL_silence 182 = .ok (.iastore, 1) := by decide +kernel
theorem dL_silence_183 : decode cL_silence 183 = .ok (.dup, 1) := by decide +kernel
theorem dL_silence_184 : decode cL_silence 184 = .ok (.iconst 1, 1) := by decide +kernel
theorem dL_silence_185 : decode cL_silence 185 = .ok (.iconst 2, 1) := by decide +kernel
theorem dL_silence_186 : decode cL_silence 186 = .ok (.iastore, 1) := by decide +kernel
theorem dL_silence_187 : decode cL_silence 187 = .ok (.invokestatic 164, 3) := by decide +kernel
theorem dL_silence_190 : decode cL_silence 190 = .ok (.ldc 78, 2) := by decide +kernel
theorem dL_silence_192 : decode cL_silence 192 = .ok (.if_icmp .ne 422, 3) := by decide +kernel
theorem dL_silence_195 : decode cL_silence 195 = .ok (.aload_n 0, 1) := by decide +kernel
theorem dL_silence_196 : decode cL_silence 196 = .ok (.bipush 106, 2) := by decide +kernel
theorem dL_silence_198 : decode cL_silence 198 = .ok (.iconst 2, 1) := by decide +kernel
theorem dL_silence_199 : decode cL_silence 199 = .ok (.newarray .int, 2) := by decide +kernel
theorem dL_silence_201 : decode cL_silence 201 = .ok (.dup, 1) := by decide +kernel
theorem dL_silence_202 : decode cL_silence 202 = .ok (.iconst 0, 1) := by decide +kernel
theorem dL_silence_203 : decode cL_silence 203 = .ok (.iconst 2, 1) := by decide +kernel
theorem dL_silence_204 : decode cL_silence 204 = .ok (.iastore, 1) := by decide +kernel
theorem dL_silence_205 : decode cL_silence 205 = .ok (.dup, 1) := by decide +kernel
theorem dL_silence_206 : decode cL_silence 206 = .ok (.iconst 1, 1) := by decide +kernel
theorem dL_silence_207 : decode cL_silence 207 = .ok (.iconst 1, 1) := by decide +kernel
theorem dL_silence_208 : decode cL_silence 208 = .ok (.iastore, 1) := by decide +kernel
theorem dL_silence_209 : decode cL_silence 209 = .ok (.invokestatic 164, 3) := by decide +kernel
theorem dL_silence_212 : decode cL_silence 212 = .ok (.ldc 78, 2) := by decide +kernel
theorem dL_silence_214 : decode cL_silence 214 = .ok (.if_icmp .ne 400, 3) := by decide +kernel
theorem dL_silence_217 : decode cL_silence 217 = .ok (.aload_n 0, 1) := by decide +kernel
theorem dL_silence_218 : decode cL_silence 218 = .ok (.bipush 106, 2) := by decide +kernel
theorem dL_silence_220 : decode cL_silence 220 = .ok (.iconst 2, 1) := by decide +kernel
theorem dL_silence_221 : decode cL_silence 221 = .ok (.newarray .int, 2) := by decide +kernel
theorem dL_silence_223 : decode cL_silence 223 = .ok (.dup, 1) := by decide +kernel
theorem dL_silence_224 : decode cL_silence 224 = .ok (.iconst 0, 1) := by decide +kernel
theorem dL_silence_225 : decode cL_silence 225 = .ok (.iconst 3, 1) := by decide +kernel
theorem dL_silence_226 : decode cL_silence 226 = .ok (.iastore, 1) := by decide +kernel
theorem dL_silence_227 : decode cL_silence 227 = .ok (.dup, 1) := by decide +kernel
theorem dL_silence_228 : decode cL_silence 228 = .ok (.iconst 1, 1) := by decide +kernel
theorem dL_silence_229 : decode cL_silence 229 = .ok (.iconst 0, 1) := by decide +kernel
theorem dL_silence_230 : decode cL_silence 230 = .ok (.iastore, 1) := by decide +kernel
theorem dL_silence_231 : decode cL_silence 231 = .ok (.invokestatic 164, 3) := by decide +kernel
theorem dL_silence_234 : decode cL_silence 234 = .ok (.ldc 78, 2) := by decide +kernel
theorem dL_silence_236 : decode cL_silence 236 = .ok (.if_icmp .ne 378, 3) := by decide +kernel
theorem dL_silence_239 : decode cL_silence 239 = .ok (.aload_n 0, 1) := by decide +kernel
theorem dL_silence_240 : decode cL_silence 240 = .ok (.bipush 97, 2) := by decide +kernel
theorem dL_silence_242 : decode cL_silence 242 = .ok (.iconst 1, 1) := by decide +kernel
theorem dL_silence_243 : decode cL_silence 243 = .ok (.newarray .int, 2) := by decide +kernel
theorem dL_silence_245 : decode cL_silence 245 = .ok (.dup, 1) := by decide +kernel
theorem dL_silence_246 : decode cL_silence 246 = .ok (.iconst 0, 1) := by decide +kernel
theorem dL_silence_247 : decode cL_silence 247 = .ok (.iconst 1, 1) := by decide +kernel
theorem dL_silence_248 : decode cL_silence 248 = .ok (.iastore, 1) := by decide +kernel
theorem dL_silence_249 : decode cL_silence 249 = .ok (.invokestatic 164, 3) := by decide +kernel
theorem dL_silence_252 : decode cL_silence 252 = .ok (.ldc 78, 2) := by decide +kernel
theorem dL_silence_254 : decode cL_silence 254 = .ok (.if_icmp .ne 360, 3) := by decide +kernel
theorem dL_silence_257 : decode cL_silence 257 = .ok (.aload_n 0, 1) := by decide +kernel
theorem dL_silence_258 : decode cL_silence 258 = .ok (.bipush 97, 2) := by decide +kernel
theorem dL_silence_260 : decode cL_silence 260 = .ok (.iconst 1, 1) := by decide +kernel
theorem dL_silence_261 : decode cL_silence 261 = .ok (.newarray .int, 2) := by decide +kernel
theorem dL_silence_263 : decode cL_silence 263 = .ok (.dup, 1) := by decide +kernel
theorem dL_silence_264 : decode cL_silence 264 = .ok (.iconst 0, 1) := by decide +kernel
theorem dL_silence_265 : decode cL_silence 265 = .ok (.iconst 0, 1) := by decide +kernel
theorem dL_silence_266 : decode cL_silence 266 = .ok (.iastore, 1) := by decide +kernel
theorem dL_silence_267 : decode cL_silence 267 = .ok (.invokestatic 164, 3) := by decide +kernel
theorem dL_silence_270 : decode cL_silence 270 = .ok (.iconst 2, 1) := by decide +kernel
theorem dL_silence_271 : decode cL_silence 271 = .ok (.if_icmp .ne 343, 3) := by decide +kernel
theorem dL_silence_274 : decode cL_silence 274 = .ok (.aload_n 0, 1) := by decide +kernel
theorem dL_silence_275 : decode cL_silence 275 = .ok (.bipush 115, 2) := by decide +kernel
theorem dL_silence_277 : decode cL_silence 277 = .ok (.iconst 1, 1) := by decide +kernel
theorem dL_silence_278 : decode cL_silence 278 = .ok (.newarray .int, 2) := by decide +kernel
theorem dL_silence_280 : decode cL_silence 280 = .ok (.dup, 1) := by decide +kernel
theorem dL_silence_281 : decode cL_silence 281 = .ok (.iconst 0, 1) := by decide +kernel
theorem dL_silence_282 : decode cL_silence 282 = .ok (.iconst 1, 1) := by decide +kernel
theorem dL_silence_283 : decode cL_silence 283 = .ok (.iastore, 1) := by decide +kernel
theorem dL_silence_284 : decode cL_silence 284 = .ok (.invokestatic 164, 3) := by decide +kernel
theorem dL_silence_287 : decode cL_silence 287 = .ok (.bipush 97, 2) := by decide +kernel
theorem dL_silence_289 : decode cL_silence 289 = .ok (.if_icmp .ne 325, 3) := by decide +kernel
theorem dL_silence_292 : decode cL_silence 292 = .ok (.aload_n 0, 1) := by decide +kernel
theorem dL_silence_293 : decode cL_silence 293 = .ok (.bipush 112, 2) := by decide +kernel
theorem dL_silence_295 : decode cL_silence 295 = .ok (.iconst 1, 1) := by decide +kernel
theorem dL_silence_296 : decode cL_silence 296 = .ok (.newarray .int, 2) := by decide +kernel
theorem dL_silence_298 : decode cL_silence 298 = .ok (.dup, 1) := by decide +kernel
theorem dL_silence_299 : decode cL_silence 299 = .ok (.iconst 0, 1) := by decide +kernel
theorem dL_silence_300 : decode cL_silence 300 = .ok (.iconst 2, 1) := by decide +kernel
theorem dL_silence_301 : decode cL_silence 301 = .ok (.iastore, 1) := by decide +kernel
theorem dL_silence_302 : decode cL_silence 302 = .ok (.invokestatic 164, 3) := by decide +kernel
theorem dL_silence_305 : decode cL_silence 305 = .ok (.iconst 3, 1) := by decide +kernel
theorem dL_silence_306 : decode cL_silence 306 = .ok (.if_icmp .ne 308, 3) := by decide +kernel
theorem dL_silence_309 : decode cL_silence 309 = .ok (.aload_n 0, 1) := by decide +kernel
theorem dL_silence_310 : decode cL_silence 310 = .ok (.bipush 106, 2) := by decide +kernel
theorem dL_silence_312 : decode cL_silence 312 = .ok (.iconst 2, 1) := by decide +kernel
theorem dL_silence_313 : decode cL_silence 313 = .ok (.newarray .int, 2) := by decide +kernel
theorem dL_silence_315 : decode cL_silence 315 = .ok (.dup, 1) := by decide +kernel
theorem dL_silence_316 : decode cL_silence 316 = .ok (.iconst 0, 1) := by decide +kernel
theorem dL_silence_317 : decode cL_silence 317 = .ok (.iconst 2, 1) := by decide +kernel
theorem dL_silence_318 : decode cL_silence 318 = .ok (.iastore, 1) := by decide +kernel
theorem dL_silence_319 : decode cL_silence 319 = .ok (.dup, 1) := by decide +kernel
theorem dL_silence_320 : decode cL_silence 320 = .ok (.iconst 1, 1) := by decide +kernel
theorem dL_silence_321 : decode cL_silence 321 = .ok (.iconst 0, 1) := by decide +kernel
theorem dL_silence_322 : decode cL_silence 322 = .ok (.iastore, 1) := by decide +kernel
theorem dL_silence_323 : decode cL_silence 323 = .ok (.invokestatic 164, 3) := by decide +kernel
theorem dL_silence_326 : decode cL_silence 326 = .ok (.iconst 2, 1) := by decide +kernel
theorem dL_silence_327 : decode cL_silence 327 = .ok (.if_icmp .ne 287, 3) := by decide +kernel
theorem dL_silence_330 : decode cL_silence 330 = .ok (.aload_n 0, 1) := by decide +kernel
theorem dL_silence_331 : decode cL_silence 331 = .ok (.bipush 83, 2) := by decide +kernel
theorem dL_silence_333 : decode cL_silence 333 = .ok (.iconst 1, 1) := by decide +kernel
theorem dL_silence_334 : decode cL_silence 334 = .ok (.newarray .int, 2) := by decide +kernel
theorem dL_silence_336 : decode cL_silence 336 = .ok (.dup, 1) := by decide +kernel
theorem dL_silence_337 : decode cL_silence 337 = .ok (.iconst 0, 1) := by decide +kernel
theorem dL_silence_338 : decode cL_silence 338 = .ok (.iconst 0, 1) := by decide +kernel
theorem dL_silence_339 : decode cL_silence 339 = .ok (.iastore, 1) := by decide +kernel
theorem dL_silence_340 : decode cL_silence 340 = .ok (.invokestatic 164, 3) := by decide +kernel
theorem dL_silence_343 : decode cL_silence 343 = .ok (.ldc 78, 2) := by decide +kernel
theorem dL_silence_345 : decode cL_silence 345 = .ok (.if_icmp .ne 269, 3) := by decide +kernel
theorem dL_silence_348 : decode cL_silence 348 = .ok (.aload_n 0, 1) := by decide +kernel
theorem dL_silence_349 : decode cL_silence 349 = .ok (.bipush 114, 2) := by decide +kernel
theorem dL_silence_351 : decode cL_silence 351 = .ok (.iconst 1, 1) := by decide +kernel
theorem dL_silence_352 : decode cL_silence 352 = .ok (.newarray .int, 2) := by decide +kernel
theorem dL_silence_354 : decode cL_silence 354 = .ok (.dup, 1) := by decide +kernel
theorem dL_silence_355 : decode cL_silence 355 = .ok (.iconst 0, 1) := by decide +kernel
theorem dL_silence_356 : decode cL_silence 356 = .ok (.iconst 0, 1) := by decide +kernel
theorem dL_silence_357 : decode cL_silence 357 = .ok (.iastore, 1) := by decide +kernel
theorem dL_silence_358 : decode cL_silence 358 = .ok (.invokestatic 164, 3) := by decide +kernel
theorem dL_silence_361 : decode cL_silence 361 = .ok (.iconst 1, 1) := by decide +kernel
theorem dL_silence_362 : decode cL_silence 362 = .ok (.if_icmp .ne 252, 3) := by decide +kernel
theorem dL_silence_365 : decode cL_silence 365 = .ok (.aload_n 0, 1) := by decide +kernel
theorem dL_silence_366 : decode cL_silence 366 = .ok (.bipush 114, 2) := by decide +kernel
theorem dL_silence_368 : decode cL_silence 368 = .ok (.iconst 1, 1) := by decide +kernel
theorem dL_silence_369 : decode cL_silence 369 = .ok (.newarray .int, 2) := by decide +kernel
theorem dL_silence_371 : decode cL_silence 371 = .ok (.dup, 1) := by decide +kernel
theorem dL_silence_372 : decode cL_silence 372 = .ok (.iconst 0, 1) := by decide +kernel
theorem dL_silence_373 : decode cL_silence 373 = .ok (.iconst 0, 1) := by decide +kernel
theorem dL_silence_374 : decode cL_silence 374 = .ok (.iastore, 1) := by decide +kernel
theorem dL_silence_375 : decode cL_silence 375 = .ok (.invokestatic 164, 3) := by decide +kernel
theorem dL_silence_378 : decode cL_silence 378 = .ok (.ldc 78, 2) := by decide +kernel
theorem dL_silence_380 : decode cL_silence 380 = .ok (.if_icmp .ne 234, 3) := by decide +kernel
theorem dL_silence_383 : decode cL_silence 383 = .ok (.aload_n 0, 1) := by decide +kernel
theorem dL_silence_384 : decode cL_silence 384 = .ok (.bipush 112, 2) := by decide +kernel
theorem dL_silence_386 : decode cL_silence 386 = .ok (.iconst 1, 1) := by decide +kernel
theorem dL_silence_387 : decode cL_silence 387 = .ok (.newarray .int, 2) := by decide +kernel
theorem dL_silence_389 : decode cL_silence 389 = .ok (.dup, 1) := by decide +kernel
theorem dL_silence_390 : decode cL_silence 390 = .ok (.iconst 0, 1) := by decide +kernel
theorem dL_silence_391 : decode cL_silence 391 = .ok (.bipush 8, 2) := by decide +kernel
theorem dL_silence_393 : decode cL_silence 393 = .ok (.iastore, 1) := by decide +kernel
theorem dL_silence_394 : decode cL_silence 394 = .ok (.invokestatic 164, 3) := by decide +kernel
theorem dL_silence_397 : decode cL_silence 397 = .ok (.bipush 11, 2) := by decide +kernel
theorem dL_silence_399 : decode cL_silence 399 = .ok (.if_icmp .ne 215, 3) := by decide +kernel
theorem dL_silence_402 : decode cL_silence 402 = .ok (.aload_n 0, 1) := by decide +kernel
theorem dL_silence_403 : decode cL_silence 403 = .ok (.bipush 114, 2) := by decide +kernel
theorem dL_silence_405 : decode cL_silence 405 = .ok (.iconst 1, 1) := by decide +kernel
theorem dL_silence_406 : decode cL_silence 406 = .ok (.newarray .int, 2) := by decide +kernel
theorem dL_silence_408 : decode cL_silence 408 = .ok (.dup, 1) := by decide +kernel
theorem dL_silence_409 : decode cL_silence 409 = .ok (.iconst 0, 1) := by decide +kernel
theorem dL_silence_410 : decode cL_silence 410 = .ok (.iconst 0, 1) := by decide +kernel
theorem dL_silence_411 : decode cL_silence 411 = .ok (.iastore, 1) := by decide +kernel
theorem dL_silence_412 : decode cL_silence 412 = .ok (.invokestatic 164, 3) := by decide +kernel
theorem dL_silence_415 : decode cL_silence 415 = .ok (.iconst 2, 1) := by decide +kernel
theorem dL_silence_416 : decode cL_silence 416 = .ok (.if_icmp .ne 198, 3) := by decide +kernel
theorem dL_silence_419 : decode cL_silence 419 = .ok (.aload_n 0, 1) := by decide +kernel
theorem dL_silence_420 : decode cL_silence 420 = .ok (.bipush 112, 2) := by decide +kernel
theorem dL_silence_422 : decode cL_silence 422 = .ok (.iconst 1, 1) := by decide +kernel
theorem dL_silence_423 : decode cL_silence 423 = .ok (.newarray .int, 2) := by decide +kernel
theorem dL_silence_425 : decode cL_silence 425 = .ok (.dup, 1) := by decide +kernel
theorem dL_silence_426 : decode cL_silence 426 = .ok (.iconst 0, 1) := by decide +kernel
theorem dL_silence_427 : decode cL_silence 427 = .ok (.bipush 8, 2) := by decide +kernel
theorem dL_silence_429 : decode cL_silence 429 = .ok (.iastore, 1) := by decide +kernel
theorem dL_silence_430 : decode cL_silence 430 = .ok (.invokestatic 164, 3) := by decide +kernel
theorem dL_silence_433 : decode cL_silence 433 = .ok (.bipush 19, 2) := by decide +kernel
theorem dL_silence_435 : decode cL_silence 435 = .ok (.if_icmp .ne 179, 3) := by decide +kernel
theorem dL_silence_438 : decode cL_silence 438 = .ok (.aload_n 0, 1) := by decide +kernel
theorem dL_silence_439 : decode cL_silence 439 = .ok (.bipush 114, 2) := by decide +kernel
theorem dL_silence_441 : decode cL_silence 441 = .ok (.iconst 1, 1) := by decide +kernel
theorem dL_silence_442 : decode cL_silence 442 = .ok (.newarray .int, 2) := by decide +kernel
theorem dL_silence_444 : decode cL_silence 444 = .ok (.dup, 1) := by decide +kernel
theorem dL_silence_445 : decode cL_silence 445 = .ok (.iconst 0, 1) := by decide +kernel
theorem dL_silence_446 : decode cL_silence 446 = .ok (.iconst 0, 1) := by decide +kernel
theorem dL_silence_447 : decode cL_silence 447 = .ok (.iastore, 1) := by decide +kernel
theorem dL_silence_448 : decode cL_silence 448 = .ok (.invokestatic 164, 3) := by decide +kernel
theorem dL_silence_451 : decode cL_silence 451 = .ok (.iconst 3, 1) := by decide +kernel
theorem dL_silence_452 : decode cL_silence 452 = .ok (.if_icmp .ne 162, 3) := by decide +kernel
theorem dL_silence_455 : decode cL_silence 455 = .ok (.aload_n 0, 1) := by decide +kernel
theorem dL_silence_456 : decode cL_silence 456 = .ok (.bipush 112, 2) := by decide +kernel
theorem dL_silence_458 : decode cL_silence 458 = .ok (.iconst 1, 1) := by decide +kernel
theorem dL_silence_459 : decode cL_silence 459 = .ok (.newarray .int, 2) := by decide +kernel
theorem dL_silence_461 : decode cL_silence 461 = .ok (.dup, 1) := by decide +kernel
theorem dL_silence_462 : decode cL_silence 462 = .ok (.iconst 0, 1) := by decide +kernel
theorem dL_silence_463 : decode cL_silence 463 = .ok (.bipush 7, 2) := by decide +kernel
theorem dL_silence_465 : decode cL_silence 465 = .ok (.iastore, 1) := by decide +kernel
theorem dL_silence_466 : decode cL_silence 466 = .ok (.invokestatic 164, 3) := by decide +kernel
theorem dL_silence_469 : decode cL_silence 469 = .ok (.bipush 26, 2) := by decide +kernel
theorem dL_silence_471 : decode cL_silence 471 = .ok (.if_icmp .ne 143, 3) := by decide +kernel
theorem dL_silence_474 : decode cL_silence 474 = .ok (.aload_n 0, 1) := by decide +kernel
theorem dL_silence_475 : decode cL_silence 475 = .ok (.bipush 83, 2) := by decide +kernel
theorem dL_silence_477 : decode cL_silence 477 = .ok (.iconst 1, 1) := by decide +kernel
theorem dL_silence_478 : decode cL_silence 478 = .ok (.newarray .int, 2) := by decide +kernel
theorem dL_silence_480 : decode cL_silence 480 = .ok (.dup, 1) := by decide +kernel
theorem dL_silence_481 : decode cL_silence 481 = .ok (.iconst 0, 1) := by decide +kernel
theorem dL_silence_482 : decode cL_silence 482 = .ok (.iconst 0, 1) := by decide +kernel
theorem dL_silence_483 : decode cL_silence 483 = .ok (.iastore, 1) := by decide +kernel
theorem dL_silence_484 : decode cL_silence 484 = .ok (.invokestatic 164, 3) := by decide +kernel
theorem dL_silence_487 : decode cL_silence 487 = .ok (.ldc 78, 2) := by decide +kernel
theorem dL_silence_489 : decode cL_silence 489 = .ok (.if_icmp .ne 125, 3) := by decide +kernel
theorem dL_silence_492 : decode cL_silence 492 = .ok (.aload_n 0, 1) := by decide +kernel
theorem dL_silence_493 : decode cL_silence 493 = .ok (.bipush 112, 2) := by decide +kernel
theorem dL_silence_495 : decode cL_silence 495 = .ok (.iconst 1, 1) := by decide +kernel
theorem dL_silence_496 : decode cL_silence 496 = .ok (.newarray .int, 2) := by decide +kernel
theorem dL_silence_498 : decode cL_silence 498 = .ok (.dup, 1) := by decide +kernel
theorem dL_silence_499 : decode cL_silence 499 = .ok (.iconst 0, 1) := by decide +kernel
theorem dL_silence_500 : decode cL_silence 500 = .ok (.iconst 1, 1) := by decide +kernel
theorem dL_silence_501 : decode cL_silence 501 = .ok (.iastore, 1) := by decide +kernel
theorem dL_silence_502 : decode cL_silence 502 = .ok (.invokestatic 164, 3) := by decide +kernel
theorem dL_silence_505 : decode cL_silence 505 = .ok (.bipush 27, 2) := by decide +kernel
theorem dL_silence_507 : decode cL_silence 507 = .ok (.if_icmp .ne 107, 3) := by decide +kernel
theorem dL_silence_510 : decode cL_silence 510 = .ok (.aload_n 0, 1) := by decide +kernel
theorem dL_silence_511 : decode cL_silence 511 = .ok (.bipush 114, 2) := by decide +kernel
theorem dL_silence_513 : decode cL_silence 513 = .ok (.iconst 1, 1) := by decide +kernel
theorem dL_silence_514 : decode cL_silence 514 = .ok (.newarray .int, 2) := by decide +kernel
theorem dL_silence_516 : decode cL_silence 516 = .ok (.dup, 1) := by decide +kernel
theorem dL_silence_517 : decode cL_silence 517 = .ok (.iconst 0, 1) := by decide +kernel
theorem dL_silence_518 : decode cL_silence 518 = .ok (.iconst 0, 1) := by decide +kernel
theorem dL_silence_519 : decode cL_silence 519 = .ok (.iastore, 1) := by decide +kernel
theorem dL_silence_520 : decode cL_silence 520 = .ok (.invokestatic 164, 3) := by decide +kernel
theorem dL_silence_523 : decode cL_silence 523 = .ok (.ldc 78, 2) := by decide +kernel
theorem dL_silence_525 : decode cL_silence 525 = .ok (.if_icmp .ne 89, 3) := by decide +kernel
theorem dL_silence_528 : decode cL_silence 528 = .ok (.aload_n 0, 1) := by decide +kernel
theorem dL_silence_529 : decode cL_silence 529 = .ok (.bipush 83, 2) := by decide +kernel
theorem dL_silence_531 : decode cL_silence 531 = .ok (.iconst 1, 1) := by decide +kernel
theorem dL_silence_532 : decode cL_silence 532 = .ok (.newarray .int, 2) := by decide +kernel
theorem dL_silence_534 : decode cL_silence 534 = .ok (.dup, 1) := by decide +kernel
theorem dL_silence_535 : decode cL_silence 535 = .ok (.iconst 0, 1) := by decide +kernel
theorem dL_silence_536 : decode cL_silence 536 = .ok (.iconst 0, 1) := by decide +kernel
theorem dL_silence_537 : decode cL_silence 537 = .ok (.iastore, 1) := by decide +kernel
theorem dL_silence_538 : decode cL_silence 538 = .ok (.invokestatic 164, 3) := by decide +kernel
theorem dL_silence_541 : decode cL_silence 541 = .ok (.iconst 3, 1) := by decide +kernel
theorem dL_silence_542 : decode cL_silence 542 = .ok (.if_icmp .ne 72, 3) := by decide +kernel
theorem dL_silence_545 : decode cL_silence 545 = .ok (.aload_n 0, 1) := by decide +kernel
theorem dL_silence_546 : decode cL_silence 546 = .ok (.bipush 100, 2) := by decide +kernel
theorem dL_silence_548 : decode cL_silence 548 = .ok (.iconst 1, 1) := by decide +kernel
theorem dL_silence_549 : decode cL_silence 549 = .ok (.newarray .int, 2) := by decide +kernel
theorem dL_silence_551 : decode cL_silence 551 = .ok (.dup, 1) := by decide +kernel
theorem dL_silence_552 : decode cL_silence 552 = .ok (.iconst 0, 1) := by decide +kernel
theorem dL_silence_553 : decode cL_silence 553 = .ok (.iconst 0, 1) := by decide +kernel
theorem dL_silence_554 : decode cL_silence 554 = .ok (.iastore, 1) := by decide +kernel
theorem dL_silence_555 : decode cL_silence 555 = .ok (.invokestatic 164, 3) := by decide +kernel
theorem dL_silence_558 : decode cL_silence 558 = .ok (.iconst 1, 1) := by decide +kernel
theorem dL_silence_559 : decode cL_silence 559 = .ok (.if_icmp .ne 55, 3) := by decide +kernel
theorem dL_silence_562 : decode cL_silence 562 = .ok (.aload_n 0, 1) := by decide +kernel
theorem dL_silence_563 : decode cL_silence 563 = .ok (.bipush 100, 2) := by decide +kernel
theorem dL_silence_565 : decode cL_silence 565 = .ok (.iconst 1, 1) := by decide +kernel
theorem dL_silence_566 : decode cL_silence 566 = .ok (.newarray .int, 2) := by decide +kernel
theorem dL_silence_568 : decode cL_silence 568 = .ok (.dup, 1) := by decide +kernel
theorem dL_silence_569 : decode cL_silence 569 = .ok (.iconst 0, 1) := by decide +kernel
theorem dL_silence_570 : decode cL_silence 570 = .ok (.iconst 1, 1) := by decide +kernel
theorem dL_silence_571 : decode cL_silence 571 = .ok (.iastore, 1) := by decide +kernel
theorem dL_silence_572 : decode cL_silence 572 = .ok (.invokestatic 164, 3) := by decide +kernel
theorem dL_silence_575 : decode cL_silence 575 = .ok (.iconst 1, 1) := by decide +kernel
theorem dL_silence_576 : decode cL_silence 576 = .ok (.if_icmp .ne 38, 3) := by decide +kernel
theorem dL_silence_579 : decode cL_silence 579 = .ok (.aload_n 0, 1) := by decide +kernel
theorem dL_silence_580 : decode cL_silence 580 = .ok (.bipush 100, 2) := by decide +kernel
theorem dL_silence_582 : decode cL_silence 582 = .ok (.iconst 1, 1) := by decide +kernel
theorem dL_silence_583 : decode cL_silence 583 = .ok (.newarray .int, 2) := by decide +kernel
theorem dL_silence_585 : decode cL_silence 585 = .ok (.dup, 1) := by decide +kernel
theorem dL_silence_586 : decode cL_silence 586 = .ok (.iconst 0, 1) := by decide +kernel
theorem dL_silence_587 : decode cL_silence 587 = .ok (.iconst 2, 1) := by decide +kernel
theorem dL_silence_588 : decode cL_silence 588 = .ok (.iastore, 1) := by decide +kernel
theorem dL_silence_589 : decode cL_silence 589 = .ok (.invokestatic 164, 3) := by decide +kernel
theorem dL_silence_592 : decode cL_silence 592 = .ok (.iconst 3, 1) := by decide +kernel
theorem dL_silence_593 : decode cL_silence 593 = .ok (.if_icmp .ne 21, 3) := by decide +kernel
theorem dL_silence_596 : decode cL_silence 596 = .ok (.aload_n 0, 1) := by decide +kernel
theorem dL_silence_597 : decode cL_silence 597 = .ok (.bipush 100, 2) := by decide +kernel
theorem dL_silence_599 : decode cL_silence 599 = .ok (.iconst 1, 1) := by decide +kernel
theorem dL_silence_600 : decode cL_silence 600 = .ok (.newarray .int, 2) := by decide +kernel
theorem dL_silence_602 : decode cL_silence 602 = .ok (.dup, 1) := by decide +kernel
theorem dL_silence_603 : decode cL_silence 603 = .ok (.iconst 0, 1) := by decide +kernel
theorem dL_silence_604 : decode cL_silence 604 = .ok (.iconst 3, 1) := by decide +kernel
theorem dL_silence_605 : decode cL_silence 605 = .ok (.iastore, 1) := by decide +kernel
theorem dL_silence_606 : decode cL_silence 606 = .ok (.invokestatic 164, 3) := by decide +kernel
theorem dL_silence_609 : decode cL_silence 609 = .ok (.bipush 27, 2) := by decide +kernel
theorem dL_silence_611 : decode cL_silence 611 = .ok (.if_icmp .eq 5, 3) := by decide +kernel
theorem dL_silence_614 : decode cL_silence 614 = .ok (.iconst 0, 1) := by decide +kernel
theorem dL_silence_615 : decode cL_silence 615 = .ok (.ireturn, 1) := by decide +kernel
theorem dL_silence_616 : decode cL_silence 616 = .ok (.aload_n 0, 1) := by decide +kernel
theorem dL_silence_617 : decode cL_silence 617 = .ok (.bipush 102, 2) := by decide +kernel
theorem dL_silence_619 : decode cL_silence 619 = .ok (.iconst 2, 1) := by decide +kernel
theorem dL_silence_620 : decode cL_silence 620 = .ok (.newarray .int, 2) := by decide +kernel
theorem dL_silence_622 : decode cL_silence 622 = .ok (.dup, 1) := by decide +kernel
theorem dL_silence_623 : decode cL_silence 623 = .ok (.iconst 0, 1) := by decide +kernel
theorem dL_silence_624 : decode cL_silence 624 = .ok (.iconst 0, 1) := by decide +kernel
theorem dL_silence_625 : decode cL_silence 625 = .ok (.iastore, 1) := by decide +kernel
theorem dL_silence_626 : decode cL_silence 626 = .ok (.dup, 1) := by decide +kernel
theorem dL_silence_627 : decode cL_silence 627 = .ok (.iconst 1, 1) := by decide +kernel
theorem dL_silence_628 : decode cL_silence 628 = .ok (.iconst 0, 1) := by decide +kernel
theorem dL_silence_629 : decode cL_silence 629 = .ok (.iastore, 1) := by decide +kernel
theorem dL_silence_630 : decode cL_silence 630 = .ok (.invokestatic 164, 3) := by decide +kernel
theorem dL_silence_633 : decode cL_silence 633 = .ok (.iconst 1, 1) := by decide +kernel
theorem dL_silence_634 : decode cL_silence 634 = .ok (.if_icmp .ne 325, 3) := by decide +kernel
theorem dL_silence_637 : decode cL_silence 637 = .ok (.aload_n 0, 1) := by decide +kernel
theorem dL_silence_638 : decode cL_silence 638 = .ok (.bipush 104, 2) := by decide +kernel
theorem dL_silence_640 : decode cL_silence 640 = .ok (.iconst 1, 1) := by decide +kernel
theorem dL_silence_641 : decode cL_silence 641 = .ok (.newarray .int, 2) := by decide +kernel
theorem dL_silence_643 : decode cL_silence 643 = .ok (.dup, 1) := by decide +kernel
theorem dL_silence_644 : decode cL_silence 644 = .ok (.iconst 0, 1) := by decide +kernel
theorem dL_silence_645 : decode cL_silence 645 = .ok (.iconst 2, 1) := by decide +kernel
theorem dL_silence_646 : decode cL_silence 646 = .ok (.iastore, 1) := by decide +kernel
theorem dL_silence_647 : decode cL_silence 647 = .ok (.invokestatic 164, 3) := by decide +kernel
theorem dL_silence_650 : decode cL_silence 650 = .ok (.iconst 1, 1) := by decide +kernel
theorem dL_silence_651 : decode cL_silence 651 = .ok (.if_icmp .ne 308, 3) := by decide +kernel
theorem dL_silence_654 : decode cL_silence 654 = .ok (.aload_n 0, 1) := by decide +kernel
theorem dL_silence_655 : decode cL_silence 655 = .ok (.bipush 82, 2) := by decide +kernel
theorem dL_silence_657 : decode cL_silence 657 = .ok (.iconst 1, 1) := by decide +kernel
theorem dL_silence_658 : decode cL_silence 658 = .ok (.newarray .int, 2) := by decide +kernel
theorem dL_silence_660 : decode cL_silence 660 = .ok (.dup, 1) := by decide +kernel
theorem dL_silence_661 : decode cL_silence 661 = .ok (.iconst 0, 1) := by decide +kernel
theorem dL_silence_662 : decode cL_silence 662 = .ok (.iconst 1, 1) := by decide +kernel
theorem dL_silence_663 : decode cL_silence 663 = .ok (.iastore, 1) := by decide +kernel
theorem dL_silence_664 : decode cL_silence 664 = .ok (.invokestatic 164, 3) := by decide +kernel
theorem dL_silence_667 : decode cL_silence 667 = .ok (.iconst 1, 1) := by decide +kernel
theorem dL_silence_668 : decode cL_silence 668 = .ok (.if_icmp .ne 291, 3) := by decide +kernel
theorem dL_silence_671 : decode cL_silence 671 = .ok (.aload_n 0, 1) := by decide +kernel
theorem dL_silence_672 : decode cL_silence 672 = .ok (.bipush 113, 2) := by decide +kernel
theorem dL_silence_674 : decode cL_silence 674 = .ok (.iconst 1, 1) := by decide +kernel
theorem dL_silence_675 : decode cL_silence 675 = .ok (.newarray .int, 2) := by decide +kernel
theorem dL_silence_677 : decode cL_silence 677 = .ok (.dup, 1) := by decide +kernel
theorem dL_silence_678 : decode cL_silence 678 = .ok (.iconst 0, 1) := by decide +kernel
theorem dL_silence_679 : decode cL_silence 679 = .ok (.iconst 1, 1) := by decide +kernel
theorem dL_silence_680 : decode cL_silence 680 = .ok (.iastore, 1) := by decide +kernel
theorem dL_silence_681 : decode cL_silence 681 = .ok (.invokestatic 164, 3) := by decide +kernel
theorem dL_silence_684 : decode cL_silence 684 = .ok (.ldc 78, 2) := by decide +kernel
theorem dL_silence_686 : decode cL_silence 686 = .ok (.if_icmp .ne 273, 3) := by decide +kernel
theorem dL_silence_689 : decode cL_silence 689 = .ok (.aload_n 0, 1) := by decide +kernel
theorem dL_silence_690 : decode cL_silence 690 = .ok (.bipush 72, 2) := by decide +kernel
theorem dL_silence_692 : decode cL_silence 692 = .ok (.iconst 1, 1) := by decide +kernel
theorem dL_silence_693 : decode cL_silence 693 = .ok (.newarray .int, 2) := by decide +kernel
theorem dL_silence_695 : decode cL_silence 695 = .ok (.dup, 1) := by decide +kernel
theorem dL_silence_696 : decode cL_silence 696 = .ok (.iconst 0, 1) := by decide +kernel
theorem dL_silence_697 : decode cL_silence 697 = .ok (.iconst 2, 1) := by decide +kernel
theorem dL_silence_698 : decode cL_silence 698 = .ok (.iastore, 1) := by decide +kernel
theorem dL_silence_699 : decode cL_silence 699 = .ok (.invokestatic 164, 3) := by decide +kernel
theorem dL_silence_702 : decode cL_silence 702 = .ok (.ldc 78, 2) := by decide +kernel
theorem dL_silence_704 : decode cL_silence 704 = .ok (.if_icmp .ne 255, 3) := by decide +kernel
theorem dL_silence_707 : decode cL_silence 707 = .ok (.aload_n 0, 1) := by decide +kernel
theorem dL_silence_708 : decode cL_silence 708 = .ok (.bipush 87, 2) := by decide +kernel
theorem dL_silence_710 : decode cL_silence 710 = .ok (.iconst 1, 1) := by decide +kernel
theorem dL_silence_711 : decode cL_silence 711 = .ok (.newarray .int, 2) := by decide +kernel
theorem dL_silence_713 : decode cL_silence 713 = .ok (.dup, 1) := by decide +kernel
theorem dL_silence_714 : decode cL_silence 714 = .ok (.iconst 0, 1) := by decide +kernel
theorem dL_silence_715 : decode cL_silence 715 = .ok (.iconst 1, 1) := by decide +kernel
theorem dL_silence_716 : decode cL_silence 716 = .ok (.iastore, 1) := by decide +kernel
theorem dL_silence_717 : decode cL_silence 717 = .ok (.invokestatic 164, 3) := by decide +kernel
theorem dL_silence_720 : decode cL_silence 720 = .ok (.ldc 78, 2) := by decide +kernel
theorem dL_silence_722 : decode cL_silence 722 = .ok (.if_icmp .ne 237, 3) := by decide +kernel
theorem dL_silence_725 : decode cL_silence 725 = .ok (.aload_n 0, 1) := by decide +kernel
theorem dL_silence_726 : decode cL_silence 726 = .ok (.bipush 78, 2) := by decide +kernel
theorem dL_silence_728 : decode cL_silence 728 = .ok (.iconst 1, 1) := by decide +kernel
theorem dL_silence_729 : decode cL_silence 729 = .ok (.newarray .int, 2) := by decide +kernel
theorem dL_silence_731 : decode cL_silence 731 = .ok (.dup, 1) := by decide +kernel
theorem dL_silence_732 : decode cL_silence 732 = .ok (.iconst 0, 1) := by decide +kernel
theorem dL_silence_733 : decode cL_silence 733 = .ok (.bipush 100, 2) := by decide +kernel
theorem dL_silence_735 : decode cL_silence 735 = .ok (.iastore, 1) := by decide +kernel
theorem dL_silence_736 : decode cL_silence 736 = .ok (.invokestatic 164, 3) := by decide +kernel
theorem dL_silence_739 : decode cL_silence 739 = .ok (.iconst 3, 1) := by decide +kernel
theorem dL_silence_740 : decode cL_silence 740 = .ok (.if_icmp .ne 219, 3) := by decide +kernel
theorem dL_silence_743 : decode cL_silence 743 = .ok (.aload_n 0, 1) := by decide +kernel
theorem dL_silence_744 : decode cL_silence 744 = .ok (.bipush 87, 2) := by decide +kernel
theorem dL_silence_746 : decode cL_silence 746 = .ok (.iconst 1, 1) := by decide +kernel
theorem dL_silence_747 : decode cL_silence 747 = .ok (.newarray .int, 2) := by decide +kernel
theorem dL_silence_749 : decode cL_silence 749 = .ok (.dup, 1) := by decide +kernel
theorem dL_silence_750 : decode cL_silence 750 = .ok (.iconst 0, 1) := by decide +kernel
theorem dL_silence_751 : decode cL_silence 751 = .ok (.iconst 0, 1) := by decide +kernel
theorem dL_silence_752 : decode cL_silence 752 = .ok (.iastore, 1) := by decide +kernel
theorem dL_silence_753 : decode cL_silence 753 = .ok (.invokestatic 164, 3) := by decide +kernel
theorem dL_silence_756 : decode cL_silence 756 = .ok (.iconst 2, 1) := by decide +kernel
theorem dL_silence_757 : decode cL_silence 757 = .ok (.if_icmp .ne 202, 3) := by decide +kernel
theorem dL_silence_760 : decode cL_silence 760 = .ok (.aload_n 0, 1) := by decide +kernel
theorem dL_silence_761 : decode cL_silence 761 = .ok (.bipush 115, 2) := by decide +kernel
theorem dL_silence_763 : decode cL_silence 763 = .ok (.iconst 1, 1) := by decide +kernel
theorem dL_silence_764 : decode cL_silence 764 = .ok (.newarray .int, 2) := by decide +kernel
theorem dL_silence_766 : decode cL_silence 766 = .ok (.dup, 1) := by decide +kernel
theorem dL_silence_767 : decode cL_silence 767 = .ok (.iconst 0, 1) := by decide +kernel
theorem dL_silence_768 : decode cL_silence 768 = .ok (.iconst 1, 1) := by decide +kernel
theorem dL_silence_769 : decode cL_silence 769 = .ok (.iastore, 1) := by decide +kernel
theorem dL_silence_770 : decode cL_silence 770 = .ok (.invokestatic 164, 3) := by decide +kernel
theorem dL_silence_773 : decode cL_silence 773 = .ok (.bipush 114, 2) := by decide +kernel
theorem dL_silence_775 : decode cL_silence 775 = .ok (.if_icmp .ne 184, 3) := by decide +kernel
theorem dL_silence_778 : decode cL_silence 778 = .ok (.aload_n 0, 1) := by decide +kernel
theorem dL_silence_779 : decode cL_silence 779 = .ok (.bipush 104, 2) := by decide +kernel
theorem dL_silence_781 : decode cL_silence 781 = .ok (.iconst 1, 1) := by decide +kernel
theorem dL_silence_782 : decode cL_silence 782 = .ok (.newarray .int, 2) := by decide +kernel
theorem dL_silence_784 : decode cL_silence 784 = .ok (.dup, 1) := by decide +kernel
theorem dL_silence_785 : decode cL_silence 785 = .ok (.iconst 0, 1) := by decide +kernel
theorem dL_silence_786 : decode cL_silence 786 = .ok (.iconst 1, 1) := by decide +kernel
theorem dL_silence_787 : decode cL_silence 787 = .ok (.iastore, 1) := by decide +kernel
theorem dL_silence_788 : decode cL_silence 788 = .ok (.invokestatic 164, 3) := by decide +kernel
theorem dL_silence_791 : decode cL_silence 791 = .ok (.ldc 81, 2) := by decide +kernel
theorem dL_silence_793 : decode cL_silence 793 = .ok (.if_icmp .ne 166, 3) := by decide +kernel
theorem dL_silence_796 : decode cL_silence 796 = .ok (.aload_n 0, 1) := by decide +kernel
theorem dL_silence_797 : decode cL_silence 797 = .ok (.bipush 104, 2) := by decide +kernel
theorem dL_silence_799 : decode cL_silence 799 = .ok (.iconst 1, 1) := by decide +kernel
theorem dL_silence_800 : decode cL_silence 800 = .ok (.newarray .int, 2) := by decide +kernel
theorem dL_silence_802 : decode cL_silence 802 = .ok (.dup, 1) := by decide +kernel
theorem dL_silence_803 : decode cL_silence 803 = .ok (.iconst 0, 1) := by decide +kernel
theorem dL_silence_804 : decode cL_silence 804 = .ok (.iconst 0, 1) := by decide +kernel
theorem dL_silence_805 : decode cL_silence 805 = .ok (.iastore, 1) := by decide +kernel
theorem dL_silence_806 : decode cL_silence 806 = .ok (.invokestatic 164, 3) := by decide +kernel
theorem dL_silence_809 : decode cL_silence 809 = .ok (.iconst 1, 1) := by decide +kernel
theorem dL_silence_810 : decode cL_silence 810 = .ok (.if_icmp .ne 149, 3) := by decide +kernel
theorem dL_silence_813 : decode cL_silence 813 = .ok (.aload_n 0, 1) := by decide +kernel
theorem dL_silence_814 : decode cL_silence 814 = .ok (.bipush 108, 2) := by decide +kernel
theorem dL_silence_816 : decode cL_silence 816 = .ok (.iconst 1, 1) := by decide +kernel
theorem dL_silence_817 : decode cL_silence 817 = .ok (.newarray .int, 2) := by decide +kernel
theorem dL_silence_819 : decode cL_silence 819 = .ok (.dup, 1) := by decide +kernel
theorem dL_silence_820 : decode cL_silence 820 = .ok (.iconst 0, 1) := by decide +kernel
theorem dL_silence_821 : decode cL_silence 821 = .ok (.iconst 2, 1) := by decide +kernel
theorem dL_silence_822 : decode cL_silence 822 = .ok (.iastore, 1) := by decide +kernel
theorem dL_silence_823 : decode cL_silence 823 = .ok (.invokestatic 164, 3) := by decide +kernel
theorem dL_silence_826 : decode cL_silence 826 = .ok (.iconst 2, 1) := by decide +kernel
theorem dL_silence_827 : decode cL_silence 827 = .ok (.if_icmp .ne 132, 3) := by decide +kernel
theorem dL_silence_830 : decode cL_silence 830 = .ok (.aload_n 0, 1) := by decide +kernel
theorem dL_silence_831 : decode cL_silence 831 = .ok (.bipush 106, 2) := by decide +kernel
theorem dL_silence_833 : decode cL_silence 833 = .ok (.iconst 2, 1) := by decide +kernel
theorem dL_silence_834 : decode cL_silence 834 = .ok (.newarray .int, 2) := by decide +kernel
theorem dL_silence_836 : decode cL_silence 836 = .ok (.dup, 1) := by decide +kernel
theorem dL_silence_837 : decode cL_silence 837 = .ok (.iconst 0, 1) := by decide +kernel
theorem dL_silence_838 : decode cL_silence 838 = .ok (.iconst 1, 1) := by decide +kernel
theorem dL_silence_839 : decode cL_silence 839 = .ok (.iastore, 1) := by decide +kernel
theorem dL_silence_840 : decode cL_silence 840 = .ok (.dup, 1) := by decide +kernel
theorem dL_silence_841 : decode cL_silence 841 = .ok (.iconst 1, 1) := by decide +kernel
theorem dL_silence_842 : decode cL_silence 842 = .ok (.iconst 2, 1) := by decide +kernel
theorem dL_silence_843 : decode cL_silence 843 = .ok (.iastore, 1) := by decide +kernel
theorem dL_silence_844 : decode cL_silence 844 = .ok (.invokestatic 164, 3) := by decide +kernel
theorem dL_silence_847 : decode cL_silence 847 = .ok (.iconst 1, 1) := by decide +kernel
theorem dL_silence_848 : decode cL_silence 848 = .ok (.if_icmp .ne 111, 3) := by decide +kernel
theorem dL_silence_851 : decode cL_silence 851 = .ok (.aload_n 0, 1) := by decide +kernel
theorem dL_silence_852 : decode cL_silence 852 = .ok (.bipush 97, 2) := by decide +kernel
theorem dL_silence_854 : decode cL_silence 854 = .ok (.iconst 1, 1) := by decide +kernel
theorem dL_silence_855 : decode cL_silence 855 = .ok (.newarray .int, 2) := by decide +kernel
theorem dL_silence_857 : decode cL_silence 857 = .ok (.dup, 1) := by decide +kernel
theorem dL_silence_858 : decode cL_silence 858 = .ok (.iconst 0, 1) := by decide +kernel
theorem dL_silence_859 : decode cL_silence 859 = .ok (.iconst 2, 1) := by decide +kernel
theorem dL_silence_860 : decode cL_silence 860 = .ok (.iastore, 1) := by decide +kernel
theorem dL_silence_861 : decode cL_silence 861 = .ok (.invokestatic 164, 3) := by decide +kernel
theorem dL_silence_864 : decode cL_silence 864 = .ok (.bipush 28, 2) := by decide +kernel
theorem dL_silence_866 : decode cL_silence 866 = .ok (.if_icmp .ne 93, 3) := by decide +kernel
theorem dL_silence_869 : decode cL_silence 869 = .ok (.aload_n 0, 1) := by decide +kernel
theorem dL_silence_870 : decode cL_silence 870 = .ok (.bipush 65, 2) := by decide +kernel
theorem dL_silence_872 : decode cL_silence 872 = .ok (.iconst 1, 1) := by decide +kernel
theorem dL_silence_873 : decode cL_silence 873 = .ok (.newarray .int, 2) := by decide +kernel
theorem dL_silence_875 : decode cL_silence 875 = .ok (.dup, 1) := by decide +kernel
theorem dL_silence_876 : decode cL_silence 876 = .ok (.iconst 0, 1) := by decide +kernel
theorem dL_silence_877 : decode cL_silence 877 = .ok (.iconst 2, 1) := by decide +kernel
theorem dL_silence_878 : decode cL_silence 878 = .ok (.iastore, 1) := by decide +kernel
theorem dL_silence_879 : decode cL_silence 879 = .ok (.invokestatic 164, 3) := by decide +kernel
theorem dL_silence_882 : decode cL_silence 882 = .ok (.ifCond .ne 77, 3) := by decide +kernel
theorem dL_silence_885 : decode cL_silence 885 = .ok (.aload_n 0, 1) := by decide +kernel
theorem dL_silence_886 : decode cL_silence 886 = .ok (.bipush 102, 2) := by decide +kernel
theorem dL_silence_888 : decode cL_silence 888 = .ok (.iconst 2, 1) := by decide +kernel
theorem dL_silence_889 : decode cL_silence 889 = .ok (.newarray .int, 2) := by decide +kernel
theorem dL_silence_891 : decode cL_silence 891 = .ok (.dup, 1) := by decide +kernel
theorem dL_silence_892 : decode cL_silence 892 = .ok (.iconst 0, 1) := by decide +kernel
theorem dL_silence_893 : decode cL_silence 893 = .ok (.iconst 2, 1) := by decide +kernel
theorem dL_silence_894 : decode cL_silence 894 = .ok (.iastore, 1) := by decide +kernel
theorem dL_silence_895 : decode cL_silence 895 = .ok (.dup, 1) := by decide +kernel
theorem dL_silence_896 : decode cL_silence 896 = .ok (.iconst 1, 1) := by decide +kernel
theorem dL_silence_897 : decode cL_silence 897 = .ok (.iconst 3, 1) := by decide +kernel
theorem dL_silence_898 : decode cL_silence 898 = .ok (.iastore, 1) := by decide +kernel
theorem dL_silence_899 : decode cL_silence 899 = .ok (.invokestatic 164, 3) := by decide +kernel
theorem dL_silence_902 : decode cL_silence 902 = .ok (.iconst 1, 1) := by decide +kernel
theorem dL_silence_903 : decode cL_silence 903 = .ok (.if_icmp .ne 56, 3) := by decide +kernel
theorem dL_silence_906 : decode cL_silence 906 = .ok (.aload_n 0, 1) := by decide +kernel
theorem dL_silence_907 : decode cL_silence 907 = .ok (.bipush 112, 2) := by decide +kernel
theorem dL_silence_909 : decode cL_silence 909 = .ok (.iconst 1, 1) := by decide +kernel
theorem dL_silence_910 : decode cL_silence 910 = .ok (.newarray .int, 2) := by decide +kernel
theorem dL_silence_912 : decode cL_silence 912 = .ok (.dup, 1) := by decide +kernel
theorem dL_silence_913 : decode cL_silence 913 = .ok (.iconst 0, 1) := by decide +kernel
theorem dL_silence_914 : decode cL_silence 914 = .ok (.bipush 30, 2) := by decide +kernel
theorem dL_silence_916 : decode cL_silence 916 = .ok (.iastore, 1) := by decide +kernel
theorem dL_silence_917 : decode cL_silence 917 = .ok (.invokestatic 164, 3) := by decide +kernel
theorem dL_silence_920 : decode cL_silence 920 = .ok (.bipush 57, 2) := by decide +kernel
theorem dL_silence_922 : decode cL_silence 922 = .ok (.if_icmp .ne 37, 3) := by decide +kernel
theorem dL_silence_925 : decode cL_silence 925 = .ok (.aload_n 0, 1) := by decide +kernel
theorem dL_silence_926 : decode cL_silence 926 = .ok (.bipush 72, 2) := by decide +kernel
theorem dL_silence_928 : decode cL_silence 928 = .ok (.iconst 1, 1) := by decide +kernel
theorem dL_silence_929 : decode cL_silence 929 = .ok (.newarray .int, 2) := by decide +kernel
theorem dL_silence_931 : decode cL_silence 931 = .ok (.dup, 1) := by decide +kernel
theorem dL_silence_932 : decode cL_silence 932 = .ok (.iconst 0, 1) := by decide +kernel
theorem dL_silence_933 : decode cL_silence 933 = .ok (.iconst 2, 1) := by decide +kernel
theorem dL_silence_934 : decode cL_silence 934 = .ok (.iastore, 1) := by decide +kernel
theorem dL_silence_935 : decode cL_silence 935 = .ok (.invokestatic 164, 3) := by decide +kernel
theorem dL_silence_938 : decode cL_silence 938 = .ok (.ifCond .ne 21, 3) := by decide +kernel
theorem dL_silence_941 : decode cL_silence 941 = .ok (.aload_n 0, 1) := by decide +kernel
theorem dL_silence_942 : decode cL_silence 942 = .ok (.bipush 115, 2) := by decide +kernel
theorem dL_silence_944 : decode cL_silence 944 = .ok (.iconst 1, 1) := by decide +kernel
theorem dL_silence_945 : decode cL_silence 945 = .ok (.newarray .int, 2) := by decide +kernel
theorem dL_silence_947 : decode cL_silence 947 = .ok (.dup, 1) := by decide +kernel
theorem dL_silence_948 : decode cL_silence 948 = .ok (.iconst 0, 1) := by decide +kernel
theorem dL_silence_949 : decode cL_silence 949 = .ok (.iconst 1, 1) := by decide +kernel
theorem dL_silence_950 : decode cL_silence 950 = .ok (.iastore, 1) := by decide +kernel
theorem dL_silence_951 : decode cL_silence 951 = .ok (.invokestatic 164, 3) := by decide +kernel
theorem dL_silence_954 : decode cL_silence 954 = .ok (.bipush 104, 2) := by decide +kernel
theorem dL_silence_956 : decode cL_silence 956 = .ok (.if_icmp .eq 5, 3) := by decide +kernel
theorem dL_silence_959 : decode cL_silence 959 = .ok (.iconst 0, 1) := by decide +kernel
theorem dL_silence_960 : decode cL_silence 960 = .ok (.ireturn, 1) := by decide +kernel
theorem dL_silence_961 : decode cL_silence 961 = .ok (.aload_n 0, 1) := by decide +kernel
theorem dL_silence_962 : decode cL_silence 962 = .ok (.iconst 0, 1) := by decide +kernel
theorem dL_silence_963 : decode cL_silence 963 = .ok (.invokevirtual 132, 3) := by decide +kernel
theorem dL_silence_966 : decode cL_silence 966 = .ok (.ldc 193, 2) := by decide +kernel
theorem dL_silence_968 : decode cL_silence 968 = .ok (.fcmp .l, 1) := by decide +kernel
theorem dL_silence_969 : decode cL_silence 969 = .ok (.ifCond .ne 66, 3) := by decide +kernel
theorem dL_silence_972 : decode cL_silence 972 = .ok (.aload_n 0, 1) := by decide +kernel
theorem dL_silence_973 : decode cL_silence 973 = .ok (.bipush 100, 2) := by decide +kernel
theorem dL_silence_975 : decode cL_silence 975 = .ok (.iconst 1, 1) := by decide +kernel
theorem dL_silence_976 : decode cL_silence 976 = .ok (.newarray .int, 2) := by decide +kernel
theorem dL_silence_978 : decode cL_silence 978 = .ok (.dup, 1) := by decide +kernel
theorem dL_silence_979 : decode cL_silence 979 = .ok (.iconst 0, 1) := by decide +kernel
theorem dL_silence_980 : decode cL_silence 980 = .ok (.iconst 1, 1) := by decide +kernel
theorem dL_silence_981 : decode cL_silence 981 = .ok (.iastore, 1) := by decide +kernel
theorem dL_silence_982 : decode cL_silence 982 = .ok (.invokestatic 164, 3) := by decide +kernel
theorem dL_silence_985 : decode cL_silence 985 = .ok (.bipush 31, 2) := by decide +kernel
theorem dL_silence_987 : decode cL_silence 987 = .ok (.if_icmp .ne 48, 3) := by decide +kernel
theorem dL_silence_990 : decode cL_silence 990 = .ok (.aload_n 0, 1) := by decide +kernel
theorem dL_silence_991 : decode cL_silence 991 = .ok (.bipush 87, 2) := by decide +kernel
theorem dL_silence_993 : decode cL_silence 993 = .ok (.iconst 1, 1) := by decide +kernel
theorem dL_silence_994 : decode cL_silence 994 = .ok (.newarray .int, 2) := by decide +kernel
theorem dL_silence_996 : decode cL_silence 996 = .ok (.dup, 1) := by decide +kernel
theorem dL_silence_997 : decode cL_silence 997 = .ok (.iconst 0, 1) := by decide +kernel
theorem dL_silence_998 : decode cL_silence 998 = .ok (.iconst 3, 1) := by decide +kernel
theorem dL_silence_999 : decode cL_silence 999 = .ok (.iastore, 1) := by decide +kernel
theorem dL_silence_1000 : decode cL_silence 1000 = .ok (.invokestatic 164, 3) := by decide +kernel
theorem dL_silence_1003 : decode cL_silence 1003 = .ok (.ifCond .ne 32, 3) := by decide +kernel
theorem dL_silence_1006 : decode cL_silence 1006 = .ok (.aload_n 0, 1) := by decide +kernel
theorem dL_silence_1007 : decode cL_silence 1007 = .ok (.bipush 100, 2) := by decide +kernel
theorem dL_silence_1009 : decode cL_silence 1009 = .ok (.iconst 1, 1) := by decide +kernel
theorem dL_silence_1010 : decode cL_silence 1010 = .ok (.newarray .int, 2) := by decide +kernel
theorem dL_silence_1012 : decode cL_silence 1012 = .ok (.dup, 1) := by decide +kernel
theorem dL_silence_1013 : decode cL_silence 1013 = .ok (.iconst 0, 1) := by decide +kernel
theorem dL_silence_1014 : decode cL_silence 1014 = .ok (.iconst 3, 1) := by decide +kernel
theorem dL_silence_1015 : decode cL_silence 1015 = .ok (.iastore, 1) := by decide +kernel
theorem dL_silence_1016 : decode cL_silence 1016 = .ok (.invokestatic 164, 3) := by decide +kernel
theorem dL_silence_1019 : decode cL_silence 1019 = .ok (.bipush 57, 2) := by decide +kernel
theorem dL_silence_1021 : decode cL_silence 1021 = .ok (.if_icmp .ne 14, 3) := by decide +kernel
theorem dL_silence_1024 : decode cL_silence 1024 = .ok (.aload_n 0, 1) := by decide +kernel
theorem dL_silence_1025 : decode cL_silence 1025 = .ok (.invokevirtual 160, 3) := by decide +kernel
theorem dL_silence_1028 : decode cL_silence 1028 = .ok (.ifCond .eq 7, 3) := by decide +kernel
theorem dL_silence_1031 : decode cL_silence 1031 = .ok (.iconst 1, 1) := by decide +kernel
theorem dL_silence_1032 : decode cL_silence 1032 = .ok (.goto 4, 3) := by decide +kernel
theorem dL_silence_1035 : decode cL_silence 1035 = .ok (.iconst 0, 1) := by decide +kernel
theorem dL_silence_1036 : decode cL_silence 1036 = .ok (.ireturn, 1) := by decide +kernel
theorem dL_full_0 : decode cL_full 0 = .ok (.new 8, 3) := by decide +kernel
theorem dL_full_3 : decode cL_full 3 = .ok (.dup, 1) := by decide +kernel
theorem dL_full_4 : decode cL_full 4 = .ok (.invokespecial 142, 3) := by decide +kernel
theorem dL_full_7 : decode cL_full 7 = .ok (.astore_n 0, 1) := by decide +kernel
theorem dL_full_8 : decode cL_full 8 = .ok (.iconst 0, 1) := by decide +kernel
theorem dL_full_9 : decode cL_full 9 = .ok (.istore_n 1, 1) := by decide +kernel
theorem dL_full_10 : decode cL_full 10 = .ok (.iload_n 1, 1) := by decide +kernel
theorem dL_full_11 : decode cL_full 11 = .ok (.bipush 20, 2) := by decide +kernel
theorem dL_full_13 : decode cL_full 13 = .ok (.if_icmp .ge 72, 3) := by decide +kernel
theorem dL_full_16 : decode cL_full 16 = .ok (.iload_n 1, 1) := by decide +kernel
theorem dL_full_17 : decode cL_full 17 = .ok (.bipush 6, 2) := by decide +kernel
theorem dL_full_19 : decode cL_full 19 = .ok (.if_icmp .ge 27, 3) := by decide +kernel
theorem dL_full_22 : decode cL_full 22 = .ok (.aload_n 0, 1) := by decide +kernel
theorem dL_full_23 : decode cL_full 23 = .ok (.bipush 79, 2) := by decide +kernel
theorem dL_full_25 : decode cL_full 25 = .ok (.iconst 2, 1) := by decide +kernel
theorem dL_full_26 : decode cL_full 26 = .ok (.newarray .int, 2) := by decide +kernel
theorem dL_full_28 : decode cL_full 28 = .ok (.dup, 1) := by decide +kernel
theorem dL_full_29 : decode cL_full 29 = .ok (.iconst 0, 1) := by decide +kernel
theorem dL_full_30 : decode cL_full 30 = .ok (.bipush 60, 2) := by decide +kernel
theorem dL_full_32 : decode cL_full 32 = .ok (.iastore, 1) := by decide +kernel
theorem dL_full_33 : decode cL_full 33 = .ok (.dup, 1) := by decide +kernel
theorem dL_full_34 : decode cL_full 34 = .ok (.iconst 1, 1) := by decide +kernel
theorem dL_full_35 : decode cL_full 35 = .ok (.sipush 1023, 3) := by decide +kernel
theorem dL_full_38 : decode cL_full 38 = .ok (.iastore, 1) := by decide +kernel
theorem dL_full_39 : decode cL_full 39 = .ok (.invokestatic 164, 3) := by decide +kernel
theorem dL_full_42 : decode cL_full 42 = .ok (.iload_n 1, 1) := by decide +kernel
theorem dL_full_43 : decode cL_full 43 = .ok (.if_icmp .ne 34, 3) := by decide +kernel
theorem dL_full_46 : decode cL_full 46 = .ok (.aload_n 0, 1) := by decide +kernel
theorem dL_full_47 : decode cL_full 47 = .ok (.bipush 99, 2) := by decide +kernel
theorem dL_full_49 : decode cL_full 49 = .ok (.iconst 4, 1) := by decide +kernel
theorem dL_full_50 : decode cL_full 50 = .ok (.newarray .int, 2) := by decide +kernel
theorem dL_full_52 : decode cL_full 52 = .ok (.dup, 1) := by decide +kernel
theorem dL_full_53 : decode cL_full 53 = .ok (.iconst 0, 1) := by decide +kernel
theorem dL_full_54 : decode cL_full 54 = .ok (.iconst 0, 1) := by decide +kernel
theorem dL_full_55 : decode cL_full 55 = .ok (.iastore, 1) := by decide +kernel
theorem dL_full_56 : decode cL_full 56 = .ok (.dup, 1) := by decide +kernel
theorem dL_full_57 : decode cL_full 57 = .ok (.iconst 1, 1) := by decide +kernel
theorem dL_full_58 : decode cL_full 58 = .ok (.bipush 9, 2) := by decide +kernel
theorem dL_full_60 : decode cL_full 60 = .ok (.iastore, 1) := by decide +kernel
theorem dL_full_61 : decode cL_full 61 = .ok (.dup, 1) := by decide +kernel
theorem dL_full_62 : decode cL_full 62 = .ok (.iconst 2, 1) := by decide +kernel
theorem dL_full_63 : decode cL_full 63 = .ok (.bipush 49, 2) := by decide +kernel
theorem dL_full_65 : decode cL_full 65 = .ok (.iastore, 1) := by decide +kernel
theorem dL_full_66 : decode cL_full 66 = .ok (.dup, 1) := by decide +kernel
theorem dL_full_67 : decode cL_full 67 = .ok (.iconst 3, 1) := by decide +kernel
theorem dL_full_68 : decode cL_full 68 = .ok (.iconst 0, 1) := by decide +kernel
theorem dL_full_69 : decode cL_full 69 = .ok (.iastore, 1) := by decide +kernel
theorem dL_full_70 : decode cL_full 70 = .ok (.invokestatic 164, 3) := by decide +kernel
theorem dL_full_73 : decode cL_full 73 = .ok (.iload_n 1, 1) := by decide +kernel
theorem dL_full_74 : decode cL_full 74 = .ok (.if_icmp .eq 5, 3) := by decide +kernel
theorem dL_full_77 : decode cL_full 77 = .ok (.iconst 0, 1) := by decide +kernel
theorem dL_full_78 : decode cL_full 78 = .ok (.ireturn, 1) := by decide +kernel
theorem dL_full_79 : decode cL_full 79 = .ok (.iinc 1 1, 3) := by decide +kernel
theorem dL_full_82 : decode cL_full 82 = .ok (.goto (-72), 3) := by decide +kernel
theorem dL_full_85 : decode cL_full 85 = .ok (.aload_n 0, 1) := by decide +kernel
theorem dL_full_86 : decode cL_full 86 = .ok (.bipush 79, 2) := by decide +kernel
theorem dL_full_88 : decode cL_full 88 = .ok (.iconst 2, 1) := by decide +kernel
theorem dL_full_89 : decode cL_full 89 = .ok (.newarray .int, 2) := by decide +kernel
theorem dL_full_91 : decode cL_full 91 = .ok (.dup, 1) := by decide +kernel
theorem dL_full_92 : decode cL_full 92 = .ok (.iconst 0, 1) := by decide +kernel
theorem dL_full_93 : decode cL_full 93 = .ok (.bipush 60, 2) := by decide +kernel
theorem dL_full_95 : decode cL_full 95 = .ok (.iastore, 1) := by decide +kernel
theorem dL_full_96 : decode cL_full 96 = .ok (.dup, 1) := by decide +kernel
theorem dL_full_97 : decode cL_full 97 = .ok (.iconst 1, 1) := by decide +kernel
theorem dL_full_98 : decode cL_full 98 = .ok (.iconst 0, 1) := by decide +kernel
theorem dL_full_99 : decode cL_full 99 = .ok (.iastore, 1) := by decide +kernel
theorem dL_full_100 : decode cL_full 100 = .ok (.invokestatic 164, 3) := by decide +kernel
theorem dL_full_103 : decode cL_full 103 = .ok (.ldc 75, 2) := by decide +kernel
theorem dL_full_105 : decode cL_full 105 = .ok (.if_icmp .ne 54, 3) := by decide +kernel
theorem dL_full_108 : decode cL_full 108 = .ok (.aload_n 0, 1) := by decide +kernel
theorem dL_full_109 : decode cL_full 109 = .ok (.bipush 99, 2) := by decide +kernel
theorem dL_full_111 : decode cL_full 111 = .ok (.iconst 4, 1) := by decide +kernel
theorem dL_full_112 : decode cL_full 112 = .ok (.newarray .int, 2) := by decide +kernel
theorem dL_full_114 : decode cL_full 114 = .ok (.dup, 1) := by decide +kernel
theorem dL_full_115 : decode cL_full 115 = .ok (.iconst 0, 1) := by decide +kernel
theorem dL_full_116 : decode cL_full 116 = .ok (.iconst 0, 1) := by decide +kernel
theorem dL_full_117 : decode cL_full 117 = .ok (.iastore, 1) := by decide +kernel
theorem dL_full_118 : decode cL_full 118 = .ok (.dup, 1) := by decide +kernel
theorem dL_full_119 : decode cL_full 119 = .ok (.iconst 1, 1) := by decide +kernel
theorem dL_full_120 : decode cL_full 120 = .ok (.bipush 9, 2) := by decide +kernel
theorem dL_full_122 : decode cL_full 122 = .ok (.iastore, 1) := by decide +kernel
theorem dL_full_123 : decode cL_full 123 = .ok (.dup, 1) := by decide +kernel
theorem dL_full_124 : decode cL_full 124 = .ok (.iconst 2, 1) := by decide +kernel
theorem dL_full_125 : decode cL_full 125 = .ok (.bipush 49, 2) := by decide +kernel
theorem dL_full_127 : decode cL_full 127 = .ok (.iastore, 1) := by decide +kernel
theorem dL_full_128 : decode cL_full 128 = .ok (.dup, 1) := by decide +kernel
theorem dL_full_129 : decode cL_full 129 = .ok (.iconst 3, 1) := by decide +kernel
theorem dL_full_130 : decode cL_full 130 = .ok (.iconst 0, 1) := by decide +kernel
theorem dL_full_131 : decode cL_full 131 = .ok (.iastore, 1) := by decide +kernel
theorem dL_full_132 : decode cL_full 132 = .ok (.invokestatic 164, 3) := by decide +kernel
theorem dL_full_135 : decode cL_full 135 = .ok (.ldc 75, 2) := by decide +kernel
theorem dL_full_137 : decode cL_full 137 = .ok (.if_icmp .ne 22, 3) := by decide +kernel
theorem dL_full_140 : decode cL_full 140 = .ok (.aload_n 0, 1) := by decide +kernel
theorem dL_full_141 : decode cL_full 141 = .ok (.bipush 80, 2) := by decide +kernel
theorem dL_full_143 : decode cL_full 143 = .ok (.iconst 1, 1) := by decide +kernel
theorem dL_full_144 : decode cL_full 144 = .ok (.newarray .int, 2) := by decide +kernel
theorem dL_full_146 : decode cL_full 146 = .ok (.dup, 1) := by decide +kernel
theorem dL_full_147 : decode cL_full 147 = .ok (.iconst 0, 1) := by decide +kernel
theorem dL_full_148 : decode cL_full 148 = .ok (.bipush 49, 2) := by decide +kernel
theorem dL_full_150 : decode cL_full 150 = .ok (.iastore, 1) := by decide +kernel
theorem dL_full_151 : decode cL_full 151 = .ok (.invokestatic 164, 3) := by decide +kernel
theorem dL_full_154 : decode cL_full 154 = .ok (.bipush 20, 2) := by decide +kernel
theorem dL_full_156 : decode cL_full 156 = .ok (.if_icmp .eq 5, 3) := by decide +kernel
theorem dL_full_159 : decode cL_full 159 = .ok (.iconst 0, 1) := by decide +kernel
theorem dL_full_160 : decode cL_full 160 = .ok (.ireturn, 1) := by decide +kernel
theorem dL_full_161 : decode cL_full 161 = .ok (.iconst 0, 1) := by decide +kernel
theorem dL_full_162 : decode cL_full 162 = .ok (.istore_n 1, 1) := by decide +kernel
theorem dL_full_163 : decode cL_full 163 = .ok (.iload_n 1, 1) := by decide +kernel
theorem dL_full_164 : decode cL_full 164 = .ok (.bipush 24, 2) := by decide +kernel
theorem dL_full_166 : decode cL_full 166 = .ok (.if_icmp .ge 36, 3) := by decide +kernel
theorem dL_full_169 : decode cL_full 169 = .ok (.aload_n 0, 1) := by decide +kernel
theorem dL_full_170 : decode cL_full 170 = .ok (.bipush 112, 2) := by decide +kernel
theorem dL_full_172 : decode cL_full 172 = .ok (.iconst 1, 1) := by decide +kernel
theorem dL_full_173 : decode cL_full 173 = .ok (.newarray .int, 2) := by decide +kernel
theorem dL_full_175 : decode cL_full 175 = .ok (.dup, 1) := by decide +kernel
theorem dL_full_176 : decode cL_full 176 = .ok (.iconst 0, 1) := by decide +kernel
theorem dL_full_177 : decode cL_full 177 = .ok (.sipush 400, 3) := by decide +kernel
theorem dL_full_180 : decode cL_full 180 = .ok (.iastore, 1) := by decide +kernel
theorem dL_full_181 : decode cL_full 181 = .ok (.invokestatic 164, 3) := by decide +kernel
theorem dL_full_184 : decode cL_full 184 = .ok (.sipush 400, 3) := by decide +kernel
theorem dL_full_187 : decode cL_full 187 = .ok (.iload_n 1, 1) := by decide +kernel
theorem dL_full_188 : decode cL_full 188 = .ok (.iconst 1, 1) := by decide +kernel
theorem dL_full_189 : decode cL_full 189 = .ok (.iadd, 1) := by decide +kernel
theorem dL_full_190 : decode cL_full 190 = .ok (.imul, 1) := by decide +kernel
theorem dL_full_191 : decode cL_full 191 = .ok (.if_icmp .eq 5, 3) := by decide +kernel
theorem dL_full_194 : decode cL_full 194 = .ok (.iconst 0, 1) := by decide +kernel
theorem dL_full_195 : decode cL_full 195 = .ok (.ireturn, 1) := by decide +kernel
theorem dL_full_196 : decode cL_full 196 = .ok (.iinc 1 1, 3) := by decide +kernel
theorem dL_full_199 : decode cL_full 199 = .ok (.goto (-36), 3) := by decide +kernel
theorem dL_full_202 : decode cL_full 202 = .ok (.aload_n 0, 1) := by decide +kernel
theorem dL_full_203 : decode cL_full 203 = .ok (.bipush 112, 2) := by decide +kernel
theorem dL_full_205 : decode cL_full 205 = .ok (.iconst 1, 1) := by decide +kernel
theorem dL_full_206 : decode cL_full 206 = .ok (.newarray .int, 2) := by decide +kernel
theorem dL_full_208 : decode cL_full 208 = .ok (.dup, 1) := by decide +kernel
theorem dL_full_209 : decode cL_full 209 = .ok (.iconst 0, 1) := by decide +kernel
theorem dL_full_210 : decode cL_full 210 = .ok (.sipush 400, 3) := by decide +kernel
theorem dL_full_213 : decode cL_full 213 = .ok (.iastore, 1) := by decide +kernel
theorem dL_full_214 : decode cL_full 214 = .ok (.invokestatic 164, 3) := by decide +kernel
theorem dL_full_217 : decode cL_full 217 = .ok (.ldc 75, 2) := by decide +kernel
theorem dL_full_219 : decode cL_full 219 = .ok (.if_icmp .ne 183, 3) := by decide +kernel
theorem dL_full_222 : decode cL_full 222 = .ok (.aload_n 0, 1) := by decide +kernel
theorem dL_full_223 : decode cL_full 223 = .ok (.bipush 112, 2) := by decide +kernel
theorem dL_full_225 : decode cL_full 225 = .ok (.iconst 1, 1) := by decide +kernel
theorem dL_full_226 : decode cL_full 226 = .ok (.newarray .int, 2) := by decide +kernel
theorem dL_full_228 : decode cL_full 228 = .ok (.dup, 1) := by decide +kernel
theorem dL_full_229 : decode cL_full 229 = .ok (.iconst 0, 1) := by decide +kernel
theorem dL_full_230 : decode cL_full 230 = .ok (.sipush 399, 3) := by decide +kernel
theorem dL_full_233 : decode cL_full 233 = .ok (.iastore, 1) := by decide +kernel
theorem dL_full_234 : decode cL_full 234 = .ok (.invokestatic 164, 3) := by decide +kernel
theorem dL_full_237 : decode cL_full 237 = .ok (.sipush 9999, 3) := by decide +kernel
theorem dL_full_240 : decode cL_full 240 = .ok (.if_icmp .ne 162, 3) := by decide +kernel
theorem dL_full_243 : decode cL_full 243 = .ok (.aload_n 0, 1) := by decide +kernel
theorem dL_full_244 : decode cL_full 244 = .ok (.bipush 112, 2) := by decide +kernel
theorem dL_full_246 : decode cL_full 246 = .ok (.iconst 1, 1) := by decide +kernel
theorem dL_full_247 : decode cL_full 247 = .ok (.newarray .int, 2) := by decide +kernel
theorem dL_full_249 : decode cL_full 249 = .ok (.dup, 1) := by decide +kernel
theorem dL_full_250 : decode cL_full 250 = .ok (.iconst 0, 1) := by decide +kernel
theorem dL_full_251 : decode cL_full 251 = .ok (.iconst 1, 1) := by decide +kernel
theorem dL_full_252 : decode cL_full 252 = .ok (.iastore, 1) := by decide +kernel
theorem dL_full_253 : decode cL_full 253 = .ok (.invokestatic 164, 3) := by decide +kernel
theorem dL_full_256 : decode cL_full 256 = .ok (.ldc 75, 2) := by decide +kernel
theorem dL_full_258 : decode cL_full 258 = .ok (.if_icmp .ne 144, 3) := by decide +kernel
theorem dL_full_261 : decode cL_full 261 = .ok (.aload_n 0, 1) := by decide +kernel
theorem dL_full_262 : decode cL_full 262 = .ok (.bipush 101, 2) := by decide +kernel
theorem dL_full_264 : decode cL_full 264 = .ok (.iconst 1, 1) := by decide +kernel
theorem dL_full_265 : decode cL_full 265 = .ok (.newarray .int, 2) := by decide +kernel
theorem dL_full_267 : decode cL_full 267 = .ok (.dup, 1) := by decide +kernel
theorem dL_full_268 : decode cL_full 268 = .ok (.iconst 0, 1) := by decide +kernel
theorem dL_full_269 : decode cL_full 269 = .ok (.iconst 0, 1) := by decide +kernel
theorem dL_full_270 : decode cL_full 270 = .ok (.iastore, 1) := by decide +kernel
theorem dL_full_271 : decode cL_full 271 = .ok (.invokestatic 164, 3) := by decide +kernel
theorem dL_full_274 : decode cL_full 274 = .ok (.bipush 102, 2) := by decide +kernel
theorem dL_full_276 : decode cL_full 276 = .ok (.if_icmp .ne 126, 3) := by decide +kernel
theorem dL_full_279 : decode cL_full 279 = .ok (.aload_n 0, 1) := by decide +kernel
theorem dL_full_280 : decode cL_full 280 = .ok (.bipush 120, 2) := by decide +kernel
theorem dL_full_282 : decode cL_full 282 = .ok (.iconst 1, 1) := by decide +kernel
theorem dL_full_283 : decode cL_full 283 = .ok (.newarray .int, 2) := by decide +kernel
theorem dL_full_285 : decode cL_full 285 = .ok (.dup, 1) := by decide +kernel
theorem dL_full_286 : decode cL_full 286 = .ok (.iconst 0, 1) := by decide +kernel
theorem dL_full_287 : decode cL_full 287 = .ok (.iconst 0, 1) := by decide +kernel
theorem dL_full_288 : decode cL_full 288 = .ok (.iastore, 1) := by decide +kernel
theorem dL_full_289 : decode cL_full 289 = .ok (.invokestatic 164, 3) := by decide +kernel
theorem dL_full_292 : decode cL_full 292 = .ok (.ifCond .ne 110, 3) := by decide +kernel
theorem dL_full_295 : decode cL_full 295 = .ok (.aload_n 0, 1) := by decide +kernel
theorem dL_full_296 : decode cL_full 296 = .ok (.bipush 120, 2) := by decide +kernel
theorem dL_full_298 : decode cL_full 298 = .ok (.iconst 1, 1) := by decide +kernel
theorem dL_full_299 : decode cL_full 299 = .ok (.newarray .int, 2) := by decide +kernel
theorem dL_full_301 : decode cL_full 301 = .ok (.dup, 1) := by decide +kernel
theorem dL_full_302 : decode cL_full 302 = .ok (.iconst 0, 1) := by decide +kernel
theorem dL_full_303 : decode cL_full 303 = .ok (.iconst 0, 1) := by decide +kernel
theorem dL_full_304 : decode cL_full 304 = .ok (.iastore, 1) := by decide +kernel
theorem dL_full_305 : decode cL_full 305 = .ok (.invokestatic 164, 3) := by decide +kernel
theorem dL_full_308 : decode cL_full 308 = .ok (.iconst 1, 1) := by decide +kernel
theorem dL_full_309 : decode cL_full 309 = .ok (.if_icmp .ne 93, 3) := by decide +kernel
theorem dL_full_312 : decode cL_full 312 = .ok (.aload_n 0, 1) := by decide +kernel
theorem dL_full_313 : decode cL_full 313 = .ok (.bipush 67, 2) := by decide +kernel
theorem dL_full_315 : decode cL_full 315 = .ok (.iconst 2, 1) := by decide +kernel
theorem dL_full_316 : decode cL_full 316 = .ok (.newarray .int, 2) := by decide +kernel
theorem dL_full_318 : decode cL_full 318 = .ok (.dup, 1) := by decide +kernel
theorem dL_full_319 : decode cL_full 319 = .ok (.iconst 0, 1) := by decide +kernel
theorem dL_full_320 : decode cL_full 320 = .ok (.iconst 0, 1) := by decide +kernel
theorem dL_full_321 : decode cL_full 321 = .ok (.iastore, 1) := by decide +kernel
theorem dL_full_322 : decode cL_full 322 = .ok (.dup, 1) := by decide +kernel
theorem dL_full_323 : decode cL_full 323 = .ok (.iconst 1, 1) := by decide +kernel
theorem dL_full_324 : decode cL_full 324 = .ok (.iconst 1, 1) := by decide +kernel
theorem dL_full_325 : decode cL_full 325 = .ok (.iastore, 1) := by decide +kernel
theorem dL_full_326 : decode cL_full 326 = .ok (.invokestatic 164, 3) := by decide +kernel
theorem dL_full_329 : decode cL_full 329 = .ok (.ifCond .ne 73, 3) := by decide +kernel
theorem dL_full_332 : decode cL_full 332 = .ok (.aload_n 0, 1) := by decide +kernel
theorem dL_full_333 : decode cL_full 333 = .ok (.bipush 101, 2) := by decide +kernel
theorem dL_full_335 : decode cL_full 335 = .ok (.iconst 1, 1) := by decide +kernel
theorem dL_full_336 : decode cL_full 336 = .ok (.newarray .int, 2) := by decide +kernel
theorem dL_full_338 : decode cL_full 338 = .ok (.dup, 1) := by decide +kernel
theorem dL_full_339 : decode cL_full 339 = .ok (.iconst 0, 1) := by decide +kernel
theorem dL_full_340 : decode cL_full 340 = .ok (.iconst 0, 1) := by decide +kernel
theorem dL_full_341 : decode cL_full 341 = .ok (.iastore, 1) := by decide +kernel
theorem dL_full_342 : decode cL_full 342 = .ok (.invokestatic 164, 3) := by decide +kernel
theorem dL_full_345 : decode cL_full 345 = .ok (.bipush 111, 2) := by decide +kernel
theorem dL_full_347 : decode cL_full 347 = .ok (.if_icmp .ne 55, 3) := by decide +kernel
theorem dL_full_350 : decode cL_full 350 = .ok (.aload_n 0, 1) := by decide +kernel
theorem dL_full_351 : decode cL_full 351 = .ok (.bipush 67, 2) := by decide +kernel
theorem dL_full_353 : decode cL_full 353 = .ok (.iconst 2, 1) := by decide +kernel
theorem dL_full_354 : decode cL_full 354 = .ok (.newarray .int, 2) := by decide +kernel
theorem dL_full_356 : decode cL_full 356 = .ok (.dup, 1) := by decide +kernel
theorem dL_full_357 : decode cL_full 357 = .ok (.iconst 0, 1) := by decide +kernel
theorem dL_full_358 : decode cL_full 358 = .ok (.iconst 0, 1) := by decide +kernel
theorem dL_full_359 : decode cL_full 359 = .ok (.iastore, 1) := by decide +kernel
theorem dL_full_360 : decode cL_full 360 = .ok (.dup, 1) := by decide +kernel
theorem dL_full_361 : decode cL_full 361 = .ok (.iconst 1, 1) := by decide +kernel
theorem dL_full_362 : decode cL_full 362 = .ok (.iconst 0, 1) := by decide +kernel
theorem dL_full_363 : decode cL_full 363 = .ok (.iastore, 1) := by decide +kernel
theorem dL_full_364 : decode cL_full 364 = .ok (.invokestatic 164, 3) := by decide +kernel
theorem dL_full_367 : decode cL_full 367 = .ok (.ldc 78, 2) := by decide +kernel
theorem dL_full_369 : decode cL_full 369 = .ok (.if_icmp .ne 33, 3) := by decide +kernel
theorem dL_full_372 : decode cL_full 372 = .ok (.aload_n 0, 1) := by decide +kernel
theorem dL_full_373 : decode cL_full 373 = .ok (.bipush 100, 2) := by decide +kernel
theorem dL_full_375 : decode cL_full 375 = .ok (.iconst 1, 1) := by decide +kernel
theorem dL_full_376 : decode cL_full 376 = .ok (.newarray .int, 2) := by decide +kernel
theorem dL_full_378 : decode cL_full 378 = .ok (.dup, 1) := by decide +kernel
theorem dL_full_379 : decode cL_full 379 = .ok (.iconst 0, 1) := by decide +kernel
theorem dL_full_380 : decode cL_full 380 = .ok (.iconst 0, 1) := by decide +kernel
theorem dL_full_381 : decode cL_full 381 = .ok (.iastore, 1) := by decide +kernel
theorem dL_full_382 : decode cL_full 382 = .ok (.invokestatic 164, 3) := by decide +kernel
theorem dL_full_385 : decode cL_full 385 = .ok (.sipush 9999, 3) := by decide +kernel
theorem dL_full_388 : decode cL_full 388 = .ok (.if_icmp .ne 14, 3) := by decide +kernel
theorem dL_full_391 : decode cL_full 391 = .ok (.aload_n 0, 1) := by decide +kernel
theorem dL_full_392 : decode cL_full 392 = .ok (.invokevirtual 160, 3) := by decide +kernel
theorem dL_full_395 : decode cL_full 395 = .ok (.ifCond .eq 7, 3) := by decide +kernel
theorem dL_full_398 : decode cL_full 398 = .ok (.iconst 1, 1) := by decide +kernel
theorem dL_full_399 : decode cL_full 399 = .ok (.goto 4, 3) := by decide +kernel
theorem dL_full_402 : decode cL_full 402 = .ok (.iconst 0, 1) := by decide +kernel
theorem dL_full_403 : decode cL_full 403 = .ok (.ireturn, 1) := by decide +kernel
