/-! ===== the law: its loop (segments printed by wip/whole, contracts own work) ===== -/
theorem c_331_0 : pg_cd 331 0 = (60, 11, 7, 12, 0) := by decide +kernel
theorem c_331_3 : pg_cd 331 3 = (33, 1, 0, 0, 0) := by decide +kernel
theorem c_331_4 : pg_cd 331 4 = (80, 140, 9, 0, 0) := by decide +kernel
theorem c_331_7 : pg_cd 331 7 = (8, 1, 0, 1, 0) := by decide +kernel
theorem c_331_8 : pg_cd 331 8 = (60, 12, 10, 43, 0) := by decide +kernel
theorem c_331_11 : pg_cd 331 11 = (33, 1, 0, 0, 0) := by decide +kernel
theorem c_331_12 : pg_cd 331 12 = (80, 194, 12, 0, 0) := by decide +kernel
theorem c_331_15 : pg_cd 331 15 = (8, 1, 0, 2, 0) := by decide +kernel
theorem c_331_16 : pg_cd 331 16 = (1, 1, 0, 0, 0) := by decide +kernel
theorem c_331_17 : pg_cd 331 17 = (6, 1, 0, 3, 0) := by decide +kernel
theorem c_331_18 : pg_cd 331 18 = (3, 1, 0, 3, 0) := by decide +kernel
theorem c_331_19 : pg_cd 331 19 = (5, 1, 0, 0, 0) := by decide +kernel
theorem c_331_20 : pg_cd 331 20 = (58, 0, 0, 0, 0) := by decide +kernel
theorem c_331_21 : pg_cd 331 21 = (1, 2, 0, 0, 7) := by decide +kernel
theorem c_331_23 : pg_cd 331 23 = (11, 1, 0, 0, 0) := by decide +kernel
theorem c_331_24 : pg_cd 331 24 = (37, 3, 0, 4, 1829) := by decide +kernel
theorem c_331_27 : pg_cd 331 27 = (5, 1, 0, 0, 0) := by decide +kernel
theorem c_331_28 : pg_cd 331 28 = (3, 1, 0, 3, 0) := by decide +kernel
theorem c_331_29 : pg_cd 331 29 = (50, 1, 0, 0, 0) := by decide +kernel
theorem c_331_30 : pg_cd 331 30 = (1, 2, 0, 0, 63) := by decide +kernel
theorem c_331_32 : pg_cd 331 32 = (13, 1, 0, 0, 0) := by decide +kernel
theorem c_331_33 : pg_cd 331 33 = (42, 10, 187, 0, 0) := by decide +kernel
theorem c_331_220 : pg_cd 331 220 = (5, 1, 0, 1, 0) := by decide +kernel
theorem c_331_221 : pg_cd 331 221 = (5, 1, 0, 0, 0) := by decide +kernel
theorem c_331_222 : pg_cd 331 222 = (3, 1, 0, 3, 0) := by decide +kernel
theorem c_331_223 : pg_cd 331 223 = (1, 1, 0, 0, 1) := by decide +kernel
theorem c_331_224 : pg_cd 331 224 = (10, 1, 0, 0, 0) := by decide +kernel
theorem c_331_225 : pg_cd 331 225 = (50, 1, 0, 0, 0) := by decide +kernel
theorem c_331_226 : pg_cd 331 226 = (5, 1, 0, 0, 0) := by decide +kernel
theorem c_331_227 : pg_cd 331 227 = (3, 1, 0, 3, 0) := by decide +kernel
theorem c_331_228 : pg_cd 331 228 = (1, 1, 0, 0, 2) := by decide +kernel
theorem c_331_229 : pg_cd 331 229 = (10, 1, 0, 0, 0) := by decide +kernel
theorem c_331_230 : pg_cd 331 230 = (50, 1, 0, 0, 0) := by decide +kernel
theorem c_331_231 : pg_cd 331 231 = (5, 1, 0, 0, 0) := by decide +kernel
theorem c_331_232 : pg_cd 331 232 = (3, 1, 0, 3, 0) := by decide +kernel
theorem c_331_233 : pg_cd 331 233 = (1, 1, 0, 0, 3) := by decide +kernel
theorem c_331_234 : pg_cd 331 234 = (10, 1, 0, 0, 0) := by decide +kernel
theorem c_331_235 : pg_cd 331 235 = (50, 1, 0, 0, 0) := by decide +kernel
theorem c_331_236 : pg_cd 331 236 = (5, 1, 0, 0, 0) := by decide +kernel
theorem c_331_237 : pg_cd 331 237 = (3, 1, 0, 3, 0) := by decide +kernel
theorem c_331_238 : pg_cd 331 238 = (1, 1, 0, 0, 4) := by decide +kernel
theorem c_331_239 : pg_cd 331 239 = (10, 1, 0, 0, 0) := by decide +kernel
theorem c_331_240 : pg_cd 331 240 = (50, 1, 0, 0, 0) := by decide +kernel
theorem c_331_241 : pg_cd 331 241 = (5, 1, 0, 0, 0) := by decide +kernel
theorem c_331_242 : pg_cd 331 242 = (3, 1, 0, 3, 0) := by decide +kernel
theorem c_331_243 : pg_cd 331 243 = (1, 1, 0, 0, 5) := by decide +kernel
theorem c_331_244 : pg_cd 331 244 = (10, 1, 0, 0, 0) := by decide +kernel
theorem c_331_245 : pg_cd 331 245 = (50, 1, 0, 0, 0) := by decide +kernel
theorem c_331_246 : pg_cd 331 246 = (5, 1, 0, 0, 0) := by decide +kernel
theorem c_331_247 : pg_cd 331 247 = (3, 1, 0, 3, 0) := by decide +kernel
theorem c_331_248 : pg_cd 331 248 = (1, 2, 0, 0, 6) := by decide +kernel
theorem c_331_250 : pg_cd 331 250 = (10, 1, 0, 0, 0) := by decide +kernel
theorem c_331_251 : pg_cd 331 251 = (50, 1, 0, 0, 0) := by decide +kernel
theorem c_331_252 : pg_cd 331 252 = (80, 145, 13, 0, 0) := by decide +kernel
theorem c_331_255 : pg_cd 331 255 = (5, 1, 0, 2, 0) := by decide +kernel
theorem c_331_256 : pg_cd 331 256 = (5, 1, 0, 0, 0) := by decide +kernel
theorem c_331_257 : pg_cd 331 257 = (3, 1, 0, 3, 0) := by decide +kernel
theorem c_331_258 : pg_cd 331 258 = (1, 1, 0, 0, 1) := by decide +kernel
theorem c_331_259 : pg_cd 331 259 = (10, 1, 0, 0, 0) := by decide +kernel
theorem c_331_260 : pg_cd 331 260 = (50, 1, 0, 0, 0) := by decide +kernel
theorem c_331_261 : pg_cd 331 261 = (5, 1, 0, 0, 0) := by decide +kernel
theorem c_331_262 : pg_cd 331 262 = (3, 1, 0, 3, 0) := by decide +kernel
theorem c_331_263 : pg_cd 331 263 = (1, 1, 0, 0, 2) := by decide +kernel
theorem c_331_264 : pg_cd 331 264 = (10, 1, 0, 0, 0) := by decide +kernel
theorem c_331_265 : pg_cd 331 265 = (50, 1, 0, 0, 0) := by decide +kernel
theorem c_331_266 : pg_cd 331 266 = (5, 1, 0, 0, 0) := by decide +kernel
theorem c_331_267 : pg_cd 331 267 = (3, 1, 0, 3, 0) := by decide +kernel
theorem c_331_268 : pg_cd 331 268 = (1, 1, 0, 0, 3) := by decide +kernel
theorem c_331_269 : pg_cd 331 269 = (10, 1, 0, 0, 0) := by decide +kernel
theorem c_331_270 : pg_cd 331 270 = (50, 1, 0, 0, 0) := by decide +kernel
theorem c_331_271 : pg_cd 331 271 = (5, 1, 0, 0, 0) := by decide +kernel
theorem c_331_272 : pg_cd 331 272 = (3, 1, 0, 3, 0) := by decide +kernel
theorem c_331_273 : pg_cd 331 273 = (1, 1, 0, 0, 4) := by decide +kernel
theorem c_331_274 : pg_cd 331 274 = (10, 1, 0, 0, 0) := by decide +kernel
theorem c_331_275 : pg_cd 331 275 = (50, 1, 0, 0, 0) := by decide +kernel
theorem c_331_276 : pg_cd 331 276 = (5, 1, 0, 0, 0) := by decide +kernel
theorem c_331_277 : pg_cd 331 277 = (3, 1, 0, 3, 0) := by decide +kernel
theorem c_331_278 : pg_cd 331 278 = (1, 1, 0, 0, 5) := by decide +kernel
theorem c_331_279 : pg_cd 331 279 = (10, 1, 0, 0, 0) := by decide +kernel
theorem c_331_280 : pg_cd 331 280 = (50, 1, 0, 0, 0) := by decide +kernel
theorem c_331_281 : pg_cd 331 281 = (5, 1, 0, 0, 0) := by decide +kernel
theorem c_331_282 : pg_cd 331 282 = (3, 1, 0, 3, 0) := by decide +kernel
theorem c_331_283 : pg_cd 331 283 = (1, 2, 0, 0, 6) := by decide +kernel
theorem c_331_285 : pg_cd 331 285 = (10, 1, 0, 0, 0) := by decide +kernel
theorem c_331_286 : pg_cd 331 286 = (50, 1, 0, 0, 0) := by decide +kernel
theorem c_331_287 : pg_cd 331 287 = (80, 206, 17, 0, 0) := by decide +kernel
theorem c_331_290 : pg_cd 331 290 = (37, 3, 0, 0, 1557) := by decide +kernel
theorem c_331_293 : pg_cd 331 293 = (1, 1, 0, 0, 0) := by decide +kernel
theorem c_331_294 : pg_cd 331 294 = (91, 0, 0, 0, 0) := by decide +kernel
theorem c_331_295 : pg_cd 331 295 = (5, 1, 0, 1, 0) := by decide +kernel
theorem c_331_296 : pg_cd 331 296 = (5, 1, 0, 0, 0) := by decide +kernel
theorem c_331_297 : pg_cd 331 297 = (3, 1, 0, 3, 0) := by decide +kernel
theorem c_331_298 : pg_cd 331 298 = (1, 1, 0, 0, 1) := by decide +kernel
theorem c_331_299 : pg_cd 331 299 = (10, 1, 0, 0, 0) := by decide +kernel
theorem c_331_300 : pg_cd 331 300 = (50, 1, 0, 0, 0) := by decide +kernel
theorem c_331_301 : pg_cd 331 301 = (5, 1, 0, 0, 0) := by decide +kernel
theorem c_331_302 : pg_cd 331 302 = (3, 1, 0, 3, 0) := by decide +kernel
theorem c_331_303 : pg_cd 331 303 = (1, 1, 0, 0, 2) := by decide +kernel
theorem c_331_304 : pg_cd 331 304 = (10, 1, 0, 0, 0) := by decide +kernel
theorem c_331_305 : pg_cd 331 305 = (50, 1, 0, 0, 0) := by decide +kernel
theorem c_331_306 : pg_cd 331 306 = (5, 1, 0, 0, 0) := by decide +kernel
theorem c_331_307 : pg_cd 331 307 = (3, 1, 0, 3, 0) := by decide +kernel
theorem c_331_308 : pg_cd 331 308 = (1, 1, 0, 0, 3) := by decide +kernel
theorem c_331_309 : pg_cd 331 309 = (10, 1, 0, 0, 0) := by decide +kernel
theorem c_331_310 : pg_cd 331 310 = (50, 1, 0, 0, 0) := by decide +kernel
theorem c_331_311 : pg_cd 331 311 = (80, 146, 18, 0, 0) := by decide +kernel
theorem c_331_314 : pg_cd 331 314 = (5, 1, 0, 2, 0) := by decide +kernel
theorem c_331_315 : pg_cd 331 315 = (5, 1, 0, 0, 0) := by decide +kernel
theorem c_331_316 : pg_cd 331 316 = (3, 1, 0, 3, 0) := by decide +kernel
theorem c_331_317 : pg_cd 331 317 = (1, 1, 0, 0, 1) := by decide +kernel
theorem c_331_318 : pg_cd 331 318 = (10, 1, 0, 0, 0) := by decide +kernel
theorem c_331_319 : pg_cd 331 319 = (50, 1, 0, 0, 0) := by decide +kernel
theorem c_331_320 : pg_cd 331 320 = (5, 1, 0, 0, 0) := by decide +kernel
theorem c_331_321 : pg_cd 331 321 = (3, 1, 0, 3, 0) := by decide +kernel
theorem c_331_322 : pg_cd 331 322 = (1, 1, 0, 0, 2) := by decide +kernel
theorem c_331_323 : pg_cd 331 323 = (10, 1, 0, 0, 0) := by decide +kernel
theorem c_331_324 : pg_cd 331 324 = (50, 1, 0, 0, 0) := by decide +kernel
theorem c_331_325 : pg_cd 331 325 = (5, 1, 0, 0, 0) := by decide +kernel
theorem c_331_326 : pg_cd 331 326 = (3, 1, 0, 3, 0) := by decide +kernel
theorem c_331_327 : pg_cd 331 327 = (1, 1, 0, 0, 3) := by decide +kernel
theorem c_331_328 : pg_cd 331 328 = (10, 1, 0, 0, 0) := by decide +kernel
theorem c_331_329 : pg_cd 331 329 = (50, 1, 0, 0, 0) := by decide +kernel
theorem c_331_330 : pg_cd 331 330 = (80, 207, 22, 0, 0) := by decide +kernel
theorem c_331_333 : pg_cd 331 333 = (37, 3, 0, 0, 1514) := by decide +kernel
theorem c_331_336 : pg_cd 331 336 = (1, 1, 0, 0, 0) := by decide +kernel
theorem c_331_337 : pg_cd 331 337 = (91, 0, 0, 0, 0) := by decide +kernel
theorem c_331_338 : pg_cd 331 338 = (5, 1, 0, 1, 0) := by decide +kernel
theorem c_331_339 : pg_cd 331 339 = (5, 1, 0, 0, 0) := by decide +kernel
theorem c_331_340 : pg_cd 331 340 = (3, 1, 0, 3, 0) := by decide +kernel
theorem c_331_341 : pg_cd 331 341 = (1, 1, 0, 0, 1) := by decide +kernel
theorem c_331_342 : pg_cd 331 342 = (10, 1, 0, 0, 0) := by decide +kernel
theorem c_331_343 : pg_cd 331 343 = (50, 1, 0, 0, 0) := by decide +kernel
theorem c_331_344 : pg_cd 331 344 = (5, 1, 0, 0, 0) := by decide +kernel
theorem c_331_345 : pg_cd 331 345 = (3, 1, 0, 3, 0) := by decide +kernel
theorem c_331_346 : pg_cd 331 346 = (1, 1, 0, 0, 2) := by decide +kernel
theorem c_331_347 : pg_cd 331 347 = (10, 1, 0, 0, 0) := by decide +kernel
theorem c_331_348 : pg_cd 331 348 = (50, 1, 0, 0, 0) := by decide +kernel
theorem c_331_349 : pg_cd 331 349 = (80, 147, 23, 0, 0) := by decide +kernel
theorem c_331_352 : pg_cd 331 352 = (5, 1, 0, 2, 0) := by decide +kernel
theorem c_331_353 : pg_cd 331 353 = (5, 1, 0, 0, 0) := by decide +kernel
theorem c_331_354 : pg_cd 331 354 = (3, 1, 0, 3, 0) := by decide +kernel
theorem c_331_355 : pg_cd 331 355 = (1, 1, 0, 0, 1) := by decide +kernel
theorem c_331_356 : pg_cd 331 356 = (10, 1, 0, 0, 0) := by decide +kernel
theorem c_331_357 : pg_cd 331 357 = (50, 1, 0, 0, 0) := by decide +kernel
theorem c_331_358 : pg_cd 331 358 = (5, 1, 0, 0, 0) := by decide +kernel
theorem c_331_359 : pg_cd 331 359 = (3, 1, 0, 3, 0) := by decide +kernel
theorem c_331_360 : pg_cd 331 360 = (1, 1, 0, 0, 2) := by decide +kernel
theorem c_331_361 : pg_cd 331 361 = (10, 1, 0, 0, 0) := by decide +kernel
theorem c_331_362 : pg_cd 331 362 = (50, 1, 0, 0, 0) := by decide +kernel
theorem c_331_363 : pg_cd 331 363 = (80, 208, 27, 0, 0) := by decide +kernel
theorem c_331_366 : pg_cd 331 366 = (37, 3, 0, 0, 1481) := by decide +kernel
theorem c_331_369 : pg_cd 331 369 = (1, 1, 0, 0, 0) := by decide +kernel
theorem c_331_370 : pg_cd 331 370 = (91, 0, 0, 0, 0) := by decide +kernel
theorem c_331_371 : pg_cd 331 371 = (5, 1, 0, 1, 0) := by decide +kernel
theorem c_331_372 : pg_cd 331 372 = (5, 1, 0, 0, 0) := by decide +kernel
theorem c_331_373 : pg_cd 331 373 = (3, 1, 0, 3, 0) := by decide +kernel
theorem c_331_374 : pg_cd 331 374 = (1, 1, 0, 0, 1) := by decide +kernel
theorem c_331_375 : pg_cd 331 375 = (10, 1, 0, 0, 0) := by decide +kernel
theorem c_331_376 : pg_cd 331 376 = (50, 1, 0, 0, 0) := by decide +kernel
theorem c_331_377 : pg_cd 331 377 = (5, 1, 0, 0, 0) := by decide +kernel
theorem c_331_378 : pg_cd 331 378 = (3, 1, 0, 3, 0) := by decide +kernel
theorem c_331_379 : pg_cd 331 379 = (1, 1, 0, 0, 2) := by decide +kernel
theorem c_331_380 : pg_cd 331 380 = (10, 1, 0, 0, 0) := by decide +kernel
theorem c_331_381 : pg_cd 331 381 = (50, 1, 0, 0, 0) := by decide +kernel
theorem c_331_382 : pg_cd 331 382 = (80, 148, 28, 0, 0) := by decide +kernel
theorem c_331_385 : pg_cd 331 385 = (5, 1, 0, 2, 0) := by decide +kernel
theorem c_331_386 : pg_cd 331 386 = (5, 1, 0, 0, 0) := by decide +kernel
theorem c_331_387 : pg_cd 331 387 = (3, 1, 0, 3, 0) := by decide +kernel
theorem c_331_388 : pg_cd 331 388 = (1, 1, 0, 0, 1) := by decide +kernel
theorem c_331_389 : pg_cd 331 389 = (10, 1, 0, 0, 0) := by decide +kernel
theorem c_331_390 : pg_cd 331 390 = (50, 1, 0, 0, 0) := by decide +kernel
theorem c_331_391 : pg_cd 331 391 = (5, 1, 0, 0, 0) := by decide +kernel
theorem c_331_392 : pg_cd 331 392 = (3, 1, 0, 3, 0) := by decide +kernel
theorem c_331_393 : pg_cd 331 393 = (1, 1, 0, 0, 2) := by decide +kernel
theorem c_331_394 : pg_cd 331 394 = (10, 1, 0, 0, 0) := by decide +kernel
theorem c_331_395 : pg_cd 331 395 = (50, 1, 0, 0, 0) := by decide +kernel
theorem c_331_396 : pg_cd 331 396 = (80, 210, 32, 0, 0) := by decide +kernel
theorem c_331_399 : pg_cd 331 399 = (37, 3, 0, 0, 1448) := by decide +kernel
theorem c_331_402 : pg_cd 331 402 = (1, 1, 0, 0, 0) := by decide +kernel
theorem c_331_403 : pg_cd 331 403 = (91, 0, 0, 0, 0) := by decide +kernel
theorem c_331_404 : pg_cd 331 404 = (5, 1, 0, 1, 0) := by decide +kernel
theorem c_331_405 : pg_cd 331 405 = (5, 1, 0, 0, 0) := by decide +kernel
theorem c_331_406 : pg_cd 331 406 = (3, 1, 0, 3, 0) := by decide +kernel
theorem c_331_407 : pg_cd 331 407 = (1, 1, 0, 0, 1) := by decide +kernel
theorem c_331_408 : pg_cd 331 408 = (10, 1, 0, 0, 0) := by decide +kernel
theorem c_331_409 : pg_cd 331 409 = (50, 1, 0, 0, 0) := by decide +kernel
theorem c_331_410 : pg_cd 331 410 = (5, 1, 0, 0, 0) := by decide +kernel
theorem c_331_411 : pg_cd 331 411 = (3, 1, 0, 3, 0) := by decide +kernel
theorem c_331_412 : pg_cd 331 412 = (1, 1, 0, 0, 2) := by decide +kernel
theorem c_331_413 : pg_cd 331 413 = (10, 1, 0, 0, 0) := by decide +kernel
theorem c_331_414 : pg_cd 331 414 = (50, 1, 0, 0, 0) := by decide +kernel
theorem c_331_415 : pg_cd 331 415 = (5, 1, 0, 0, 0) := by decide +kernel
theorem c_331_416 : pg_cd 331 416 = (3, 1, 0, 3, 0) := by decide +kernel
theorem c_331_417 : pg_cd 331 417 = (1, 1, 0, 0, 3) := by decide +kernel
theorem c_331_418 : pg_cd 331 418 = (10, 1, 0, 0, 0) := by decide +kernel
theorem c_331_419 : pg_cd 331 419 = (50, 1, 0, 0, 0) := by decide +kernel
theorem c_331_420 : pg_cd 331 420 = (5, 1, 0, 0, 0) := by decide +kernel
theorem c_331_421 : pg_cd 331 421 = (3, 1, 0, 3, 0) := by decide +kernel
theorem c_331_422 : pg_cd 331 422 = (1, 1, 0, 0, 4) := by decide +kernel
theorem c_331_423 : pg_cd 331 423 = (10, 1, 0, 0, 0) := by decide +kernel
theorem c_331_424 : pg_cd 331 424 = (50, 1, 0, 0, 0) := by decide +kernel
theorem c_331_425 : pg_cd 331 425 = (80, 149, 33, 0, 0) := by decide +kernel
theorem c_331_428 : pg_cd 331 428 = (5, 1, 0, 2, 0) := by decide +kernel
theorem c_331_429 : pg_cd 331 429 = (5, 1, 0, 0, 0) := by decide +kernel
theorem c_331_430 : pg_cd 331 430 = (3, 1, 0, 3, 0) := by decide +kernel
theorem c_331_431 : pg_cd 331 431 = (1, 1, 0, 0, 1) := by decide +kernel
theorem c_331_432 : pg_cd 331 432 = (10, 1, 0, 0, 0) := by decide +kernel
theorem c_331_433 : pg_cd 331 433 = (50, 1, 0, 0, 0) := by decide +kernel
theorem c_331_434 : pg_cd 331 434 = (5, 1, 0, 0, 0) := by decide +kernel
theorem c_331_435 : pg_cd 331 435 = (3, 1, 0, 3, 0) := by decide +kernel
theorem c_331_436 : pg_cd 331 436 = (1, 1, 0, 0, 2) := by decide +kernel
theorem c_331_437 : pg_cd 331 437 = (10, 1, 0, 0, 0) := by decide +kernel
theorem c_331_438 : pg_cd 331 438 = (50, 1, 0, 0, 0) := by decide +kernel
theorem c_331_439 : pg_cd 331 439 = (5, 1, 0, 0, 0) := by decide +kernel
theorem c_331_440 : pg_cd 331 440 = (3, 1, 0, 3, 0) := by decide +kernel
theorem c_331_441 : pg_cd 331 441 = (1, 1, 0, 0, 3) := by decide +kernel
theorem c_331_442 : pg_cd 331 442 = (10, 1, 0, 0, 0) := by decide +kernel
theorem c_331_443 : pg_cd 331 443 = (50, 1, 0, 0, 0) := by decide +kernel
theorem c_331_444 : pg_cd 331 444 = (5, 1, 0, 0, 0) := by decide +kernel
theorem c_331_445 : pg_cd 331 445 = (3, 1, 0, 3, 0) := by decide +kernel
theorem c_331_446 : pg_cd 331 446 = (1, 1, 0, 0, 4) := by decide +kernel
theorem c_331_447 : pg_cd 331 447 = (10, 1, 0, 0, 0) := by decide +kernel
theorem c_331_448 : pg_cd 331 448 = (50, 1, 0, 0, 0) := by decide +kernel
theorem c_331_449 : pg_cd 331 449 = (80, 211, 37, 0, 0) := by decide +kernel
theorem c_331_452 : pg_cd 331 452 = (37, 3, 0, 0, 1395) := by decide +kernel
theorem c_331_455 : pg_cd 331 455 = (1, 1, 0, 0, 0) := by decide +kernel
theorem c_331_456 : pg_cd 331 456 = (91, 0, 0, 0, 0) := by decide +kernel
theorem c_331_457 : pg_cd 331 457 = (5, 1, 0, 1, 0) := by decide +kernel
theorem c_331_458 : pg_cd 331 458 = (5, 1, 0, 0, 0) := by decide +kernel
theorem c_331_459 : pg_cd 331 459 = (3, 1, 0, 3, 0) := by decide +kernel
theorem c_331_460 : pg_cd 331 460 = (1, 1, 0, 0, 1) := by decide +kernel
theorem c_331_461 : pg_cd 331 461 = (10, 1, 0, 0, 0) := by decide +kernel
theorem c_331_462 : pg_cd 331 462 = (50, 1, 0, 0, 0) := by decide +kernel
theorem c_331_463 : pg_cd 331 463 = (5, 1, 0, 0, 0) := by decide +kernel
theorem c_331_464 : pg_cd 331 464 = (3, 1, 0, 3, 0) := by decide +kernel
theorem c_331_465 : pg_cd 331 465 = (1, 1, 0, 0, 2) := by decide +kernel
theorem c_331_466 : pg_cd 331 466 = (10, 1, 0, 0, 0) := by decide +kernel
theorem c_331_467 : pg_cd 331 467 = (50, 1, 0, 0, 0) := by decide +kernel
theorem c_331_468 : pg_cd 331 468 = (5, 1, 0, 0, 0) := by decide +kernel
theorem c_331_469 : pg_cd 331 469 = (3, 1, 0, 3, 0) := by decide +kernel
theorem c_331_470 : pg_cd 331 470 = (1, 1, 0, 0, 3) := by decide +kernel
theorem c_331_471 : pg_cd 331 471 = (10, 1, 0, 0, 0) := by decide +kernel
theorem c_331_472 : pg_cd 331 472 = (50, 1, 0, 0, 0) := by decide +kernel
theorem c_331_473 : pg_cd 331 473 = (80, 150, 38, 0, 0) := by decide +kernel
theorem c_331_476 : pg_cd 331 476 = (5, 1, 0, 2, 0) := by decide +kernel
theorem c_331_477 : pg_cd 331 477 = (5, 1, 0, 0, 0) := by decide +kernel
theorem c_331_478 : pg_cd 331 478 = (3, 1, 0, 3, 0) := by decide +kernel
theorem c_331_479 : pg_cd 331 479 = (1, 1, 0, 0, 1) := by decide +kernel
theorem c_331_480 : pg_cd 331 480 = (10, 1, 0, 0, 0) := by decide +kernel
theorem c_331_481 : pg_cd 331 481 = (50, 1, 0, 0, 0) := by decide +kernel
theorem c_331_482 : pg_cd 331 482 = (5, 1, 0, 0, 0) := by decide +kernel
theorem c_331_483 : pg_cd 331 483 = (3, 1, 0, 3, 0) := by decide +kernel
theorem c_331_484 : pg_cd 331 484 = (1, 1, 0, 0, 2) := by decide +kernel
theorem c_331_485 : pg_cd 331 485 = (10, 1, 0, 0, 0) := by decide +kernel
theorem c_331_486 : pg_cd 331 486 = (50, 1, 0, 0, 0) := by decide +kernel
theorem c_331_487 : pg_cd 331 487 = (5, 1, 0, 0, 0) := by decide +kernel
theorem c_331_488 : pg_cd 331 488 = (3, 1, 0, 3, 0) := by decide +kernel
theorem c_331_489 : pg_cd 331 489 = (1, 1, 0, 0, 3) := by decide +kernel
theorem c_331_490 : pg_cd 331 490 = (10, 1, 0, 0, 0) := by decide +kernel
theorem c_331_491 : pg_cd 331 491 = (50, 1, 0, 0, 0) := by decide +kernel
theorem c_331_492 : pg_cd 331 492 = (80, 212, 42, 0, 0) := by decide +kernel
theorem c_331_495 : pg_cd 331 495 = (37, 3, 0, 0, 1352) := by decide +kernel
theorem c_331_498 : pg_cd 331 498 = (1, 1, 0, 0, 0) := by decide +kernel
theorem c_331_499 : pg_cd 331 499 = (91, 0, 0, 0, 0) := by decide +kernel
theorem c_331_500 : pg_cd 331 500 = (5, 1, 0, 1, 0) := by decide +kernel
theorem c_331_501 : pg_cd 331 501 = (5, 1, 0, 0, 0) := by decide +kernel
theorem c_331_502 : pg_cd 331 502 = (3, 1, 0, 3, 0) := by decide +kernel
theorem c_331_503 : pg_cd 331 503 = (1, 1, 0, 0, 1) := by decide +kernel
theorem c_331_504 : pg_cd 331 504 = (10, 1, 0, 0, 0) := by decide +kernel
theorem c_331_505 : pg_cd 331 505 = (50, 1, 0, 0, 0) := by decide +kernel
theorem c_331_506 : pg_cd 331 506 = (5, 1, 0, 0, 0) := by decide +kernel
theorem c_331_507 : pg_cd 331 507 = (3, 1, 0, 3, 0) := by decide +kernel
theorem c_331_508 : pg_cd 331 508 = (1, 1, 0, 0, 2) := by decide +kernel
theorem c_331_509 : pg_cd 331 509 = (10, 1, 0, 0, 0) := by decide +kernel
theorem c_331_510 : pg_cd 331 510 = (50, 1, 0, 0, 0) := by decide +kernel
theorem c_331_511 : pg_cd 331 511 = (80, 151, 43, 0, 0) := by decide +kernel
theorem c_331_514 : pg_cd 331 514 = (5, 1, 0, 2, 0) := by decide +kernel
theorem c_331_515 : pg_cd 331 515 = (5, 1, 0, 0, 0) := by decide +kernel
theorem c_331_516 : pg_cd 331 516 = (3, 1, 0, 3, 0) := by decide +kernel
theorem c_331_517 : pg_cd 331 517 = (1, 1, 0, 0, 1) := by decide +kernel
theorem c_331_518 : pg_cd 331 518 = (10, 1, 0, 0, 0) := by decide +kernel
theorem c_331_519 : pg_cd 331 519 = (50, 1, 0, 0, 0) := by decide +kernel
theorem c_331_520 : pg_cd 331 520 = (5, 1, 0, 0, 0) := by decide +kernel
theorem c_331_521 : pg_cd 331 521 = (3, 1, 0, 3, 0) := by decide +kernel
theorem c_331_522 : pg_cd 331 522 = (1, 1, 0, 0, 2) := by decide +kernel
theorem c_331_523 : pg_cd 331 523 = (10, 1, 0, 0, 0) := by decide +kernel
theorem c_331_524 : pg_cd 331 524 = (50, 1, 0, 0, 0) := by decide +kernel
theorem c_331_525 : pg_cd 331 525 = (80, 213, 46, 0, 0) := by decide +kernel
theorem c_331_528 : pg_cd 331 528 = (37, 3, 0, 0, 1319) := by decide +kernel
theorem c_331_531 : pg_cd 331 531 = (1, 1, 0, 0, 0) := by decide +kernel
theorem c_331_532 : pg_cd 331 532 = (91, 0, 0, 0, 0) := by decide +kernel
theorem c_331_533 : pg_cd 331 533 = (5, 1, 0, 1, 0) := by decide +kernel
theorem c_331_534 : pg_cd 331 534 = (5, 1, 0, 0, 0) := by decide +kernel
theorem c_331_535 : pg_cd 331 535 = (3, 1, 0, 3, 0) := by decide +kernel
theorem c_331_536 : pg_cd 331 536 = (1, 1, 0, 0, 1) := by decide +kernel
theorem c_331_537 : pg_cd 331 537 = (10, 1, 0, 0, 0) := by decide +kernel
theorem c_331_538 : pg_cd 331 538 = (50, 1, 0, 0, 0) := by decide +kernel
theorem c_331_539 : pg_cd 331 539 = (5, 1, 0, 0, 0) := by decide +kernel
theorem c_331_540 : pg_cd 331 540 = (3, 1, 0, 3, 0) := by decide +kernel
theorem c_331_541 : pg_cd 331 541 = (1, 1, 0, 0, 2) := by decide +kernel
theorem c_331_542 : pg_cd 331 542 = (10, 1, 0, 0, 0) := by decide +kernel
theorem c_331_543 : pg_cd 331 543 = (50, 1, 0, 0, 0) := by decide +kernel
theorem c_331_544 : pg_cd 331 544 = (5, 1, 0, 0, 0) := by decide +kernel
theorem c_331_545 : pg_cd 331 545 = (3, 1, 0, 3, 0) := by decide +kernel
theorem c_331_546 : pg_cd 331 546 = (1, 1, 0, 0, 3) := by decide +kernel
theorem c_331_547 : pg_cd 331 547 = (10, 1, 0, 0, 0) := by decide +kernel
theorem c_331_548 : pg_cd 331 548 = (50, 1, 0, 0, 0) := by decide +kernel
theorem c_331_549 : pg_cd 331 549 = (80, 152, 47, 0, 0) := by decide +kernel
theorem c_331_552 : pg_cd 331 552 = (5, 1, 0, 2, 0) := by decide +kernel
theorem c_331_553 : pg_cd 331 553 = (5, 1, 0, 0, 0) := by decide +kernel
theorem c_331_554 : pg_cd 331 554 = (3, 1, 0, 3, 0) := by decide +kernel
theorem c_331_555 : pg_cd 331 555 = (1, 1, 0, 0, 1) := by decide +kernel
theorem c_331_556 : pg_cd 331 556 = (10, 1, 0, 0, 0) := by decide +kernel
theorem c_331_557 : pg_cd 331 557 = (50, 1, 0, 0, 0) := by decide +kernel
theorem c_331_558 : pg_cd 331 558 = (5, 1, 0, 0, 0) := by decide +kernel
theorem c_331_559 : pg_cd 331 559 = (3, 1, 0, 3, 0) := by decide +kernel
theorem c_331_560 : pg_cd 331 560 = (1, 1, 0, 0, 2) := by decide +kernel
theorem c_331_561 : pg_cd 331 561 = (10, 1, 0, 0, 0) := by decide +kernel
theorem c_331_562 : pg_cd 331 562 = (50, 1, 0, 0, 0) := by decide +kernel
theorem c_331_563 : pg_cd 331 563 = (5, 1, 0, 0, 0) := by decide +kernel
theorem c_331_564 : pg_cd 331 564 = (3, 1, 0, 3, 0) := by decide +kernel
theorem c_331_565 : pg_cd 331 565 = (1, 1, 0, 0, 3) := by decide +kernel
theorem c_331_566 : pg_cd 331 566 = (10, 1, 0, 0, 0) := by decide +kernel
theorem c_331_567 : pg_cd 331 567 = (50, 1, 0, 0, 0) := by decide +kernel
theorem c_331_568 : pg_cd 331 568 = (80, 214, 50, 0, 0) := by decide +kernel
theorem c_331_571 : pg_cd 331 571 = (37, 3, 0, 0, 1276) := by decide +kernel
theorem c_331_574 : pg_cd 331 574 = (1, 1, 0, 0, 0) := by decide +kernel
theorem c_331_575 : pg_cd 331 575 = (91, 0, 0, 0, 0) := by decide +kernel
theorem c_331_576 : pg_cd 331 576 = (5, 1, 0, 1, 0) := by decide +kernel
theorem c_331_577 : pg_cd 331 577 = (5, 1, 0, 0, 0) := by decide +kernel
theorem c_331_578 : pg_cd 331 578 = (3, 1, 0, 3, 0) := by decide +kernel
theorem c_331_579 : pg_cd 331 579 = (1, 1, 0, 0, 1) := by decide +kernel
theorem c_331_580 : pg_cd 331 580 = (10, 1, 0, 0, 0) := by decide +kernel
theorem c_331_581 : pg_cd 331 581 = (50, 1, 0, 0, 0) := by decide +kernel
theorem c_331_582 : pg_cd 331 582 = (5, 1, 0, 0, 0) := by decide +kernel
theorem c_331_583 : pg_cd 331 583 = (3, 1, 0, 3, 0) := by decide +kernel
theorem c_331_584 : pg_cd 331 584 = (1, 1, 0, 0, 2) := by decide +kernel
theorem c_331_585 : pg_cd 331 585 = (10, 1, 0, 0, 0) := by decide +kernel
theorem c_331_586 : pg_cd 331 586 = (50, 1, 0, 0, 0) := by decide +kernel
theorem c_331_587 : pg_cd 331 587 = (5, 1, 0, 0, 0) := by decide +kernel
theorem c_331_588 : pg_cd 331 588 = (3, 1, 0, 3, 0) := by decide +kernel
theorem c_331_589 : pg_cd 331 589 = (1, 1, 0, 0, 3) := by decide +kernel
theorem c_331_590 : pg_cd 331 590 = (10, 1, 0, 0, 0) := by decide +kernel
theorem c_331_591 : pg_cd 331 591 = (50, 1, 0, 0, 0) := by decide +kernel
theorem c_331_592 : pg_cd 331 592 = (5, 1, 0, 0, 0) := by decide +kernel
theorem c_331_593 : pg_cd 331 593 = (3, 1, 0, 3, 0) := by decide +kernel
theorem c_331_594 : pg_cd 331 594 = (1, 1, 0, 0, 4) := by decide +kernel
theorem c_331_595 : pg_cd 331 595 = (10, 1, 0, 0, 0) := by decide +kernel
theorem c_331_596 : pg_cd 331 596 = (50, 1, 0, 0, 0) := by decide +kernel
theorem c_331_597 : pg_cd 331 597 = (80, 153, 51, 0, 0) := by decide +kernel
theorem c_331_600 : pg_cd 331 600 = (5, 1, 0, 2, 0) := by decide +kernel
theorem c_331_601 : pg_cd 331 601 = (5, 1, 0, 0, 0) := by decide +kernel
theorem c_331_602 : pg_cd 331 602 = (3, 1, 0, 3, 0) := by decide +kernel
theorem c_331_603 : pg_cd 331 603 = (1, 1, 0, 0, 1) := by decide +kernel
theorem c_331_604 : pg_cd 331 604 = (10, 1, 0, 0, 0) := by decide +kernel
theorem c_331_605 : pg_cd 331 605 = (50, 1, 0, 0, 0) := by decide +kernel
theorem c_331_606 : pg_cd 331 606 = (5, 1, 0, 0, 0) := by decide +kernel
theorem c_331_607 : pg_cd 331 607 = (3, 1, 0, 3, 0) := by decide +kernel
theorem c_331_608 : pg_cd 331 608 = (1, 1, 0, 0, 2) := by decide +kernel
theorem c_331_609 : pg_cd 331 609 = (10, 1, 0, 0, 0) := by decide +kernel
theorem c_331_610 : pg_cd 331 610 = (50, 1, 0, 0, 0) := by decide +kernel
theorem c_331_611 : pg_cd 331 611 = (5, 1, 0, 0, 0) := by decide +kernel
theorem c_331_612 : pg_cd 331 612 = (3, 1, 0, 3, 0) := by decide +kernel
theorem c_331_613 : pg_cd 331 613 = (1, 1, 0, 0, 3) := by decide +kernel
theorem c_331_614 : pg_cd 331 614 = (10, 1, 0, 0, 0) := by decide +kernel
theorem c_331_615 : pg_cd 331 615 = (50, 1, 0, 0, 0) := by decide +kernel
theorem c_331_616 : pg_cd 331 616 = (5, 1, 0, 0, 0) := by decide +kernel
theorem c_331_617 : pg_cd 331 617 = (3, 1, 0, 3, 0) := by decide +kernel
theorem c_331_618 : pg_cd 331 618 = (1, 1, 0, 0, 4) := by decide +kernel
theorem c_331_619 : pg_cd 331 619 = (10, 1, 0, 0, 0) := by decide +kernel
theorem c_331_620 : pg_cd 331 620 = (50, 1, 0, 0, 0) := by decide +kernel
theorem c_331_621 : pg_cd 331 621 = (80, 218, 55, 0, 0) := by decide +kernel
theorem c_331_624 : pg_cd 331 624 = (37, 3, 0, 0, 1223) := by decide +kernel
theorem c_331_627 : pg_cd 331 627 = (1, 1, 0, 0, 0) := by decide +kernel
theorem c_331_628 : pg_cd 331 628 = (91, 0, 0, 0, 0) := by decide +kernel
theorem c_331_629 : pg_cd 331 629 = (5, 1, 0, 1, 0) := by decide +kernel
theorem c_331_630 : pg_cd 331 630 = (5, 1, 0, 0, 0) := by decide +kernel
theorem c_331_631 : pg_cd 331 631 = (3, 1, 0, 3, 0) := by decide +kernel
theorem c_331_632 : pg_cd 331 632 = (1, 1, 0, 0, 1) := by decide +kernel
theorem c_331_633 : pg_cd 331 633 = (10, 1, 0, 0, 0) := by decide +kernel
theorem c_331_634 : pg_cd 331 634 = (50, 1, 0, 0, 0) := by decide +kernel
theorem c_331_635 : pg_cd 331 635 = (5, 1, 0, 0, 0) := by decide +kernel
theorem c_331_636 : pg_cd 331 636 = (3, 1, 0, 3, 0) := by decide +kernel
theorem c_331_637 : pg_cd 331 637 = (1, 1, 0, 0, 2) := by decide +kernel
theorem c_331_638 : pg_cd 331 638 = (10, 1, 0, 0, 0) := by decide +kernel
theorem c_331_639 : pg_cd 331 639 = (50, 1, 0, 0, 0) := by decide +kernel
theorem c_331_640 : pg_cd 331 640 = (5, 1, 0, 0, 0) := by decide +kernel
theorem c_331_641 : pg_cd 331 641 = (3, 1, 0, 3, 0) := by decide +kernel
theorem c_331_642 : pg_cd 331 642 = (1, 1, 0, 0, 3) := by decide +kernel
theorem c_331_643 : pg_cd 331 643 = (10, 1, 0, 0, 0) := by decide +kernel
theorem c_331_644 : pg_cd 331 644 = (50, 1, 0, 0, 0) := by decide +kernel
theorem c_331_645 : pg_cd 331 645 = (5, 1, 0, 0, 0) := by decide +kernel
theorem c_331_646 : pg_cd 331 646 = (3, 1, 0, 3, 0) := by decide +kernel
theorem c_331_647 : pg_cd 331 647 = (1, 1, 0, 0, 4) := by decide +kernel
theorem c_331_648 : pg_cd 331 648 = (10, 1, 0, 0, 0) := by decide +kernel
theorem c_331_649 : pg_cd 331 649 = (50, 1, 0, 0, 0) := by decide +kernel
theorem c_331_650 : pg_cd 331 650 = (5, 1, 0, 0, 0) := by decide +kernel
theorem c_331_651 : pg_cd 331 651 = (3, 1, 0, 3, 0) := by decide +kernel
theorem c_331_652 : pg_cd 331 652 = (1, 1, 0, 0, 5) := by decide +kernel
theorem c_331_653 : pg_cd 331 653 = (10, 1, 0, 0, 0) := by decide +kernel
theorem c_331_654 : pg_cd 331 654 = (50, 1, 0, 0, 0) := by decide +kernel
theorem c_331_655 : pg_cd 331 655 = (80, 156, 56, 0, 0) := by decide +kernel
theorem c_331_658 : pg_cd 331 658 = (5, 1, 0, 2, 0) := by decide +kernel
theorem c_331_659 : pg_cd 331 659 = (5, 1, 0, 0, 0) := by decide +kernel
theorem c_331_660 : pg_cd 331 660 = (3, 1, 0, 3, 0) := by decide +kernel
theorem c_331_661 : pg_cd 331 661 = (1, 1, 0, 0, 1) := by decide +kernel
theorem c_331_662 : pg_cd 331 662 = (10, 1, 0, 0, 0) := by decide +kernel
theorem c_331_663 : pg_cd 331 663 = (50, 1, 0, 0, 0) := by decide +kernel
theorem c_331_664 : pg_cd 331 664 = (5, 1, 0, 0, 0) := by decide +kernel
theorem c_331_665 : pg_cd 331 665 = (3, 1, 0, 3, 0) := by decide +kernel
theorem c_331_666 : pg_cd 331 666 = (1, 1, 0, 0, 2) := by decide +kernel
theorem c_331_667 : pg_cd 331 667 = (10, 1, 0, 0, 0) := by decide +kernel
theorem c_331_668 : pg_cd 331 668 = (50, 1, 0, 0, 0) := by decide +kernel
theorem c_331_669 : pg_cd 331 669 = (5, 1, 0, 0, 0) := by decide +kernel
theorem c_331_670 : pg_cd 331 670 = (3, 1, 0, 3, 0) := by decide +kernel
theorem c_331_671 : pg_cd 331 671 = (1, 1, 0, 0, 3) := by decide +kernel
theorem c_331_672 : pg_cd 331 672 = (10, 1, 0, 0, 0) := by decide +kernel
theorem c_331_673 : pg_cd 331 673 = (50, 1, 0, 0, 0) := by decide +kernel
theorem c_331_674 : pg_cd 331 674 = (5, 1, 0, 0, 0) := by decide +kernel
theorem c_331_675 : pg_cd 331 675 = (3, 1, 0, 3, 0) := by decide +kernel
theorem c_331_676 : pg_cd 331 676 = (1, 1, 0, 0, 4) := by decide +kernel
theorem c_331_677 : pg_cd 331 677 = (10, 1, 0, 0, 0) := by decide +kernel
theorem c_331_678 : pg_cd 331 678 = (50, 1, 0, 0, 0) := by decide +kernel
theorem c_331_679 : pg_cd 331 679 = (5, 1, 0, 0, 0) := by decide +kernel
theorem c_331_680 : pg_cd 331 680 = (3, 1, 0, 3, 0) := by decide +kernel
theorem c_331_681 : pg_cd 331 681 = (1, 1, 0, 0, 5) := by decide +kernel
theorem c_331_682 : pg_cd 331 682 = (10, 1, 0, 0, 0) := by decide +kernel
theorem c_331_683 : pg_cd 331 683 = (50, 1, 0, 0, 0) := by decide +kernel
theorem c_331_684 : pg_cd 331 684 = (80, 226, 60, 0, 0) := by decide +kernel
theorem c_331_687 : pg_cd 331 687 = (37, 3, 0, 0, 1160) := by decide +kernel
theorem c_331_690 : pg_cd 331 690 = (1, 1, 0, 0, 0) := by decide +kernel
theorem c_331_691 : pg_cd 331 691 = (91, 0, 0, 0, 0) := by decide +kernel
theorem c_331_692 : pg_cd 331 692 = (5, 1, 0, 1, 0) := by decide +kernel
theorem c_331_693 : pg_cd 331 693 = (5, 1, 0, 0, 0) := by decide +kernel
theorem c_331_694 : pg_cd 331 694 = (3, 1, 0, 3, 0) := by decide +kernel
theorem c_331_695 : pg_cd 331 695 = (1, 1, 0, 0, 1) := by decide +kernel
theorem c_331_696 : pg_cd 331 696 = (10, 1, 0, 0, 0) := by decide +kernel
theorem c_331_697 : pg_cd 331 697 = (50, 1, 0, 0, 0) := by decide +kernel
theorem c_331_698 : pg_cd 331 698 = (80, 158, 61, 0, 0) := by decide +kernel
theorem c_331_701 : pg_cd 331 701 = (5, 1, 0, 2, 0) := by decide +kernel
theorem c_331_702 : pg_cd 331 702 = (5, 1, 0, 0, 0) := by decide +kernel
theorem c_331_703 : pg_cd 331 703 = (3, 1, 0, 3, 0) := by decide +kernel
theorem c_331_704 : pg_cd 331 704 = (1, 1, 0, 0, 1) := by decide +kernel
theorem c_331_705 : pg_cd 331 705 = (10, 1, 0, 0, 0) := by decide +kernel
theorem c_331_706 : pg_cd 331 706 = (50, 1, 0, 0, 0) := by decide +kernel
theorem c_331_707 : pg_cd 331 707 = (80, 227, 65, 0, 0) := by decide +kernel
theorem c_331_710 : pg_cd 331 710 = (37, 3, 0, 0, 1137) := by decide +kernel
theorem c_331_713 : pg_cd 331 713 = (1, 1, 0, 0, 0) := by decide +kernel
theorem c_331_714 : pg_cd 331 714 = (91, 0, 0, 0, 0) := by decide +kernel
theorem c_331_715 : pg_cd 331 715 = (5, 1, 0, 1, 0) := by decide +kernel
theorem c_331_716 : pg_cd 331 716 = (80, 159, 66, 0, 0) := by decide +kernel
theorem c_331_719 : pg_cd 331 719 = (5, 1, 0, 2, 0) := by decide +kernel
theorem c_331_720 : pg_cd 331 720 = (80, 259, 70, 0, 0) := by decide +kernel
theorem c_331_723 : pg_cd 331 723 = (37, 3, 0, 0, 1124) := by decide +kernel
theorem c_331_726 : pg_cd 331 726 = (1, 1, 0, 0, 0) := by decide +kernel
theorem c_331_727 : pg_cd 331 727 = (91, 0, 0, 0, 0) := by decide +kernel
theorem c_331_728 : pg_cd 331 728 = (5, 1, 0, 1, 0) := by decide +kernel
theorem c_331_729 : pg_cd 331 729 = (5, 1, 0, 0, 0) := by decide +kernel
theorem c_331_730 : pg_cd 331 730 = (3, 1, 0, 3, 0) := by decide +kernel
theorem c_331_731 : pg_cd 331 731 = (1, 1, 0, 0, 1) := by decide +kernel
theorem c_331_732 : pg_cd 331 732 = (10, 1, 0, 0, 0) := by decide +kernel
theorem c_331_733 : pg_cd 331 733 = (50, 1, 0, 0, 0) := by decide +kernel
theorem c_331_734 : pg_cd 331 734 = (80, 160, 71, 0, 0) := by decide +kernel
theorem c_331_737 : pg_cd 331 737 = (5, 1, 0, 2, 0) := by decide +kernel
theorem c_331_738 : pg_cd 331 738 = (5, 1, 0, 0, 0) := by decide +kernel
theorem c_331_739 : pg_cd 331 739 = (3, 1, 0, 3, 0) := by decide +kernel
theorem c_331_740 : pg_cd 331 740 = (1, 1, 0, 0, 1) := by decide +kernel
theorem c_331_741 : pg_cd 331 741 = (10, 1, 0, 0, 0) := by decide +kernel
theorem c_331_742 : pg_cd 331 742 = (50, 1, 0, 0, 0) := by decide +kernel
theorem c_331_743 : pg_cd 331 743 = (80, 260, 74, 0, 0) := by decide +kernel
theorem c_331_746 : pg_cd 331 746 = (37, 3, 0, 0, 1101) := by decide +kernel
theorem c_331_749 : pg_cd 331 749 = (1, 1, 0, 0, 0) := by decide +kernel
theorem c_331_750 : pg_cd 331 750 = (91, 0, 0, 0, 0) := by decide +kernel
theorem c_331_751 : pg_cd 331 751 = (5, 1, 0, 1, 0) := by decide +kernel
theorem c_331_752 : pg_cd 331 752 = (5, 1, 0, 0, 0) := by decide +kernel
theorem c_331_753 : pg_cd 331 753 = (3, 1, 0, 3, 0) := by decide +kernel
theorem c_331_754 : pg_cd 331 754 = (1, 1, 0, 0, 1) := by decide +kernel
theorem c_331_755 : pg_cd 331 755 = (10, 1, 0, 0, 0) := by decide +kernel
theorem c_331_756 : pg_cd 331 756 = (50, 1, 0, 0, 0) := by decide +kernel
theorem c_331_757 : pg_cd 331 757 = (5, 1, 0, 0, 0) := by decide +kernel
theorem c_331_758 : pg_cd 331 758 = (3, 1, 0, 3, 0) := by decide +kernel
theorem c_331_759 : pg_cd 331 759 = (1, 1, 0, 0, 2) := by decide +kernel
theorem c_331_760 : pg_cd 331 760 = (10, 1, 0, 0, 0) := by decide +kernel
theorem c_331_761 : pg_cd 331 761 = (50, 1, 0, 0, 0) := by decide +kernel
theorem c_331_762 : pg_cd 331 762 = (5, 1, 0, 0, 0) := by decide +kernel
theorem c_331_763 : pg_cd 331 763 = (3, 1, 0, 3, 0) := by decide +kernel
theorem c_331_764 : pg_cd 331 764 = (1, 1, 0, 0, 3) := by decide +kernel
theorem c_331_765 : pg_cd 331 765 = (10, 1, 0, 0, 0) := by decide +kernel
theorem c_331_766 : pg_cd 331 766 = (50, 1, 0, 0, 0) := by decide +kernel
theorem c_331_767 : pg_cd 331 767 = (5, 1, 0, 0, 0) := by decide +kernel
theorem c_331_768 : pg_cd 331 768 = (3, 1, 0, 3, 0) := by decide +kernel
theorem c_331_769 : pg_cd 331 769 = (1, 1, 0, 0, 4) := by decide +kernel
theorem c_331_770 : pg_cd 331 770 = (10, 1, 0, 0, 0) := by decide +kernel
theorem c_331_771 : pg_cd 331 771 = (50, 1, 0, 0, 0) := by decide +kernel
theorem c_331_772 : pg_cd 331 772 = (80, 161, 75, 0, 0) := by decide +kernel
theorem c_331_775 : pg_cd 331 775 = (5, 1, 0, 2, 0) := by decide +kernel
theorem c_331_776 : pg_cd 331 776 = (5, 1, 0, 0, 0) := by decide +kernel
theorem c_331_777 : pg_cd 331 777 = (3, 1, 0, 3, 0) := by decide +kernel
theorem c_331_778 : pg_cd 331 778 = (1, 1, 0, 0, 1) := by decide +kernel
theorem c_331_779 : pg_cd 331 779 = (10, 1, 0, 0, 0) := by decide +kernel
theorem c_331_780 : pg_cd 331 780 = (50, 1, 0, 0, 0) := by decide +kernel
theorem c_331_781 : pg_cd 331 781 = (5, 1, 0, 0, 0) := by decide +kernel
theorem c_331_782 : pg_cd 331 782 = (3, 1, 0, 3, 0) := by decide +kernel
theorem c_331_783 : pg_cd 331 783 = (1, 1, 0, 0, 2) := by decide +kernel
theorem c_331_784 : pg_cd 331 784 = (10, 1, 0, 0, 0) := by decide +kernel
theorem c_331_785 : pg_cd 331 785 = (50, 1, 0, 0, 0) := by decide +kernel
theorem c_331_786 : pg_cd 331 786 = (5, 1, 0, 0, 0) := by decide +kernel
theorem c_331_787 : pg_cd 331 787 = (3, 1, 0, 3, 0) := by decide +kernel
theorem c_331_788 : pg_cd 331 788 = (1, 1, 0, 0, 3) := by decide +kernel
theorem c_331_789 : pg_cd 331 789 = (10, 1, 0, 0, 0) := by decide +kernel
theorem c_331_790 : pg_cd 331 790 = (50, 1, 0, 0, 0) := by decide +kernel
theorem c_331_791 : pg_cd 331 791 = (5, 1, 0, 0, 0) := by decide +kernel
theorem c_331_792 : pg_cd 331 792 = (3, 1, 0, 3, 0) := by decide +kernel
theorem c_331_793 : pg_cd 331 793 = (1, 1, 0, 0, 4) := by decide +kernel
theorem c_331_794 : pg_cd 331 794 = (10, 1, 0, 0, 0) := by decide +kernel
theorem c_331_795 : pg_cd 331 795 = (50, 1, 0, 0, 0) := by decide +kernel
theorem c_331_796 : pg_cd 331 796 = (80, 219, 78, 0, 0) := by decide +kernel
theorem c_331_799 : pg_cd 331 799 = (37, 3, 0, 0, 1048) := by decide +kernel
theorem c_331_802 : pg_cd 331 802 = (1, 1, 0, 0, 0) := by decide +kernel
theorem c_331_803 : pg_cd 331 803 = (91, 0, 0, 0, 0) := by decide +kernel
theorem c_331_804 : pg_cd 331 804 = (5, 1, 0, 1, 0) := by decide +kernel
theorem c_331_805 : pg_cd 331 805 = (5, 1, 0, 0, 0) := by decide +kernel
theorem c_331_806 : pg_cd 331 806 = (3, 1, 0, 3, 0) := by decide +kernel
theorem c_331_807 : pg_cd 331 807 = (1, 1, 0, 0, 1) := by decide +kernel
theorem c_331_808 : pg_cd 331 808 = (10, 1, 0, 0, 0) := by decide +kernel
theorem c_331_809 : pg_cd 331 809 = (50, 1, 0, 0, 0) := by decide +kernel
theorem c_331_810 : pg_cd 331 810 = (5, 1, 0, 0, 0) := by decide +kernel
theorem c_331_811 : pg_cd 331 811 = (3, 1, 0, 3, 0) := by decide +kernel
theorem c_331_812 : pg_cd 331 812 = (1, 1, 0, 0, 2) := by decide +kernel
theorem c_331_813 : pg_cd 331 813 = (10, 1, 0, 0, 0) := by decide +kernel
theorem c_331_814 : pg_cd 331 814 = (50, 1, 0, 0, 0) := by decide +kernel
theorem c_331_815 : pg_cd 331 815 = (5, 1, 0, 0, 0) := by decide +kernel
theorem c_331_816 : pg_cd 331 816 = (3, 1, 0, 3, 0) := by decide +kernel
theorem c_331_817 : pg_cd 331 817 = (1, 1, 0, 0, 3) := by decide +kernel
theorem c_331_818 : pg_cd 331 818 = (10, 1, 0, 0, 0) := by decide +kernel
theorem c_331_819 : pg_cd 331 819 = (50, 1, 0, 0, 0) := by decide +kernel
theorem c_331_820 : pg_cd 331 820 = (5, 1, 0, 0, 0) := by decide +kernel
theorem c_331_821 : pg_cd 331 821 = (3, 1, 0, 3, 0) := by decide +kernel
theorem c_331_822 : pg_cd 331 822 = (1, 1, 0, 0, 4) := by decide +kernel
theorem c_331_823 : pg_cd 331 823 = (10, 1, 0, 0, 0) := by decide +kernel
theorem c_331_824 : pg_cd 331 824 = (50, 1, 0, 0, 0) := by decide +kernel
theorem c_331_825 : pg_cd 331 825 = (80, 163, 79, 0, 0) := by decide +kernel
theorem c_331_828 : pg_cd 331 828 = (5, 1, 0, 2, 0) := by decide +kernel
theorem c_331_829 : pg_cd 331 829 = (5, 1, 0, 0, 0) := by decide +kernel
theorem c_331_830 : pg_cd 331 830 = (3, 1, 0, 3, 0) := by decide +kernel
theorem c_331_831 : pg_cd 331 831 = (1, 1, 0, 0, 1) := by decide +kernel
theorem c_331_832 : pg_cd 331 832 = (10, 1, 0, 0, 0) := by decide +kernel
theorem c_331_833 : pg_cd 331 833 = (50, 1, 0, 0, 0) := by decide +kernel
theorem c_331_834 : pg_cd 331 834 = (5, 1, 0, 0, 0) := by decide +kernel
theorem c_331_835 : pg_cd 331 835 = (3, 1, 0, 3, 0) := by decide +kernel
theorem c_331_836 : pg_cd 331 836 = (1, 1, 0, 0, 2) := by decide +kernel
theorem c_331_837 : pg_cd 331 837 = (10, 1, 0, 0, 0) := by decide +kernel
theorem c_331_838 : pg_cd 331 838 = (50, 1, 0, 0, 0) := by decide +kernel
theorem c_331_839 : pg_cd 331 839 = (5, 1, 0, 0, 0) := by decide +kernel
theorem c_331_840 : pg_cd 331 840 = (3, 1, 0, 3, 0) := by decide +kernel
theorem c_331_841 : pg_cd 331 841 = (1, 1, 0, 0, 3) := by decide +kernel
theorem c_331_842 : pg_cd 331 842 = (10, 1, 0, 0, 0) := by decide +kernel
theorem c_331_843 : pg_cd 331 843 = (50, 1, 0, 0, 0) := by decide +kernel
theorem c_331_844 : pg_cd 331 844 = (5, 1, 0, 0, 0) := by decide +kernel
theorem c_331_845 : pg_cd 331 845 = (3, 1, 0, 3, 0) := by decide +kernel
theorem c_331_846 : pg_cd 331 846 = (1, 1, 0, 0, 4) := by decide +kernel
theorem c_331_847 : pg_cd 331 847 = (10, 1, 0, 0, 0) := by decide +kernel
theorem c_331_848 : pg_cd 331 848 = (50, 1, 0, 0, 0) := by decide +kernel
theorem c_331_849 : pg_cd 331 849 = (80, 273, 82, 0, 0) := by decide +kernel
theorem c_331_852 : pg_cd 331 852 = (37, 3, 0, 0, 995) := by decide +kernel
theorem c_331_855 : pg_cd 331 855 = (1, 1, 0, 0, 0) := by decide +kernel
theorem c_331_856 : pg_cd 331 856 = (91, 0, 0, 0, 0) := by decide +kernel
theorem c_331_857 : pg_cd 331 857 = (5, 1, 0, 1, 0) := by decide +kernel
theorem c_331_858 : pg_cd 331 858 = (5, 1, 0, 0, 0) := by decide +kernel
theorem c_331_859 : pg_cd 331 859 = (3, 1, 0, 3, 0) := by decide +kernel
theorem c_331_860 : pg_cd 331 860 = (1, 1, 0, 0, 1) := by decide +kernel
theorem c_331_861 : pg_cd 331 861 = (10, 1, 0, 0, 0) := by decide +kernel
theorem c_331_862 : pg_cd 331 862 = (50, 1, 0, 0, 0) := by decide +kernel
theorem c_331_863 : pg_cd 331 863 = (5, 1, 0, 0, 0) := by decide +kernel
theorem c_331_864 : pg_cd 331 864 = (3, 1, 0, 3, 0) := by decide +kernel
theorem c_331_865 : pg_cd 331 865 = (1, 1, 0, 0, 2) := by decide +kernel
theorem c_331_866 : pg_cd 331 866 = (10, 1, 0, 0, 0) := by decide +kernel
theorem c_331_867 : pg_cd 331 867 = (50, 1, 0, 0, 0) := by decide +kernel
theorem c_331_868 : pg_cd 331 868 = (5, 1, 0, 0, 0) := by decide +kernel
theorem c_331_869 : pg_cd 331 869 = (3, 1, 0, 3, 0) := by decide +kernel
theorem c_331_870 : pg_cd 331 870 = (1, 1, 0, 0, 3) := by decide +kernel
theorem c_331_871 : pg_cd 331 871 = (10, 1, 0, 0, 0) := by decide +kernel
theorem c_331_872 : pg_cd 331 872 = (50, 1, 0, 0, 0) := by decide +kernel
theorem c_331_873 : pg_cd 331 873 = (5, 1, 0, 0, 0) := by decide +kernel
theorem c_331_874 : pg_cd 331 874 = (3, 1, 0, 3, 0) := by decide +kernel
theorem c_331_875 : pg_cd 331 875 = (1, 1, 0, 0, 4) := by decide +kernel
theorem c_331_876 : pg_cd 331 876 = (10, 1, 0, 0, 0) := by decide +kernel
theorem c_331_877 : pg_cd 331 877 = (50, 1, 0, 0, 0) := by decide +kernel
theorem c_331_878 : pg_cd 331 878 = (5, 1, 0, 0, 0) := by decide +kernel
theorem c_331_879 : pg_cd 331 879 = (3, 1, 0, 3, 0) := by decide +kernel
theorem c_331_880 : pg_cd 331 880 = (1, 1, 0, 0, 5) := by decide +kernel
theorem c_331_881 : pg_cd 331 881 = (10, 1, 0, 0, 0) := by decide +kernel
theorem c_331_882 : pg_cd 331 882 = (50, 1, 0, 0, 0) := by decide +kernel
theorem c_331_883 : pg_cd 331 883 = (80, 164, 83, 0, 0) := by decide +kernel
theorem c_331_886 : pg_cd 331 886 = (5, 1, 0, 2, 0) := by decide +kernel
theorem c_331_887 : pg_cd 331 887 = (5, 1, 0, 0, 0) := by decide +kernel
theorem c_331_888 : pg_cd 331 888 = (3, 1, 0, 3, 0) := by decide +kernel
theorem c_331_889 : pg_cd 331 889 = (1, 1, 0, 0, 1) := by decide +kernel
theorem c_331_890 : pg_cd 331 890 = (10, 1, 0, 0, 0) := by decide +kernel
theorem c_331_891 : pg_cd 331 891 = (50, 1, 0, 0, 0) := by decide +kernel
theorem c_331_892 : pg_cd 331 892 = (5, 1, 0, 0, 0) := by decide +kernel
theorem c_331_893 : pg_cd 331 893 = (3, 1, 0, 3, 0) := by decide +kernel
theorem c_331_894 : pg_cd 331 894 = (1, 1, 0, 0, 2) := by decide +kernel
theorem c_331_895 : pg_cd 331 895 = (10, 1, 0, 0, 0) := by decide +kernel
theorem c_331_896 : pg_cd 331 896 = (50, 1, 0, 0, 0) := by decide +kernel
theorem c_331_897 : pg_cd 331 897 = (5, 1, 0, 0, 0) := by decide +kernel
theorem c_331_898 : pg_cd 331 898 = (3, 1, 0, 3, 0) := by decide +kernel
theorem c_331_899 : pg_cd 331 899 = (1, 1, 0, 0, 3) := by decide +kernel
theorem c_331_900 : pg_cd 331 900 = (10, 1, 0, 0, 0) := by decide +kernel
theorem c_331_901 : pg_cd 331 901 = (50, 1, 0, 0, 0) := by decide +kernel
theorem c_331_902 : pg_cd 331 902 = (5, 1, 0, 0, 0) := by decide +kernel
theorem c_331_903 : pg_cd 331 903 = (3, 1, 0, 3, 0) := by decide +kernel
theorem c_331_904 : pg_cd 331 904 = (1, 1, 0, 0, 4) := by decide +kernel
theorem c_331_905 : pg_cd 331 905 = (10, 1, 0, 0, 0) := by decide +kernel
theorem c_331_906 : pg_cd 331 906 = (50, 1, 0, 0, 0) := by decide +kernel
theorem c_331_907 : pg_cd 331 907 = (5, 1, 0, 0, 0) := by decide +kernel
theorem c_331_908 : pg_cd 331 908 = (3, 1, 0, 3, 0) := by decide +kernel
theorem c_331_909 : pg_cd 331 909 = (1, 1, 0, 0, 5) := by decide +kernel
theorem c_331_910 : pg_cd 331 910 = (10, 1, 0, 0, 0) := by decide +kernel
theorem c_331_911 : pg_cd 331 911 = (50, 1, 0, 0, 0) := by decide +kernel
theorem c_331_912 : pg_cd 331 912 = (80, 274, 86, 0, 0) := by decide +kernel
theorem c_331_915 : pg_cd 331 915 = (37, 3, 0, 0, 932) := by decide +kernel
theorem c_331_918 : pg_cd 331 918 = (1, 1, 0, 0, 0) := by decide +kernel
theorem c_331_919 : pg_cd 331 919 = (91, 0, 0, 0, 0) := by decide +kernel
theorem c_331_920 : pg_cd 331 920 = (5, 1, 0, 1, 0) := by decide +kernel
theorem c_331_921 : pg_cd 331 921 = (5, 1, 0, 0, 0) := by decide +kernel
theorem c_331_922 : pg_cd 331 922 = (3, 1, 0, 3, 0) := by decide +kernel
theorem c_331_923 : pg_cd 331 923 = (1, 1, 0, 0, 1) := by decide +kernel
theorem c_331_924 : pg_cd 331 924 = (10, 1, 0, 0, 0) := by decide +kernel
theorem c_331_925 : pg_cd 331 925 = (50, 1, 0, 0, 0) := by decide +kernel
theorem c_331_926 : pg_cd 331 926 = (5, 1, 0, 0, 0) := by decide +kernel
theorem c_331_927 : pg_cd 331 927 = (3, 1, 0, 3, 0) := by decide +kernel
theorem c_331_928 : pg_cd 331 928 = (1, 1, 0, 0, 2) := by decide +kernel
theorem c_331_929 : pg_cd 331 929 = (10, 1, 0, 0, 0) := by decide +kernel
theorem c_331_930 : pg_cd 331 930 = (50, 1, 0, 0, 0) := by decide +kernel
theorem c_331_931 : pg_cd 331 931 = (5, 1, 0, 0, 0) := by decide +kernel
theorem c_331_932 : pg_cd 331 932 = (3, 1, 0, 3, 0) := by decide +kernel
theorem c_331_933 : pg_cd 331 933 = (1, 1, 0, 0, 3) := by decide +kernel
theorem c_331_934 : pg_cd 331 934 = (10, 1, 0, 0, 0) := by decide +kernel
theorem c_331_935 : pg_cd 331 935 = (50, 1, 0, 0, 0) := by decide +kernel
theorem c_331_936 : pg_cd 331 936 = (5, 1, 0, 0, 0) := by decide +kernel
theorem c_331_937 : pg_cd 331 937 = (3, 1, 0, 3, 0) := by decide +kernel
theorem c_331_938 : pg_cd 331 938 = (1, 1, 0, 0, 4) := by decide +kernel
theorem c_331_939 : pg_cd 331 939 = (10, 1, 0, 0, 0) := by decide +kernel
theorem c_331_940 : pg_cd 331 940 = (50, 1, 0, 0, 0) := by decide +kernel
theorem c_331_941 : pg_cd 331 941 = (80, 165, 87, 0, 0) := by decide +kernel
theorem c_331_944 : pg_cd 331 944 = (5, 1, 0, 2, 0) := by decide +kernel
theorem c_331_945 : pg_cd 331 945 = (5, 1, 0, 0, 0) := by decide +kernel
theorem c_331_946 : pg_cd 331 946 = (3, 1, 0, 3, 0) := by decide +kernel
theorem c_331_947 : pg_cd 331 947 = (1, 1, 0, 0, 1) := by decide +kernel
theorem c_331_948 : pg_cd 331 948 = (10, 1, 0, 0, 0) := by decide +kernel
theorem c_331_949 : pg_cd 331 949 = (50, 1, 0, 0, 0) := by decide +kernel
theorem c_331_950 : pg_cd 331 950 = (5, 1, 0, 0, 0) := by decide +kernel
theorem c_331_951 : pg_cd 331 951 = (3, 1, 0, 3, 0) := by decide +kernel
theorem c_331_952 : pg_cd 331 952 = (1, 1, 0, 0, 2) := by decide +kernel
theorem c_331_953 : pg_cd 331 953 = (10, 1, 0, 0, 0) := by decide +kernel
theorem c_331_954 : pg_cd 331 954 = (50, 1, 0, 0, 0) := by decide +kernel
theorem c_331_955 : pg_cd 331 955 = (5, 1, 0, 0, 0) := by decide +kernel
theorem c_331_956 : pg_cd 331 956 = (3, 1, 0, 3, 0) := by decide +kernel
theorem c_331_957 : pg_cd 331 957 = (1, 1, 0, 0, 3) := by decide +kernel
theorem c_331_958 : pg_cd 331 958 = (10, 1, 0, 0, 0) := by decide +kernel
theorem c_331_959 : pg_cd 331 959 = (50, 1, 0, 0, 0) := by decide +kernel
theorem c_331_960 : pg_cd 331 960 = (5, 1, 0, 0, 0) := by decide +kernel
theorem c_331_961 : pg_cd 331 961 = (3, 1, 0, 3, 0) := by decide +kernel
theorem c_331_962 : pg_cd 331 962 = (1, 1, 0, 0, 4) := by decide +kernel
theorem c_331_963 : pg_cd 331 963 = (10, 1, 0, 0, 0) := by decide +kernel
theorem c_331_964 : pg_cd 331 964 = (50, 1, 0, 0, 0) := by decide +kernel
theorem c_331_965 : pg_cd 331 965 = (80, 277, 90, 0, 0) := by decide +kernel
theorem c_331_968 : pg_cd 331 968 = (37, 3, 0, 0, 879) := by decide +kernel
theorem c_331_971 : pg_cd 331 971 = (1, 1, 0, 0, 0) := by decide +kernel
theorem c_331_972 : pg_cd 331 972 = (91, 0, 0, 0, 0) := by decide +kernel
theorem c_331_973 : pg_cd 331 973 = (5, 1, 0, 1, 0) := by decide +kernel
theorem c_331_974 : pg_cd 331 974 = (5, 1, 0, 0, 0) := by decide +kernel
theorem c_331_975 : pg_cd 331 975 = (3, 1, 0, 3, 0) := by decide +kernel
theorem c_331_976 : pg_cd 331 976 = (1, 1, 0, 0, 1) := by decide +kernel
theorem c_331_977 : pg_cd 331 977 = (10, 1, 0, 0, 0) := by decide +kernel
theorem c_331_978 : pg_cd 331 978 = (50, 1, 0, 0, 0) := by decide +kernel
theorem c_331_979 : pg_cd 331 979 = (5, 1, 0, 0, 0) := by decide +kernel
theorem c_331_980 : pg_cd 331 980 = (3, 1, 0, 3, 0) := by decide +kernel
theorem c_331_981 : pg_cd 331 981 = (1, 1, 0, 0, 2) := by decide +kernel
theorem c_331_982 : pg_cd 331 982 = (10, 1, 0, 0, 0) := by decide +kernel
theorem c_331_983 : pg_cd 331 983 = (50, 1, 0, 0, 0) := by decide +kernel
theorem c_331_984 : pg_cd 331 984 = (5, 1, 0, 0, 0) := by decide +kernel
theorem c_331_985 : pg_cd 331 985 = (3, 1, 0, 3, 0) := by decide +kernel
theorem c_331_986 : pg_cd 331 986 = (1, 1, 0, 0, 3) := by decide +kernel
theorem c_331_987 : pg_cd 331 987 = (10, 1, 0, 0, 0) := by decide +kernel
theorem c_331_988 : pg_cd 331 988 = (50, 1, 0, 0, 0) := by decide +kernel
theorem c_331_989 : pg_cd 331 989 = (5, 1, 0, 0, 0) := by decide +kernel
theorem c_331_990 : pg_cd 331 990 = (3, 1, 0, 3, 0) := by decide +kernel
theorem c_331_991 : pg_cd 331 991 = (1, 1, 0, 0, 4) := by decide +kernel
theorem c_331_992 : pg_cd 331 992 = (10, 1, 0, 0, 0) := by decide +kernel
theorem c_331_993 : pg_cd 331 993 = (50, 1, 0, 0, 0) := by decide +kernel
theorem c_331_994 : pg_cd 331 994 = (5, 1, 0, 0, 0) := by decide +kernel
theorem c_331_995 : pg_cd 331 995 = (3, 1, 0, 3, 0) := by decide +kernel
theorem c_331_996 : pg_cd 331 996 = (1, 1, 0, 0, 5) := by decide +kernel
theorem c_331_997 : pg_cd 331 997 = (10, 1, 0, 0, 0) := by decide +kernel
theorem c_331_998 : pg_cd 331 998 = (50, 1, 0, 0, 0) := by decide +kernel
theorem c_331_999 : pg_cd 331 999 = (80, 166, 91, 0, 0) := by decide +kernel
theorem c_331_1002 : pg_cd 331 1002 = (5, 1, 0, 2, 0) := by decide +kernel
theorem c_331_1003 : pg_cd 331 1003 = (5, 1, 0, 0, 0) := by decide +kernel
theorem c_331_1004 : pg_cd 331 1004 = (3, 1, 0, 3, 0) := by decide +kernel
theorem c_331_1005 : pg_cd 331 1005 = (1, 1, 0, 0, 1) := by decide +kernel
theorem c_331_1006 : pg_cd 331 1006 = (10, 1, 0, 0, 0) := by decide +kernel
theorem c_331_1007 : pg_cd 331 1007 = (50, 1, 0, 0, 0) := by decide +kernel
theorem c_331_1008 : pg_cd 331 1008 = (5, 1, 0, 0, 0) := by decide +kernel
theorem c_331_1009 : pg_cd 331 1009 = (3, 1, 0, 3, 0) := by decide +kernel
theorem c_331_1010 : pg_cd 331 1010 = (1, 1, 0, 0, 2) := by decide +kernel
theorem c_331_1011 : pg_cd 331 1011 = (10, 1, 0, 0, 0) := by decide +kernel
theorem c_331_1012 : pg_cd 331 1012 = (50, 1, 0, 0, 0) := by decide +kernel
theorem c_331_1013 : pg_cd 331 1013 = (5, 1, 0, 0, 0) := by decide +kernel
theorem c_331_1014 : pg_cd 331 1014 = (3, 1, 0, 3, 0) := by decide +kernel
theorem c_331_1015 : pg_cd 331 1015 = (1, 1, 0, 0, 3) := by decide +kernel
theorem c_331_1016 : pg_cd 331 1016 = (10, 1, 0, 0, 0) := by decide +kernel
theorem c_331_1017 : pg_cd 331 1017 = (50, 1, 0, 0, 0) := by decide +kernel
theorem c_331_1018 : pg_cd 331 1018 = (5, 1, 0, 0, 0) := by decide +kernel
theorem c_331_1019 : pg_cd 331 1019 = (3, 1, 0, 3, 0) := by decide +kernel
theorem c_331_1020 : pg_cd 331 1020 = (1, 1, 0, 0, 4) := by decide +kernel
theorem c_331_1021 : pg_cd 331 1021 = (10, 1, 0, 0, 0) := by decide +kernel
theorem c_331_1022 : pg_cd 331 1022 = (50, 1, 0, 0, 0) := by decide +kernel
theorem c_331_1023 : pg_cd 331 1023 = (5, 1, 0, 0, 0) := by decide +kernel
theorem c_331_1024 : pg_cd 331 1024 = (3, 1, 0, 3, 0) := by decide +kernel
theorem c_331_1025 : pg_cd 331 1025 = (1, 1, 0, 0, 5) := by decide +kernel
theorem c_331_1026 : pg_cd 331 1026 = (10, 1, 0, 0, 0) := by decide +kernel
theorem c_331_1027 : pg_cd 331 1027 = (50, 1, 0, 0, 0) := by decide +kernel
theorem c_331_1028 : pg_cd 331 1028 = (80, 221, 94, 0, 0) := by decide +kernel
theorem c_331_1031 : pg_cd 331 1031 = (37, 3, 0, 0, 816) := by decide +kernel
theorem c_331_1034 : pg_cd 331 1034 = (1, 1, 0, 0, 0) := by decide +kernel
theorem c_331_1035 : pg_cd 331 1035 = (91, 0, 0, 0, 0) := by decide +kernel
theorem c_331_1036 : pg_cd 331 1036 = (5, 1, 0, 1, 0) := by decide +kernel
theorem c_331_1037 : pg_cd 331 1037 = (5, 1, 0, 0, 0) := by decide +kernel
theorem c_331_1038 : pg_cd 331 1038 = (3, 1, 0, 3, 0) := by decide +kernel
theorem c_331_1039 : pg_cd 331 1039 = (1, 1, 0, 0, 1) := by decide +kernel
theorem c_331_1040 : pg_cd 331 1040 = (10, 1, 0, 0, 0) := by decide +kernel
theorem c_331_1041 : pg_cd 331 1041 = (50, 1, 0, 0, 0) := by decide +kernel
theorem c_331_1042 : pg_cd 331 1042 = (5, 1, 0, 0, 0) := by decide +kernel
theorem c_331_1043 : pg_cd 331 1043 = (3, 1, 0, 3, 0) := by decide +kernel
theorem c_331_1044 : pg_cd 331 1044 = (1, 1, 0, 0, 2) := by decide +kernel
theorem c_331_1045 : pg_cd 331 1045 = (10, 1, 0, 0, 0) := by decide +kernel
theorem c_331_1046 : pg_cd 331 1046 = (50, 1, 0, 0, 0) := by decide +kernel
theorem c_331_1047 : pg_cd 331 1047 = (80, 167, 95, 0, 0) := by decide +kernel
theorem c_331_1050 : pg_cd 331 1050 = (5, 1, 0, 2, 0) := by decide +kernel
theorem c_331_1051 : pg_cd 331 1051 = (5, 1, 0, 0, 0) := by decide +kernel
theorem c_331_1052 : pg_cd 331 1052 = (3, 1, 0, 3, 0) := by decide +kernel
theorem c_331_1053 : pg_cd 331 1053 = (1, 1, 0, 0, 1) := by decide +kernel
theorem c_331_1054 : pg_cd 331 1054 = (10, 1, 0, 0, 0) := by decide +kernel
theorem c_331_1055 : pg_cd 331 1055 = (50, 1, 0, 0, 0) := by decide +kernel
theorem c_331_1056 : pg_cd 331 1056 = (5, 1, 0, 0, 0) := by decide +kernel
theorem c_331_1057 : pg_cd 331 1057 = (3, 1, 0, 3, 0) := by decide +kernel
theorem c_331_1058 : pg_cd 331 1058 = (1, 1, 0, 0, 2) := by decide +kernel
theorem c_331_1059 : pg_cd 331 1059 = (10, 1, 0, 0, 0) := by decide +kernel
theorem c_331_1060 : pg_cd 331 1060 = (50, 1, 0, 0, 0) := by decide +kernel
theorem c_331_1061 : pg_cd 331 1061 = (80, 222, 98, 0, 0) := by decide +kernel
theorem c_331_1064 : pg_cd 331 1064 = (37, 3, 0, 0, 783) := by decide +kernel
theorem c_331_1067 : pg_cd 331 1067 = (1, 1, 0, 0, 0) := by decide +kernel
theorem c_331_1068 : pg_cd 331 1068 = (91, 0, 0, 0, 0) := by decide +kernel
theorem c_331_1069 : pg_cd 331 1069 = (5, 1, 0, 1, 0) := by decide +kernel
theorem c_331_1070 : pg_cd 331 1070 = (5, 1, 0, 0, 0) := by decide +kernel
theorem c_331_1071 : pg_cd 331 1071 = (3, 1, 0, 3, 0) := by decide +kernel
theorem c_331_1072 : pg_cd 331 1072 = (1, 1, 0, 0, 1) := by decide +kernel
theorem c_331_1073 : pg_cd 331 1073 = (10, 1, 0, 0, 0) := by decide +kernel
theorem c_331_1074 : pg_cd 331 1074 = (50, 1, 0, 0, 0) := by decide +kernel
theorem c_331_1075 : pg_cd 331 1075 = (5, 1, 0, 0, 0) := by decide +kernel
theorem c_331_1076 : pg_cd 331 1076 = (3, 1, 0, 3, 0) := by decide +kernel
theorem c_331_1077 : pg_cd 331 1077 = (1, 1, 0, 0, 2) := by decide +kernel
theorem c_331_1078 : pg_cd 331 1078 = (10, 1, 0, 0, 0) := by decide +kernel
theorem c_331_1079 : pg_cd 331 1079 = (50, 1, 0, 0, 0) := by decide +kernel
theorem c_331_1080 : pg_cd 331 1080 = (5, 1, 0, 0, 0) := by decide +kernel
theorem c_331_1081 : pg_cd 331 1081 = (3, 1, 0, 3, 0) := by decide +kernel
theorem c_331_1082 : pg_cd 331 1082 = (1, 1, 0, 0, 3) := by decide +kernel
theorem c_331_1083 : pg_cd 331 1083 = (10, 1, 0, 0, 0) := by decide +kernel
theorem c_331_1084 : pg_cd 331 1084 = (50, 1, 0, 0, 0) := by decide +kernel
theorem c_331_1085 : pg_cd 331 1085 = (80, 168, 99, 0, 0) := by decide +kernel
theorem c_331_1088 : pg_cd 331 1088 = (5, 1, 0, 2, 0) := by decide +kernel
theorem c_331_1089 : pg_cd 331 1089 = (5, 1, 0, 0, 0) := by decide +kernel
theorem c_331_1090 : pg_cd 331 1090 = (3, 1, 0, 3, 0) := by decide +kernel
theorem c_331_1091 : pg_cd 331 1091 = (1, 1, 0, 0, 1) := by decide +kernel
theorem c_331_1092 : pg_cd 331 1092 = (10, 1, 0, 0, 0) := by decide +kernel
theorem c_331_1093 : pg_cd 331 1093 = (50, 1, 0, 0, 0) := by decide +kernel
theorem c_331_1094 : pg_cd 331 1094 = (5, 1, 0, 0, 0) := by decide +kernel
theorem c_331_1095 : pg_cd 331 1095 = (3, 1, 0, 3, 0) := by decide +kernel
theorem c_331_1096 : pg_cd 331 1096 = (1, 1, 0, 0, 2) := by decide +kernel
theorem c_331_1097 : pg_cd 331 1097 = (10, 1, 0, 0, 0) := by decide +kernel
theorem c_331_1098 : pg_cd 331 1098 = (50, 1, 0, 0, 0) := by decide +kernel
theorem c_331_1099 : pg_cd 331 1099 = (5, 1, 0, 0, 0) := by decide +kernel
theorem c_331_1100 : pg_cd 331 1100 = (3, 1, 0, 3, 0) := by decide +kernel
theorem c_331_1101 : pg_cd 331 1101 = (1, 1, 0, 0, 3) := by decide +kernel
theorem c_331_1102 : pg_cd 331 1102 = (10, 1, 0, 0, 0) := by decide +kernel
theorem c_331_1103 : pg_cd 331 1103 = (50, 1, 0, 0, 0) := by decide +kernel
theorem c_331_1104 : pg_cd 331 1104 = (80, 223, 102, 0, 0) := by decide +kernel
theorem c_331_1107 : pg_cd 331 1107 = (37, 3, 0, 0, 740) := by decide +kernel
theorem c_331_1110 : pg_cd 331 1110 = (1, 1, 0, 0, 0) := by decide +kernel
theorem c_331_1111 : pg_cd 331 1111 = (91, 0, 0, 0, 0) := by decide +kernel
theorem c_331_1112 : pg_cd 331 1112 = (5, 1, 0, 1, 0) := by decide +kernel
theorem c_331_1113 : pg_cd 331 1113 = (5, 1, 0, 0, 0) := by decide +kernel
theorem c_331_1114 : pg_cd 331 1114 = (3, 1, 0, 3, 0) := by decide +kernel
theorem c_331_1115 : pg_cd 331 1115 = (1, 1, 0, 0, 1) := by decide +kernel
theorem c_331_1116 : pg_cd 331 1116 = (10, 1, 0, 0, 0) := by decide +kernel
theorem c_331_1117 : pg_cd 331 1117 = (50, 1, 0, 0, 0) := by decide +kernel
theorem c_331_1118 : pg_cd 331 1118 = (5, 1, 0, 0, 0) := by decide +kernel
theorem c_331_1119 : pg_cd 331 1119 = (3, 1, 0, 3, 0) := by decide +kernel
theorem c_331_1120 : pg_cd 331 1120 = (1, 1, 0, 0, 2) := by decide +kernel
theorem c_331_1121 : pg_cd 331 1121 = (10, 1, 0, 0, 0) := by decide +kernel
theorem c_331_1122 : pg_cd 331 1122 = (50, 1, 0, 0, 0) := by decide +kernel
theorem c_331_1123 : pg_cd 331 1123 = (36, 3, 0, 0, 7) := by decide +kernel
theorem c_331_1126 : pg_cd 331 1126 = (1, 1, 0, 0, 1) := by decide +kernel
theorem c_331_1127 : pg_cd 331 1127 = (38, 3, 0, 0, 4) := by decide +kernel
theorem c_331_1130 : pg_cd 331 1130 = (1, 1, 0, 0, 0) := by decide +kernel
theorem c_331_1131 : pg_cd 331 1131 = (80, 169, 103, 0, 0) := by decide +kernel
theorem c_331_1134 : pg_cd 331 1134 = (5, 1, 0, 2, 0) := by decide +kernel
theorem c_331_1135 : pg_cd 331 1135 = (5, 1, 0, 0, 0) := by decide +kernel
theorem c_331_1136 : pg_cd 331 1136 = (3, 1, 0, 3, 0) := by decide +kernel
theorem c_331_1137 : pg_cd 331 1137 = (1, 1, 0, 0, 1) := by decide +kernel
theorem c_331_1138 : pg_cd 331 1138 = (10, 1, 0, 0, 0) := by decide +kernel
theorem c_331_1139 : pg_cd 331 1139 = (50, 1, 0, 0, 0) := by decide +kernel
theorem c_331_1140 : pg_cd 331 1140 = (5, 1, 0, 0, 0) := by decide +kernel
theorem c_331_1141 : pg_cd 331 1141 = (3, 1, 0, 3, 0) := by decide +kernel
theorem c_331_1142 : pg_cd 331 1142 = (1, 1, 0, 0, 2) := by decide +kernel
theorem c_331_1143 : pg_cd 331 1143 = (10, 1, 0, 0, 0) := by decide +kernel
theorem c_331_1144 : pg_cd 331 1144 = (50, 1, 0, 0, 0) := by decide +kernel
theorem c_331_1145 : pg_cd 331 1145 = (36, 3, 0, 0, 7) := by decide +kernel
theorem c_331_1148 : pg_cd 331 1148 = (1, 1, 0, 0, 1) := by decide +kernel
theorem c_331_1149 : pg_cd 331 1149 = (38, 3, 0, 0, 4) := by decide +kernel
theorem c_331_1152 : pg_cd 331 1152 = (1, 1, 0, 0, 0) := by decide +kernel
theorem c_331_1153 : pg_cd 331 1153 = (80, 224, 107, 0, 0) := by decide +kernel
theorem c_331_1156 : pg_cd 331 1156 = (37, 3, 0, 0, 691) := by decide +kernel
theorem c_331_1159 : pg_cd 331 1159 = (1, 1, 0, 0, 0) := by decide +kernel
theorem c_331_1160 : pg_cd 331 1160 = (91, 0, 0, 0, 0) := by decide +kernel
theorem c_331_1161 : pg_cd 331 1161 = (5, 1, 0, 1, 0) := by decide +kernel
theorem c_331_1162 : pg_cd 331 1162 = (5, 1, 0, 0, 0) := by decide +kernel
theorem c_331_1163 : pg_cd 331 1163 = (3, 1, 0, 3, 0) := by decide +kernel
theorem c_331_1164 : pg_cd 331 1164 = (1, 1, 0, 0, 1) := by decide +kernel
theorem c_331_1165 : pg_cd 331 1165 = (10, 1, 0, 0, 0) := by decide +kernel
theorem c_331_1166 : pg_cd 331 1166 = (50, 1, 0, 0, 0) := by decide +kernel
theorem c_331_1167 : pg_cd 331 1167 = (80, 170, 108, 0, 0) := by decide +kernel
theorem c_331_1170 : pg_cd 331 1170 = (5, 1, 0, 2, 0) := by decide +kernel
theorem c_331_1171 : pg_cd 331 1171 = (5, 1, 0, 0, 0) := by decide +kernel
theorem c_331_1172 : pg_cd 331 1172 = (3, 1, 0, 3, 0) := by decide +kernel
theorem c_331_1173 : pg_cd 331 1173 = (1, 1, 0, 0, 1) := by decide +kernel
theorem c_331_1174 : pg_cd 331 1174 = (10, 1, 0, 0, 0) := by decide +kernel
theorem c_331_1175 : pg_cd 331 1175 = (50, 1, 0, 0, 0) := by decide +kernel
theorem c_331_1176 : pg_cd 331 1176 = (80, 294, 111, 0, 0) := by decide +kernel
theorem c_331_1179 : pg_cd 331 1179 = (37, 3, 0, 0, 668) := by decide +kernel
theorem c_331_1182 : pg_cd 331 1182 = (1, 1, 0, 0, 0) := by decide +kernel
theorem c_331_1183 : pg_cd 331 1183 = (91, 0, 0, 0, 0) := by decide +kernel
theorem c_331_1184 : pg_cd 331 1184 = (5, 1, 0, 1, 0) := by decide +kernel
theorem c_331_1185 : pg_cd 331 1185 = (5, 1, 0, 0, 0) := by decide +kernel
theorem c_331_1186 : pg_cd 331 1186 = (3, 1, 0, 3, 0) := by decide +kernel
theorem c_331_1187 : pg_cd 331 1187 = (1, 1, 0, 0, 1) := by decide +kernel
theorem c_331_1188 : pg_cd 331 1188 = (10, 1, 0, 0, 0) := by decide +kernel
theorem c_331_1189 : pg_cd 331 1189 = (50, 1, 0, 0, 0) := by decide +kernel
theorem c_331_1190 : pg_cd 331 1190 = (5, 1, 0, 0, 0) := by decide +kernel
theorem c_331_1191 : pg_cd 331 1191 = (3, 1, 0, 3, 0) := by decide +kernel
theorem c_331_1192 : pg_cd 331 1192 = (1, 1, 0, 0, 2) := by decide +kernel
theorem c_331_1193 : pg_cd 331 1193 = (10, 1, 0, 0, 0) := by decide +kernel
theorem c_331_1194 : pg_cd 331 1194 = (50, 1, 0, 0, 0) := by decide +kernel
theorem c_331_1195 : pg_cd 331 1195 = (80, 171, 112, 0, 0) := by decide +kernel
theorem c_331_1198 : pg_cd 331 1198 = (5, 1, 0, 2, 0) := by decide +kernel
theorem c_331_1199 : pg_cd 331 1199 = (5, 1, 0, 0, 0) := by decide +kernel
theorem c_331_1200 : pg_cd 331 1200 = (3, 1, 0, 3, 0) := by decide +kernel
theorem c_331_1201 : pg_cd 331 1201 = (1, 1, 0, 0, 1) := by decide +kernel
theorem c_331_1202 : pg_cd 331 1202 = (10, 1, 0, 0, 0) := by decide +kernel
theorem c_331_1203 : pg_cd 331 1203 = (50, 1, 0, 0, 0) := by decide +kernel
theorem c_331_1204 : pg_cd 331 1204 = (5, 1, 0, 0, 0) := by decide +kernel
theorem c_331_1205 : pg_cd 331 1205 = (3, 1, 0, 3, 0) := by decide +kernel
theorem c_331_1206 : pg_cd 331 1206 = (1, 1, 0, 0, 2) := by decide +kernel
theorem c_331_1207 : pg_cd 331 1207 = (10, 1, 0, 0, 0) := by decide +kernel
theorem c_331_1208 : pg_cd 331 1208 = (50, 1, 0, 0, 0) := by decide +kernel
theorem c_331_1209 : pg_cd 331 1209 = (80, 295, 115, 0, 0) := by decide +kernel
theorem c_331_1212 : pg_cd 331 1212 = (37, 3, 0, 0, 635) := by decide +kernel
theorem c_331_1215 : pg_cd 331 1215 = (1, 1, 0, 0, 0) := by decide +kernel
theorem c_331_1216 : pg_cd 331 1216 = (91, 0, 0, 0, 0) := by decide +kernel
theorem c_331_1217 : pg_cd 331 1217 = (5, 1, 0, 1, 0) := by decide +kernel
theorem c_331_1218 : pg_cd 331 1218 = (5, 1, 0, 0, 0) := by decide +kernel
theorem c_331_1219 : pg_cd 331 1219 = (3, 1, 0, 3, 0) := by decide +kernel
theorem c_331_1220 : pg_cd 331 1220 = (1, 1, 0, 0, 1) := by decide +kernel
theorem c_331_1221 : pg_cd 331 1221 = (10, 1, 0, 0, 0) := by decide +kernel
theorem c_331_1222 : pg_cd 331 1222 = (50, 1, 0, 0, 0) := by decide +kernel
theorem c_331_1223 : pg_cd 331 1223 = (5, 1, 0, 0, 0) := by decide +kernel
theorem c_331_1224 : pg_cd 331 1224 = (3, 1, 0, 3, 0) := by decide +kernel
theorem c_331_1225 : pg_cd 331 1225 = (1, 1, 0, 0, 2) := by decide +kernel
theorem c_331_1226 : pg_cd 331 1226 = (10, 1, 0, 0, 0) := by decide +kernel
theorem c_331_1227 : pg_cd 331 1227 = (50, 1, 0, 0, 0) := by decide +kernel
theorem c_331_1228 : pg_cd 331 1228 = (80, 172, 116, 0, 0) := by decide +kernel
theorem c_331_1231 : pg_cd 331 1231 = (5, 1, 0, 2, 0) := by decide +kernel
theorem c_331_1232 : pg_cd 331 1232 = (5, 1, 0, 0, 0) := by decide +kernel
theorem c_331_1233 : pg_cd 331 1233 = (3, 1, 0, 3, 0) := by decide +kernel
theorem c_331_1234 : pg_cd 331 1234 = (1, 1, 0, 0, 1) := by decide +kernel
theorem c_331_1235 : pg_cd 331 1235 = (10, 1, 0, 0, 0) := by decide +kernel
theorem c_331_1236 : pg_cd 331 1236 = (50, 1, 0, 0, 0) := by decide +kernel
theorem c_331_1237 : pg_cd 331 1237 = (5, 1, 0, 0, 0) := by decide +kernel
theorem c_331_1238 : pg_cd 331 1238 = (3, 1, 0, 3, 0) := by decide +kernel
theorem c_331_1239 : pg_cd 331 1239 = (1, 1, 0, 0, 2) := by decide +kernel
theorem c_331_1240 : pg_cd 331 1240 = (10, 1, 0, 0, 0) := by decide +kernel
theorem c_331_1241 : pg_cd 331 1241 = (50, 1, 0, 0, 0) := by decide +kernel
theorem c_331_1242 : pg_cd 331 1242 = (80, 297, 119, 0, 0) := by decide +kernel
theorem c_331_1245 : pg_cd 331 1245 = (37, 3, 0, 0, 602) := by decide +kernel
theorem c_331_1248 : pg_cd 331 1248 = (1, 1, 0, 0, 0) := by decide +kernel
theorem c_331_1249 : pg_cd 331 1249 = (91, 0, 0, 0, 0) := by decide +kernel
theorem c_331_1250 : pg_cd 331 1250 = (5, 1, 0, 1, 0) := by decide +kernel
theorem c_331_1251 : pg_cd 331 1251 = (5, 1, 0, 0, 0) := by decide +kernel
theorem c_331_1252 : pg_cd 331 1252 = (3, 1, 0, 3, 0) := by decide +kernel
theorem c_331_1253 : pg_cd 331 1253 = (1, 1, 0, 0, 1) := by decide +kernel
theorem c_331_1254 : pg_cd 331 1254 = (10, 1, 0, 0, 0) := by decide +kernel
theorem c_331_1255 : pg_cd 331 1255 = (50, 1, 0, 0, 0) := by decide +kernel
theorem c_331_1256 : pg_cd 331 1256 = (5, 1, 0, 0, 0) := by decide +kernel
theorem c_331_1257 : pg_cd 331 1257 = (3, 1, 0, 3, 0) := by decide +kernel
theorem c_331_1258 : pg_cd 331 1258 = (1, 1, 0, 0, 2) := by decide +kernel
theorem c_331_1259 : pg_cd 331 1259 = (10, 1, 0, 0, 0) := by decide +kernel
theorem c_331_1260 : pg_cd 331 1260 = (50, 1, 0, 0, 0) := by decide +kernel
theorem c_331_1261 : pg_cd 331 1261 = (80, 173, 120, 0, 0) := by decide +kernel
theorem c_331_1264 : pg_cd 331 1264 = (5, 1, 0, 2, 0) := by decide +kernel
theorem c_331_1265 : pg_cd 331 1265 = (5, 1, 0, 0, 0) := by decide +kernel
theorem c_331_1266 : pg_cd 331 1266 = (3, 1, 0, 3, 0) := by decide +kernel
theorem c_331_1267 : pg_cd 331 1267 = (1, 1, 0, 0, 1) := by decide +kernel
theorem c_331_1268 : pg_cd 331 1268 = (10, 1, 0, 0, 0) := by decide +kernel
theorem c_331_1269 : pg_cd 331 1269 = (50, 1, 0, 0, 0) := by decide +kernel
theorem c_331_1270 : pg_cd 331 1270 = (5, 1, 0, 0, 0) := by decide +kernel
theorem c_331_1271 : pg_cd 331 1271 = (3, 1, 0, 3, 0) := by decide +kernel
theorem c_331_1272 : pg_cd 331 1272 = (1, 1, 0, 0, 2) := by decide +kernel
theorem c_331_1273 : pg_cd 331 1273 = (10, 1, 0, 0, 0) := by decide +kernel
theorem c_331_1274 : pg_cd 331 1274 = (50, 1, 0, 0, 0) := by decide +kernel
theorem c_331_1275 : pg_cd 331 1275 = (80, 298, 123, 0, 0) := by decide +kernel
theorem c_331_1278 : pg_cd 331 1278 = (37, 3, 0, 0, 569) := by decide +kernel
theorem c_331_1281 : pg_cd 331 1281 = (1, 1, 0, 0, 0) := by decide +kernel
theorem c_331_1282 : pg_cd 331 1282 = (91, 0, 0, 0, 0) := by decide +kernel
theorem c_331_1283 : pg_cd 331 1283 = (5, 1, 0, 1, 0) := by decide +kernel
theorem c_331_1284 : pg_cd 331 1284 = (5, 1, 0, 0, 0) := by decide +kernel
theorem c_331_1285 : pg_cd 331 1285 = (3, 1, 0, 3, 0) := by decide +kernel
theorem c_331_1286 : pg_cd 331 1286 = (1, 1, 0, 0, 1) := by decide +kernel
theorem c_331_1287 : pg_cd 331 1287 = (10, 1, 0, 0, 0) := by decide +kernel
theorem c_331_1288 : pg_cd 331 1288 = (50, 1, 0, 0, 0) := by decide +kernel
theorem c_331_1289 : pg_cd 331 1289 = (5, 1, 0, 0, 0) := by decide +kernel
theorem c_331_1290 : pg_cd 331 1290 = (3, 1, 0, 3, 0) := by decide +kernel
theorem c_331_1291 : pg_cd 331 1291 = (1, 1, 0, 0, 2) := by decide +kernel
theorem c_331_1292 : pg_cd 331 1292 = (10, 1, 0, 0, 0) := by decide +kernel
theorem c_331_1293 : pg_cd 331 1293 = (50, 1, 0, 0, 0) := by decide +kernel
theorem c_331_1294 : pg_cd 331 1294 = (80, 174, 124, 0, 0) := by decide +kernel
theorem c_331_1297 : pg_cd 331 1297 = (5, 1, 0, 2, 0) := by decide +kernel
theorem c_331_1298 : pg_cd 331 1298 = (5, 1, 0, 0, 0) := by decide +kernel
theorem c_331_1299 : pg_cd 331 1299 = (3, 1, 0, 3, 0) := by decide +kernel
theorem c_331_1300 : pg_cd 331 1300 = (1, 1, 0, 0, 1) := by decide +kernel
theorem c_331_1301 : pg_cd 331 1301 = (10, 1, 0, 0, 0) := by decide +kernel
theorem c_331_1302 : pg_cd 331 1302 = (50, 1, 0, 0, 0) := by decide +kernel
theorem c_331_1303 : pg_cd 331 1303 = (5, 1, 0, 0, 0) := by decide +kernel
theorem c_331_1304 : pg_cd 331 1304 = (3, 1, 0, 3, 0) := by decide +kernel
theorem c_331_1305 : pg_cd 331 1305 = (1, 1, 0, 0, 2) := by decide +kernel
theorem c_331_1306 : pg_cd 331 1306 = (10, 1, 0, 0, 0) := by decide +kernel
theorem c_331_1307 : pg_cd 331 1307 = (50, 1, 0, 0, 0) := by decide +kernel
theorem c_331_1308 : pg_cd 331 1308 = (80, 299, 127, 0, 0) := by decide +kernel
theorem c_331_1311 : pg_cd 331 1311 = (37, 3, 0, 0, 536) := by decide +kernel
theorem c_331_1314 : pg_cd 331 1314 = (1, 1, 0, 0, 0) := by decide +kernel
theorem c_331_1315 : pg_cd 331 1315 = (91, 0, 0, 0, 0) := by decide +kernel
theorem c_331_1316 : pg_cd 331 1316 = (5, 1, 0, 1, 0) := by decide +kernel
theorem c_331_1317 : pg_cd 331 1317 = (5, 1, 0, 0, 0) := by decide +kernel
theorem c_331_1318 : pg_cd 331 1318 = (3, 1, 0, 3, 0) := by decide +kernel
theorem c_331_1319 : pg_cd 331 1319 = (1, 1, 0, 0, 1) := by decide +kernel
theorem c_331_1320 : pg_cd 331 1320 = (10, 1, 0, 0, 0) := by decide +kernel
theorem c_331_1321 : pg_cd 331 1321 = (50, 1, 0, 0, 0) := by decide +kernel
theorem c_331_1322 : pg_cd 331 1322 = (5, 1, 0, 0, 0) := by decide +kernel
theorem c_331_1323 : pg_cd 331 1323 = (3, 1, 0, 3, 0) := by decide +kernel
theorem c_331_1324 : pg_cd 331 1324 = (1, 1, 0, 0, 2) := by decide +kernel
theorem c_331_1325 : pg_cd 331 1325 = (10, 1, 0, 0, 0) := by decide +kernel
theorem c_331_1326 : pg_cd 331 1326 = (50, 1, 0, 0, 0) := by decide +kernel
theorem c_331_1327 : pg_cd 331 1327 = (80, 175, 128, 0, 0) := by decide +kernel
theorem c_331_1330 : pg_cd 331 1330 = (5, 1, 0, 2, 0) := by decide +kernel
theorem c_331_1331 : pg_cd 331 1331 = (5, 1, 0, 0, 0) := by decide +kernel
theorem c_331_1332 : pg_cd 331 1332 = (3, 1, 0, 3, 0) := by decide +kernel
theorem c_331_1333 : pg_cd 331 1333 = (1, 1, 0, 0, 1) := by decide +kernel
theorem c_331_1334 : pg_cd 331 1334 = (10, 1, 0, 0, 0) := by decide +kernel
theorem c_331_1335 : pg_cd 331 1335 = (50, 1, 0, 0, 0) := by decide +kernel
theorem c_331_1336 : pg_cd 331 1336 = (5, 1, 0, 0, 0) := by decide +kernel
theorem c_331_1337 : pg_cd 331 1337 = (3, 1, 0, 3, 0) := by decide +kernel
theorem c_331_1338 : pg_cd 331 1338 = (1, 1, 0, 0, 2) := by decide +kernel
theorem c_331_1339 : pg_cd 331 1339 = (10, 1, 0, 0, 0) := by decide +kernel
theorem c_331_1340 : pg_cd 331 1340 = (50, 1, 0, 0, 0) := by decide +kernel
theorem c_331_1341 : pg_cd 331 1341 = (80, 300, 131, 0, 0) := by decide +kernel
theorem c_331_1344 : pg_cd 331 1344 = (37, 3, 0, 0, 503) := by decide +kernel
theorem c_331_1347 : pg_cd 331 1347 = (1, 1, 0, 0, 0) := by decide +kernel
theorem c_331_1348 : pg_cd 331 1348 = (91, 0, 0, 0, 0) := by decide +kernel
theorem c_331_1349 : pg_cd 331 1349 = (5, 1, 0, 1, 0) := by decide +kernel
theorem c_331_1350 : pg_cd 331 1350 = (5, 1, 0, 0, 0) := by decide +kernel
theorem c_331_1351 : pg_cd 331 1351 = (3, 1, 0, 3, 0) := by decide +kernel
theorem c_331_1352 : pg_cd 331 1352 = (1, 1, 0, 0, 1) := by decide +kernel
theorem c_331_1353 : pg_cd 331 1353 = (10, 1, 0, 0, 0) := by decide +kernel
theorem c_331_1354 : pg_cd 331 1354 = (50, 1, 0, 0, 0) := by decide +kernel
theorem c_331_1355 : pg_cd 331 1355 = (5, 1, 0, 0, 0) := by decide +kernel
theorem c_331_1356 : pg_cd 331 1356 = (3, 1, 0, 3, 0) := by decide +kernel
theorem c_331_1357 : pg_cd 331 1357 = (1, 1, 0, 0, 2) := by decide +kernel
theorem c_331_1358 : pg_cd 331 1358 = (10, 1, 0, 0, 0) := by decide +kernel
theorem c_331_1359 : pg_cd 331 1359 = (50, 1, 0, 0, 0) := by decide +kernel
theorem c_331_1360 : pg_cd 331 1360 = (5, 1, 0, 0, 0) := by decide +kernel
theorem c_331_1361 : pg_cd 331 1361 = (3, 1, 0, 3, 0) := by decide +kernel
theorem c_331_1362 : pg_cd 331 1362 = (1, 1, 0, 0, 3) := by decide +kernel
theorem c_331_1363 : pg_cd 331 1363 = (10, 1, 0, 0, 0) := by decide +kernel
theorem c_331_1364 : pg_cd 331 1364 = (50, 1, 0, 0, 0) := by decide +kernel
theorem c_331_1365 : pg_cd 331 1365 = (80, 177, 132, 0, 0) := by decide +kernel
theorem c_331_1368 : pg_cd 331 1368 = (5, 1, 0, 2, 0) := by decide +kernel
theorem c_331_1369 : pg_cd 331 1369 = (5, 1, 0, 0, 0) := by decide +kernel
theorem c_331_1370 : pg_cd 331 1370 = (3, 1, 0, 3, 0) := by decide +kernel
theorem c_331_1371 : pg_cd 331 1371 = (1, 1, 0, 0, 1) := by decide +kernel
theorem c_331_1372 : pg_cd 331 1372 = (10, 1, 0, 0, 0) := by decide +kernel
theorem c_331_1373 : pg_cd 331 1373 = (50, 1, 0, 0, 0) := by decide +kernel
theorem c_331_1374 : pg_cd 331 1374 = (5, 1, 0, 0, 0) := by decide +kernel
theorem c_331_1375 : pg_cd 331 1375 = (3, 1, 0, 3, 0) := by decide +kernel
theorem c_331_1376 : pg_cd 331 1376 = (1, 1, 0, 0, 2) := by decide +kernel
theorem c_331_1377 : pg_cd 331 1377 = (10, 1, 0, 0, 0) := by decide +kernel
theorem c_331_1378 : pg_cd 331 1378 = (50, 1, 0, 0, 0) := by decide +kernel
theorem c_331_1379 : pg_cd 331 1379 = (5, 1, 0, 0, 0) := by decide +kernel
theorem c_331_1380 : pg_cd 331 1380 = (3, 1, 0, 3, 0) := by decide +kernel
theorem c_331_1381 : pg_cd 331 1381 = (1, 1, 0, 0, 3) := by decide +kernel
theorem c_331_1382 : pg_cd 331 1382 = (10, 1, 0, 0, 0) := by decide +kernel
theorem c_331_1383 : pg_cd 331 1383 = (50, 1, 0, 0, 0) := by decide +kernel
theorem c_331_1384 : pg_cd 331 1384 = (80, 301, 135, 0, 0) := by decide +kernel
theorem c_331_1387 : pg_cd 331 1387 = (37, 3, 0, 0, 460) := by decide +kernel
theorem c_331_1390 : pg_cd 331 1390 = (1, 1, 0, 0, 0) := by decide +kernel
theorem c_331_1391 : pg_cd 331 1391 = (91, 0, 0, 0, 0) := by decide +kernel
theorem c_331_1392 : pg_cd 331 1392 = (5, 1, 0, 1, 0) := by decide +kernel
theorem c_331_1393 : pg_cd 331 1393 = (5, 1, 0, 0, 0) := by decide +kernel
theorem c_331_1394 : pg_cd 331 1394 = (3, 1, 0, 3, 0) := by decide +kernel
theorem c_331_1395 : pg_cd 331 1395 = (1, 1, 0, 0, 1) := by decide +kernel
theorem c_331_1396 : pg_cd 331 1396 = (10, 1, 0, 0, 0) := by decide +kernel
theorem c_331_1397 : pg_cd 331 1397 = (50, 1, 0, 0, 0) := by decide +kernel
theorem c_331_1398 : pg_cd 331 1398 = (5, 1, 0, 0, 0) := by decide +kernel
theorem c_331_1399 : pg_cd 331 1399 = (3, 1, 0, 3, 0) := by decide +kernel
theorem c_331_1400 : pg_cd 331 1400 = (1, 1, 0, 0, 2) := by decide +kernel
theorem c_331_1401 : pg_cd 331 1401 = (10, 1, 0, 0, 0) := by decide +kernel
theorem c_331_1402 : pg_cd 331 1402 = (50, 1, 0, 0, 0) := by decide +kernel
theorem c_331_1403 : pg_cd 331 1403 = (5, 1, 0, 0, 0) := by decide +kernel
theorem c_331_1404 : pg_cd 331 1404 = (3, 1, 0, 3, 0) := by decide +kernel
theorem c_331_1405 : pg_cd 331 1405 = (1, 1, 0, 0, 3) := by decide +kernel
theorem c_331_1406 : pg_cd 331 1406 = (10, 1, 0, 0, 0) := by decide +kernel
theorem c_331_1407 : pg_cd 331 1407 = (50, 1, 0, 0, 0) := by decide +kernel
theorem c_331_1408 : pg_cd 331 1408 = (5, 1, 0, 0, 0) := by decide +kernel
theorem c_331_1409 : pg_cd 331 1409 = (3, 1, 0, 3, 0) := by decide +kernel
theorem c_331_1410 : pg_cd 331 1410 = (1, 1, 0, 0, 4) := by decide +kernel
theorem c_331_1411 : pg_cd 331 1411 = (10, 1, 0, 0, 0) := by decide +kernel
theorem c_331_1412 : pg_cd 331 1412 = (50, 1, 0, 0, 0) := by decide +kernel
theorem c_331_1413 : pg_cd 331 1413 = (80, 178, 136, 0, 0) := by decide +kernel
theorem c_331_1416 : pg_cd 331 1416 = (5, 1, 0, 2, 0) := by decide +kernel
theorem c_331_1417 : pg_cd 331 1417 = (5, 1, 0, 0, 0) := by decide +kernel
theorem c_331_1418 : pg_cd 331 1418 = (3, 1, 0, 3, 0) := by decide +kernel
theorem c_331_1419 : pg_cd 331 1419 = (1, 1, 0, 0, 1) := by decide +kernel
theorem c_331_1420 : pg_cd 331 1420 = (10, 1, 0, 0, 0) := by decide +kernel
theorem c_331_1421 : pg_cd 331 1421 = (50, 1, 0, 0, 0) := by decide +kernel
theorem c_331_1422 : pg_cd 331 1422 = (5, 1, 0, 0, 0) := by decide +kernel
theorem c_331_1423 : pg_cd 331 1423 = (3, 1, 0, 3, 0) := by decide +kernel
theorem c_331_1424 : pg_cd 331 1424 = (1, 1, 0, 0, 2) := by decide +kernel
theorem c_331_1425 : pg_cd 331 1425 = (10, 1, 0, 0, 0) := by decide +kernel
theorem c_331_1426 : pg_cd 331 1426 = (50, 1, 0, 0, 0) := by decide +kernel
theorem c_331_1427 : pg_cd 331 1427 = (5, 1, 0, 0, 0) := by decide +kernel
theorem c_331_1428 : pg_cd 331 1428 = (3, 1, 0, 3, 0) := by decide +kernel
theorem c_331_1429 : pg_cd 331 1429 = (1, 1, 0, 0, 3) := by decide +kernel
theorem c_331_1430 : pg_cd 331 1430 = (10, 1, 0, 0, 0) := by decide +kernel
theorem c_331_1431 : pg_cd 331 1431 = (50, 1, 0, 0, 0) := by decide +kernel
theorem c_331_1432 : pg_cd 331 1432 = (5, 1, 0, 0, 0) := by decide +kernel
theorem c_331_1433 : pg_cd 331 1433 = (3, 1, 0, 3, 0) := by decide +kernel
theorem c_331_1434 : pg_cd 331 1434 = (1, 1, 0, 0, 4) := by decide +kernel
theorem c_331_1435 : pg_cd 331 1435 = (10, 1, 0, 0, 0) := by decide +kernel
theorem c_331_1436 : pg_cd 331 1436 = (50, 1, 0, 0, 0) := by decide +kernel
theorem c_331_1437 : pg_cd 331 1437 = (80, 304, 139, 0, 0) := by decide +kernel
theorem c_331_1440 : pg_cd 331 1440 = (37, 3, 0, 0, 407) := by decide +kernel
theorem c_331_1443 : pg_cd 331 1443 = (1, 1, 0, 0, 0) := by decide +kernel
theorem c_331_1444 : pg_cd 331 1444 = (91, 0, 0, 0, 0) := by decide +kernel
theorem c_331_1445 : pg_cd 331 1445 = (5, 1, 0, 1, 0) := by decide +kernel
theorem c_331_1446 : pg_cd 331 1446 = (5, 1, 0, 0, 0) := by decide +kernel
theorem c_331_1447 : pg_cd 331 1447 = (3, 1, 0, 3, 0) := by decide +kernel
theorem c_331_1448 : pg_cd 331 1448 = (1, 1, 0, 0, 1) := by decide +kernel
theorem c_331_1449 : pg_cd 331 1449 = (10, 1, 0, 0, 0) := by decide +kernel
theorem c_331_1450 : pg_cd 331 1450 = (50, 1, 0, 0, 0) := by decide +kernel
theorem c_331_1451 : pg_cd 331 1451 = (5, 1, 0, 0, 0) := by decide +kernel
theorem c_331_1452 : pg_cd 331 1452 = (3, 1, 0, 3, 0) := by decide +kernel
theorem c_331_1453 : pg_cd 331 1453 = (1, 1, 0, 0, 2) := by decide +kernel
theorem c_331_1454 : pg_cd 331 1454 = (10, 1, 0, 0, 0) := by decide +kernel
theorem c_331_1455 : pg_cd 331 1455 = (50, 1, 0, 0, 0) := by decide +kernel
theorem c_331_1456 : pg_cd 331 1456 = (80, 180, 140, 0, 0) := by decide +kernel
theorem c_331_1459 : pg_cd 331 1459 = (5, 1, 0, 2, 0) := by decide +kernel
theorem c_331_1460 : pg_cd 331 1460 = (5, 1, 0, 0, 0) := by decide +kernel
theorem c_331_1461 : pg_cd 331 1461 = (3, 1, 0, 3, 0) := by decide +kernel
theorem c_331_1462 : pg_cd 331 1462 = (1, 1, 0, 0, 1) := by decide +kernel
theorem c_331_1463 : pg_cd 331 1463 = (10, 1, 0, 0, 0) := by decide +kernel
theorem c_331_1464 : pg_cd 331 1464 = (50, 1, 0, 0, 0) := by decide +kernel
theorem c_331_1465 : pg_cd 331 1465 = (5, 1, 0, 0, 0) := by decide +kernel
theorem c_331_1466 : pg_cd 331 1466 = (3, 1, 0, 3, 0) := by decide +kernel
theorem c_331_1467 : pg_cd 331 1467 = (1, 1, 0, 0, 2) := by decide +kernel
theorem c_331_1468 : pg_cd 331 1468 = (10, 1, 0, 0, 0) := by decide +kernel
theorem c_331_1469 : pg_cd 331 1469 = (50, 1, 0, 0, 0) := by decide +kernel
theorem c_331_1470 : pg_cd 331 1470 = (80, 305, 143, 0, 0) := by decide +kernel
theorem c_331_1473 : pg_cd 331 1473 = (37, 3, 0, 0, 374) := by decide +kernel
theorem c_331_1476 : pg_cd 331 1476 = (1, 1, 0, 0, 0) := by decide +kernel
theorem c_331_1477 : pg_cd 331 1477 = (91, 0, 0, 0, 0) := by decide +kernel
theorem c_331_1478 : pg_cd 331 1478 = (5, 1, 0, 1, 0) := by decide +kernel
theorem c_331_1479 : pg_cd 331 1479 = (80, 181, 144, 0, 0) := by decide +kernel
theorem c_331_1482 : pg_cd 331 1482 = (5, 1, 0, 2, 0) := by decide +kernel
theorem c_331_1483 : pg_cd 331 1483 = (80, 306, 147, 0, 0) := by decide +kernel
theorem c_331_1486 : pg_cd 331 1486 = (37, 3, 0, 0, 361) := by decide +kernel
theorem c_331_1489 : pg_cd 331 1489 = (1, 1, 0, 0, 0) := by decide +kernel
theorem c_331_1490 : pg_cd 331 1490 = (91, 0, 0, 0, 0) := by decide +kernel
theorem c_331_1491 : pg_cd 331 1491 = (5, 1, 0, 1, 0) := by decide +kernel
theorem c_331_1492 : pg_cd 331 1492 = (5, 1, 0, 0, 0) := by decide +kernel
theorem c_331_1493 : pg_cd 331 1493 = (3, 1, 0, 3, 0) := by decide +kernel
theorem c_331_1494 : pg_cd 331 1494 = (1, 1, 0, 0, 1) := by decide +kernel
theorem c_331_1495 : pg_cd 331 1495 = (10, 1, 0, 0, 0) := by decide +kernel
theorem c_331_1496 : pg_cd 331 1496 = (50, 1, 0, 0, 0) := by decide +kernel
theorem c_331_1497 : pg_cd 331 1497 = (5, 1, 0, 0, 0) := by decide +kernel
theorem c_331_1498 : pg_cd 331 1498 = (3, 1, 0, 3, 0) := by decide +kernel
theorem c_331_1499 : pg_cd 331 1499 = (1, 1, 0, 0, 2) := by decide +kernel
theorem c_331_1500 : pg_cd 331 1500 = (10, 1, 0, 0, 0) := by decide +kernel
theorem c_331_1501 : pg_cd 331 1501 = (50, 1, 0, 0, 0) := by decide +kernel
theorem c_331_1502 : pg_cd 331 1502 = (80, 182, 148, 0, 0) := by decide +kernel
theorem c_331_1505 : pg_cd 331 1505 = (5, 1, 0, 2, 0) := by decide +kernel
theorem c_331_1506 : pg_cd 331 1506 = (5, 1, 0, 0, 0) := by decide +kernel
theorem c_331_1507 : pg_cd 331 1507 = (3, 1, 0, 3, 0) := by decide +kernel
theorem c_331_1508 : pg_cd 331 1508 = (1, 1, 0, 0, 1) := by decide +kernel
theorem c_331_1509 : pg_cd 331 1509 = (10, 1, 0, 0, 0) := by decide +kernel
theorem c_331_1510 : pg_cd 331 1510 = (50, 1, 0, 0, 0) := by decide +kernel
theorem c_331_1511 : pg_cd 331 1511 = (5, 1, 0, 0, 0) := by decide +kernel
theorem c_331_1512 : pg_cd 331 1512 = (3, 1, 0, 3, 0) := by decide +kernel
theorem c_331_1513 : pg_cd 331 1513 = (1, 1, 0, 0, 2) := by decide +kernel
theorem c_331_1514 : pg_cd 331 1514 = (10, 1, 0, 0, 0) := by decide +kernel
theorem c_331_1515 : pg_cd 331 1515 = (50, 1, 0, 0, 0) := by decide +kernel
theorem c_331_1516 : pg_cd 331 1516 = (80, 307, 151, 0, 0) := by decide +kernel
theorem c_331_1519 : pg_cd 331 1519 = (37, 3, 0, 0, 328) := by decide +kernel
theorem c_331_1522 : pg_cd 331 1522 = (1, 1, 0, 0, 0) := by decide +kernel
theorem c_331_1523 : pg_cd 331 1523 = (91, 0, 0, 0, 0) := by decide +kernel
theorem c_331_1524 : pg_cd 331 1524 = (5, 1, 0, 1, 0) := by decide +kernel
theorem c_331_1525 : pg_cd 331 1525 = (5, 1, 0, 0, 0) := by decide +kernel
theorem c_331_1526 : pg_cd 331 1526 = (3, 1, 0, 3, 0) := by decide +kernel
theorem c_331_1527 : pg_cd 331 1527 = (1, 1, 0, 0, 1) := by decide +kernel
theorem c_331_1528 : pg_cd 331 1528 = (10, 1, 0, 0, 0) := by decide +kernel
theorem c_331_1529 : pg_cd 331 1529 = (50, 1, 0, 0, 0) := by decide +kernel
theorem c_331_1530 : pg_cd 331 1530 = (5, 1, 0, 0, 0) := by decide +kernel
theorem c_331_1531 : pg_cd 331 1531 = (3, 1, 0, 3, 0) := by decide +kernel
theorem c_331_1532 : pg_cd 331 1532 = (1, 1, 0, 0, 2) := by decide +kernel
theorem c_331_1533 : pg_cd 331 1533 = (10, 1, 0, 0, 0) := by decide +kernel
theorem c_331_1534 : pg_cd 331 1534 = (50, 1, 0, 0, 0) := by decide +kernel
theorem c_331_1535 : pg_cd 331 1535 = (5, 1, 0, 0, 0) := by decide +kernel
theorem c_331_1536 : pg_cd 331 1536 = (3, 1, 0, 3, 0) := by decide +kernel
theorem c_331_1537 : pg_cd 331 1537 = (1, 1, 0, 0, 3) := by decide +kernel
theorem c_331_1538 : pg_cd 331 1538 = (10, 1, 0, 0, 0) := by decide +kernel
theorem c_331_1539 : pg_cd 331 1539 = (50, 1, 0, 0, 0) := by decide +kernel
theorem c_331_1540 : pg_cd 331 1540 = (5, 1, 0, 0, 0) := by decide +kernel
theorem c_331_1541 : pg_cd 331 1541 = (3, 1, 0, 3, 0) := by decide +kernel
theorem c_331_1542 : pg_cd 331 1542 = (1, 1, 0, 0, 4) := by decide +kernel
theorem c_331_1543 : pg_cd 331 1543 = (10, 1, 0, 0, 0) := by decide +kernel
theorem c_331_1544 : pg_cd 331 1544 = (50, 1, 0, 0, 0) := by decide +kernel
theorem c_331_1545 : pg_cd 331 1545 = (80, 183, 152, 0, 0) := by decide +kernel
theorem c_331_1548 : pg_cd 331 1548 = (5, 1, 0, 2, 0) := by decide +kernel
theorem c_331_1549 : pg_cd 331 1549 = (5, 1, 0, 0, 0) := by decide +kernel
theorem c_331_1550 : pg_cd 331 1550 = (3, 1, 0, 3, 0) := by decide +kernel
theorem c_331_1551 : pg_cd 331 1551 = (1, 1, 0, 0, 1) := by decide +kernel
theorem c_331_1552 : pg_cd 331 1552 = (10, 1, 0, 0, 0) := by decide +kernel
theorem c_331_1553 : pg_cd 331 1553 = (50, 1, 0, 0, 0) := by decide +kernel
theorem c_331_1554 : pg_cd 331 1554 = (5, 1, 0, 0, 0) := by decide +kernel
theorem c_331_1555 : pg_cd 331 1555 = (3, 1, 0, 3, 0) := by decide +kernel
theorem c_331_1556 : pg_cd 331 1556 = (1, 1, 0, 0, 2) := by decide +kernel
theorem c_331_1557 : pg_cd 331 1557 = (10, 1, 0, 0, 0) := by decide +kernel
theorem c_331_1558 : pg_cd 331 1558 = (50, 1, 0, 0, 0) := by decide +kernel
theorem c_331_1559 : pg_cd 331 1559 = (5, 1, 0, 0, 0) := by decide +kernel
theorem c_331_1560 : pg_cd 331 1560 = (3, 1, 0, 3, 0) := by decide +kernel
theorem c_331_1561 : pg_cd 331 1561 = (1, 1, 0, 0, 3) := by decide +kernel
theorem c_331_1562 : pg_cd 331 1562 = (10, 1, 0, 0, 0) := by decide +kernel
theorem c_331_1563 : pg_cd 331 1563 = (50, 1, 0, 0, 0) := by decide +kernel
theorem c_331_1564 : pg_cd 331 1564 = (5, 1, 0, 0, 0) := by decide +kernel
theorem c_331_1565 : pg_cd 331 1565 = (3, 1, 0, 3, 0) := by decide +kernel
theorem c_331_1566 : pg_cd 331 1566 = (1, 1, 0, 0, 4) := by decide +kernel
theorem c_331_1567 : pg_cd 331 1567 = (10, 1, 0, 0, 0) := by decide +kernel
theorem c_331_1568 : pg_cd 331 1568 = (50, 1, 0, 0, 0) := by decide +kernel
theorem c_331_1569 : pg_cd 331 1569 = (80, 310, 155, 0, 0) := by decide +kernel
theorem c_331_1572 : pg_cd 331 1572 = (37, 3, 0, 0, 275) := by decide +kernel
theorem c_331_1575 : pg_cd 331 1575 = (1, 1, 0, 0, 0) := by decide +kernel
theorem c_331_1576 : pg_cd 331 1576 = (91, 0, 0, 0, 0) := by decide +kernel
theorem c_331_1577 : pg_cd 331 1577 = (5, 1, 0, 1, 0) := by decide +kernel
theorem c_331_1578 : pg_cd 331 1578 = (5, 1, 0, 0, 0) := by decide +kernel
theorem c_331_1579 : pg_cd 331 1579 = (3, 1, 0, 3, 0) := by decide +kernel
theorem c_331_1580 : pg_cd 331 1580 = (1, 1, 0, 0, 1) := by decide +kernel
theorem c_331_1581 : pg_cd 331 1581 = (10, 1, 0, 0, 0) := by decide +kernel
theorem c_331_1582 : pg_cd 331 1582 = (50, 1, 0, 0, 0) := by decide +kernel
theorem c_331_1583 : pg_cd 331 1583 = (5, 1, 0, 0, 0) := by decide +kernel
theorem c_331_1584 : pg_cd 331 1584 = (3, 1, 0, 3, 0) := by decide +kernel
theorem c_331_1585 : pg_cd 331 1585 = (1, 1, 0, 0, 2) := by decide +kernel
theorem c_331_1586 : pg_cd 331 1586 = (10, 1, 0, 0, 0) := by decide +kernel
theorem c_331_1587 : pg_cd 331 1587 = (50, 1, 0, 0, 0) := by decide +kernel
theorem c_331_1588 : pg_cd 331 1588 = (80, 184, 156, 0, 0) := by decide +kernel
theorem c_331_1591 : pg_cd 331 1591 = (5, 1, 0, 2, 0) := by decide +kernel
theorem c_331_1592 : pg_cd 331 1592 = (5, 1, 0, 0, 0) := by decide +kernel
theorem c_331_1593 : pg_cd 331 1593 = (3, 1, 0, 3, 0) := by decide +kernel
theorem c_331_1594 : pg_cd 331 1594 = (1, 1, 0, 0, 1) := by decide +kernel
theorem c_331_1595 : pg_cd 331 1595 = (10, 1, 0, 0, 0) := by decide +kernel
theorem c_331_1596 : pg_cd 331 1596 = (50, 1, 0, 0, 0) := by decide +kernel
theorem c_331_1597 : pg_cd 331 1597 = (5, 1, 0, 0, 0) := by decide +kernel
theorem c_331_1598 : pg_cd 331 1598 = (3, 1, 0, 3, 0) := by decide +kernel
theorem c_331_1599 : pg_cd 331 1599 = (1, 1, 0, 0, 2) := by decide +kernel
theorem c_331_1600 : pg_cd 331 1600 = (10, 1, 0, 0, 0) := by decide +kernel
theorem c_331_1601 : pg_cd 331 1601 = (50, 1, 0, 0, 0) := by decide +kernel
theorem c_331_1602 : pg_cd 331 1602 = (80, 311, 159, 0, 0) := by decide +kernel
theorem c_331_1605 : pg_cd 331 1605 = (37, 3, 0, 0, 242) := by decide +kernel
theorem c_331_1608 : pg_cd 331 1608 = (1, 1, 0, 0, 0) := by decide +kernel
theorem c_331_1609 : pg_cd 331 1609 = (91, 0, 0, 0, 0) := by decide +kernel
theorem c_331_1610 : pg_cd 331 1610 = (5, 1, 0, 1, 0) := by decide +kernel
theorem c_331_1611 : pg_cd 331 1611 = (5, 1, 0, 0, 0) := by decide +kernel
theorem c_331_1612 : pg_cd 331 1612 = (3, 1, 0, 3, 0) := by decide +kernel
theorem c_331_1613 : pg_cd 331 1613 = (1, 1, 0, 0, 1) := by decide +kernel
theorem c_331_1614 : pg_cd 331 1614 = (10, 1, 0, 0, 0) := by decide +kernel
theorem c_331_1615 : pg_cd 331 1615 = (50, 1, 0, 0, 0) := by decide +kernel
theorem c_331_1616 : pg_cd 331 1616 = (5, 1, 0, 0, 0) := by decide +kernel
theorem c_331_1617 : pg_cd 331 1617 = (3, 1, 0, 3, 0) := by decide +kernel
theorem c_331_1618 : pg_cd 331 1618 = (1, 1, 0, 0, 2) := by decide +kernel
theorem c_331_1619 : pg_cd 331 1619 = (10, 1, 0, 0, 0) := by decide +kernel
theorem c_331_1620 : pg_cd 331 1620 = (50, 1, 0, 0, 0) := by decide +kernel
theorem c_331_1621 : pg_cd 331 1621 = (80, 185, 160, 0, 0) := by decide +kernel
theorem c_331_1624 : pg_cd 331 1624 = (5, 1, 0, 2, 0) := by decide +kernel
theorem c_331_1625 : pg_cd 331 1625 = (5, 1, 0, 0, 0) := by decide +kernel
theorem c_331_1626 : pg_cd 331 1626 = (3, 1, 0, 3, 0) := by decide +kernel
theorem c_331_1627 : pg_cd 331 1627 = (1, 1, 0, 0, 1) := by decide +kernel
theorem c_331_1628 : pg_cd 331 1628 = (10, 1, 0, 0, 0) := by decide +kernel
theorem c_331_1629 : pg_cd 331 1629 = (50, 1, 0, 0, 0) := by decide +kernel
theorem c_331_1630 : pg_cd 331 1630 = (5, 1, 0, 0, 0) := by decide +kernel
theorem c_331_1631 : pg_cd 331 1631 = (3, 1, 0, 3, 0) := by decide +kernel
theorem c_331_1632 : pg_cd 331 1632 = (1, 1, 0, 0, 2) := by decide +kernel
theorem c_331_1633 : pg_cd 331 1633 = (10, 1, 0, 0, 0) := by decide +kernel
theorem c_331_1634 : pg_cd 331 1634 = (50, 1, 0, 0, 0) := by decide +kernel
theorem c_331_1635 : pg_cd 331 1635 = (80, 315, 163, 0, 0) := by decide +kernel
theorem c_331_1638 : pg_cd 331 1638 = (37, 3, 0, 0, 209) := by decide +kernel
theorem c_331_1641 : pg_cd 331 1641 = (1, 1, 0, 0, 0) := by decide +kernel
theorem c_331_1642 : pg_cd 331 1642 = (91, 0, 0, 0, 0) := by decide +kernel
theorem c_331_1643 : pg_cd 331 1643 = (5, 1, 0, 1, 0) := by decide +kernel
theorem c_331_1644 : pg_cd 331 1644 = (5, 1, 0, 0, 0) := by decide +kernel
theorem c_331_1645 : pg_cd 331 1645 = (3, 1, 0, 3, 0) := by decide +kernel
theorem c_331_1646 : pg_cd 331 1646 = (1, 1, 0, 0, 1) := by decide +kernel
theorem c_331_1647 : pg_cd 331 1647 = (10, 1, 0, 0, 0) := by decide +kernel
theorem c_331_1648 : pg_cd 331 1648 = (50, 1, 0, 0, 0) := by decide +kernel
theorem c_331_1649 : pg_cd 331 1649 = (5, 1, 0, 0, 0) := by decide +kernel
theorem c_331_1650 : pg_cd 331 1650 = (3, 1, 0, 3, 0) := by decide +kernel
theorem c_331_1651 : pg_cd 331 1651 = (1, 1, 0, 0, 2) := by decide +kernel
theorem c_331_1652 : pg_cd 331 1652 = (10, 1, 0, 0, 0) := by decide +kernel
theorem c_331_1653 : pg_cd 331 1653 = (50, 1, 0, 0, 0) := by decide +kernel
theorem c_331_1654 : pg_cd 331 1654 = (80, 186, 164, 0, 0) := by decide +kernel
theorem c_331_1657 : pg_cd 331 1657 = (5, 1, 0, 2, 0) := by decide +kernel
theorem c_331_1658 : pg_cd 331 1658 = (5, 1, 0, 0, 0) := by decide +kernel
theorem c_331_1659 : pg_cd 331 1659 = (3, 1, 0, 3, 0) := by decide +kernel
theorem c_331_1660 : pg_cd 331 1660 = (1, 1, 0, 0, 1) := by decide +kernel
theorem c_331_1661 : pg_cd 331 1661 = (10, 1, 0, 0, 0) := by decide +kernel
theorem c_331_1662 : pg_cd 331 1662 = (50, 1, 0, 0, 0) := by decide +kernel
theorem c_331_1663 : pg_cd 331 1663 = (5, 1, 0, 0, 0) := by decide +kernel
theorem c_331_1664 : pg_cd 331 1664 = (3, 1, 0, 3, 0) := by decide +kernel
theorem c_331_1665 : pg_cd 331 1665 = (1, 1, 0, 0, 2) := by decide +kernel
theorem c_331_1666 : pg_cd 331 1666 = (10, 1, 0, 0, 0) := by decide +kernel
theorem c_331_1667 : pg_cd 331 1667 = (50, 1, 0, 0, 0) := by decide +kernel
theorem c_331_1668 : pg_cd 331 1668 = (80, 317, 167, 0, 0) := by decide +kernel
theorem c_331_1671 : pg_cd 331 1671 = (37, 3, 0, 0, 176) := by decide +kernel
theorem c_331_1674 : pg_cd 331 1674 = (1, 1, 0, 0, 0) := by decide +kernel
theorem c_331_1675 : pg_cd 331 1675 = (91, 0, 0, 0, 0) := by decide +kernel
theorem c_331_1676 : pg_cd 331 1676 = (5, 1, 0, 1, 0) := by decide +kernel
theorem c_331_1677 : pg_cd 331 1677 = (5, 1, 0, 0, 0) := by decide +kernel
theorem c_331_1678 : pg_cd 331 1678 = (3, 1, 0, 3, 0) := by decide +kernel
theorem c_331_1679 : pg_cd 331 1679 = (1, 1, 0, 0, 1) := by decide +kernel
theorem c_331_1680 : pg_cd 331 1680 = (10, 1, 0, 0, 0) := by decide +kernel
theorem c_331_1681 : pg_cd 331 1681 = (50, 1, 0, 0, 0) := by decide +kernel
theorem c_331_1682 : pg_cd 331 1682 = (80, 187, 168, 0, 0) := by decide +kernel
theorem c_331_1685 : pg_cd 331 1685 = (5, 1, 0, 2, 0) := by decide +kernel
theorem c_331_1686 : pg_cd 331 1686 = (5, 1, 0, 0, 0) := by decide +kernel
theorem c_331_1687 : pg_cd 331 1687 = (3, 1, 0, 3, 0) := by decide +kernel
theorem c_331_1688 : pg_cd 331 1688 = (1, 1, 0, 0, 1) := by decide +kernel
theorem c_331_1689 : pg_cd 331 1689 = (10, 1, 0, 0, 0) := by decide +kernel
theorem c_331_1690 : pg_cd 331 1690 = (50, 1, 0, 0, 0) := by decide +kernel
theorem c_331_1691 : pg_cd 331 1691 = (80, 319, 172, 0, 0) := by decide +kernel
theorem c_331_1694 : pg_cd 331 1694 = (37, 3, 0, 0, 153) := by decide +kernel
theorem c_331_1697 : pg_cd 331 1697 = (1, 1, 0, 0, 0) := by decide +kernel
theorem c_331_1698 : pg_cd 331 1698 = (91, 0, 0, 0, 0) := by decide +kernel
theorem c_331_1699 : pg_cd 331 1699 = (5, 1, 0, 1, 0) := by decide +kernel
theorem c_331_1700 : pg_cd 331 1700 = (5, 1, 0, 0, 0) := by decide +kernel
theorem c_331_1701 : pg_cd 331 1701 = (3, 1, 0, 3, 0) := by decide +kernel
theorem c_331_1702 : pg_cd 331 1702 = (1, 1, 0, 0, 1) := by decide +kernel
theorem c_331_1703 : pg_cd 331 1703 = (10, 1, 0, 0, 0) := by decide +kernel
theorem c_331_1704 : pg_cd 331 1704 = (50, 1, 0, 0, 0) := by decide +kernel
theorem c_331_1705 : pg_cd 331 1705 = (5, 1, 0, 0, 0) := by decide +kernel
theorem c_331_1706 : pg_cd 331 1706 = (3, 1, 0, 3, 0) := by decide +kernel
theorem c_331_1707 : pg_cd 331 1707 = (1, 1, 0, 0, 2) := by decide +kernel
theorem c_331_1708 : pg_cd 331 1708 = (10, 1, 0, 0, 0) := by decide +kernel
theorem c_331_1709 : pg_cd 331 1709 = (50, 1, 0, 0, 0) := by decide +kernel
theorem c_331_1710 : pg_cd 331 1710 = (80, 188, 173, 0, 0) := by decide +kernel
theorem c_331_1713 : pg_cd 331 1713 = (5, 1, 0, 2, 0) := by decide +kernel
theorem c_331_1714 : pg_cd 331 1714 = (5, 1, 0, 0, 0) := by decide +kernel
theorem c_331_1715 : pg_cd 331 1715 = (3, 1, 0, 3, 0) := by decide +kernel
theorem c_331_1716 : pg_cd 331 1716 = (1, 1, 0, 0, 1) := by decide +kernel
theorem c_331_1717 : pg_cd 331 1717 = (10, 1, 0, 0, 0) := by decide +kernel
theorem c_331_1718 : pg_cd 331 1718 = (50, 1, 0, 0, 0) := by decide +kernel
theorem c_331_1719 : pg_cd 331 1719 = (5, 1, 0, 0, 0) := by decide +kernel
theorem c_331_1720 : pg_cd 331 1720 = (3, 1, 0, 3, 0) := by decide +kernel
theorem c_331_1721 : pg_cd 331 1721 = (1, 1, 0, 0, 2) := by decide +kernel
theorem c_331_1722 : pg_cd 331 1722 = (10, 1, 0, 0, 0) := by decide +kernel
theorem c_331_1723 : pg_cd 331 1723 = (50, 1, 0, 0, 0) := by decide +kernel
theorem c_331_1724 : pg_cd 331 1724 = (80, 321, 176, 0, 0) := by decide +kernel
theorem c_331_1727 : pg_cd 331 1727 = (37, 3, 0, 0, 120) := by decide +kernel
theorem c_331_1730 : pg_cd 331 1730 = (1, 1, 0, 0, 0) := by decide +kernel
theorem c_331_1731 : pg_cd 331 1731 = (91, 0, 0, 0, 0) := by decide +kernel
theorem c_331_1732 : pg_cd 331 1732 = (5, 1, 0, 1, 0) := by decide +kernel
theorem c_331_1733 : pg_cd 331 1733 = (5, 1, 0, 0, 0) := by decide +kernel
theorem c_331_1734 : pg_cd 331 1734 = (3, 1, 0, 3, 0) := by decide +kernel
theorem c_331_1735 : pg_cd 331 1735 = (1, 1, 0, 0, 1) := by decide +kernel
theorem c_331_1736 : pg_cd 331 1736 = (10, 1, 0, 0, 0) := by decide +kernel
theorem c_331_1737 : pg_cd 331 1737 = (50, 1, 0, 0, 0) := by decide +kernel
theorem c_331_1738 : pg_cd 331 1738 = (5, 1, 0, 0, 0) := by decide +kernel
theorem c_331_1739 : pg_cd 331 1739 = (3, 1, 0, 3, 0) := by decide +kernel
theorem c_331_1740 : pg_cd 331 1740 = (1, 1, 0, 0, 2) := by decide +kernel
theorem c_331_1741 : pg_cd 331 1741 = (10, 1, 0, 0, 0) := by decide +kernel
theorem c_331_1742 : pg_cd 331 1742 = (50, 1, 0, 0, 0) := by decide +kernel
theorem c_331_1743 : pg_cd 331 1743 = (5, 1, 0, 0, 0) := by decide +kernel
theorem c_331_1744 : pg_cd 331 1744 = (3, 1, 0, 3, 0) := by decide +kernel
theorem c_331_1745 : pg_cd 331 1745 = (1, 1, 0, 0, 3) := by decide +kernel
theorem c_331_1746 : pg_cd 331 1746 = (10, 1, 0, 0, 0) := by decide +kernel
theorem c_331_1747 : pg_cd 331 1747 = (50, 1, 0, 0, 0) := by decide +kernel
theorem c_331_1748 : pg_cd 331 1748 = (80, 189, 177, 0, 0) := by decide +kernel
theorem c_331_1751 : pg_cd 331 1751 = (5, 1, 0, 2, 0) := by decide +kernel
theorem c_331_1752 : pg_cd 331 1752 = (5, 1, 0, 0, 0) := by decide +kernel
theorem c_331_1753 : pg_cd 331 1753 = (3, 1, 0, 3, 0) := by decide +kernel
theorem c_331_1754 : pg_cd 331 1754 = (1, 1, 0, 0, 1) := by decide +kernel
theorem c_331_1755 : pg_cd 331 1755 = (10, 1, 0, 0, 0) := by decide +kernel
theorem c_331_1756 : pg_cd 331 1756 = (50, 1, 0, 0, 0) := by decide +kernel
theorem c_331_1757 : pg_cd 331 1757 = (5, 1, 0, 0, 0) := by decide +kernel
theorem c_331_1758 : pg_cd 331 1758 = (3, 1, 0, 3, 0) := by decide +kernel
theorem c_331_1759 : pg_cd 331 1759 = (1, 1, 0, 0, 2) := by decide +kernel
theorem c_331_1760 : pg_cd 331 1760 = (10, 1, 0, 0, 0) := by decide +kernel
theorem c_331_1761 : pg_cd 331 1761 = (50, 1, 0, 0, 0) := by decide +kernel
theorem c_331_1762 : pg_cd 331 1762 = (5, 1, 0, 0, 0) := by decide +kernel
theorem c_331_1763 : pg_cd 331 1763 = (3, 1, 0, 3, 0) := by decide +kernel
theorem c_331_1764 : pg_cd 331 1764 = (1, 1, 0, 0, 3) := by decide +kernel
theorem c_331_1765 : pg_cd 331 1765 = (10, 1, 0, 0, 0) := by decide +kernel
theorem c_331_1766 : pg_cd 331 1766 = (50, 1, 0, 0, 0) := by decide +kernel
theorem c_331_1767 : pg_cd 331 1767 = (80, 322, 180, 0, 0) := by decide +kernel
theorem c_331_1770 : pg_cd 331 1770 = (37, 3, 0, 0, 77) := by decide +kernel
theorem c_331_1773 : pg_cd 331 1773 = (1, 1, 0, 0, 0) := by decide +kernel
theorem c_331_1774 : pg_cd 331 1774 = (91, 0, 0, 0, 0) := by decide +kernel
theorem c_331_1775 : pg_cd 331 1775 = (5, 1, 0, 1, 0) := by decide +kernel
theorem c_331_1776 : pg_cd 331 1776 = (5, 1, 0, 0, 0) := by decide +kernel
theorem c_331_1777 : pg_cd 331 1777 = (3, 1, 0, 3, 0) := by decide +kernel
theorem c_331_1778 : pg_cd 331 1778 = (1, 1, 0, 0, 1) := by decide +kernel
theorem c_331_1779 : pg_cd 331 1779 = (10, 1, 0, 0, 0) := by decide +kernel
theorem c_331_1780 : pg_cd 331 1780 = (50, 1, 0, 0, 0) := by decide +kernel
theorem c_331_1781 : pg_cd 331 1781 = (80, 190, 181, 0, 0) := by decide +kernel
theorem c_331_1784 : pg_cd 331 1784 = (5, 1, 0, 2, 0) := by decide +kernel
theorem c_331_1785 : pg_cd 331 1785 = (5, 1, 0, 0, 0) := by decide +kernel
theorem c_331_1786 : pg_cd 331 1786 = (3, 1, 0, 3, 0) := by decide +kernel
theorem c_331_1787 : pg_cd 331 1787 = (1, 1, 0, 0, 1) := by decide +kernel
theorem c_331_1788 : pg_cd 331 1788 = (10, 1, 0, 0, 0) := by decide +kernel
theorem c_331_1789 : pg_cd 331 1789 = (50, 1, 0, 0, 0) := by decide +kernel
theorem c_331_1790 : pg_cd 331 1790 = (80, 323, 184, 0, 0) := by decide +kernel
theorem c_331_1793 : pg_cd 331 1793 = (37, 3, 0, 0, 54) := by decide +kernel
theorem c_331_1796 : pg_cd 331 1796 = (1, 1, 0, 0, 0) := by decide +kernel
theorem c_331_1797 : pg_cd 331 1797 = (91, 0, 0, 0, 0) := by decide +kernel
theorem c_331_1798 : pg_cd 331 1798 = (5, 1, 0, 1, 0) := by decide +kernel
theorem c_331_1799 : pg_cd 331 1799 = (80, 191, 185, 0, 0) := by decide +kernel
theorem c_331_1802 : pg_cd 331 1802 = (5, 1, 0, 2, 0) := by decide +kernel
theorem c_331_1803 : pg_cd 331 1803 = (80, 324, 188, 0, 0) := by decide +kernel
theorem c_331_1806 : pg_cd 331 1806 = (37, 3, 0, 0, 41) := by decide +kernel
theorem c_331_1809 : pg_cd 331 1809 = (1, 1, 0, 0, 0) := by decide +kernel
theorem c_331_1810 : pg_cd 331 1810 = (91, 0, 0, 0, 0) := by decide +kernel
theorem c_331_1811 : pg_cd 331 1811 = (5, 1, 0, 1, 0) := by decide +kernel
theorem c_331_1812 : pg_cd 331 1812 = (80, 192, 189, 0, 0) := by decide +kernel
theorem c_331_1815 : pg_cd 331 1815 = (5, 1, 0, 2, 0) := by decide +kernel
theorem c_331_1816 : pg_cd 331 1816 = (80, 325, 192, 0, 0) := by decide +kernel
theorem c_331_1819 : pg_cd 331 1819 = (37, 3, 0, 0, 28) := by decide +kernel
theorem c_331_1822 : pg_cd 331 1822 = (1, 1, 0, 0, 0) := by decide +kernel
theorem c_331_1823 : pg_cd 331 1823 = (91, 0, 0, 0, 0) := by decide +kernel
theorem c_331_1824 : pg_cd 331 1824 = (5, 1, 0, 1, 0) := by decide +kernel
theorem c_331_1825 : pg_cd 331 1825 = (5, 1, 0, 0, 0) := by decide +kernel
theorem c_331_1826 : pg_cd 331 1826 = (3, 1, 0, 3, 0) := by decide +kernel
theorem c_331_1827 : pg_cd 331 1827 = (1, 1, 0, 0, 1) := by decide +kernel
theorem c_331_1828 : pg_cd 331 1828 = (10, 1, 0, 0, 0) := by decide +kernel
theorem c_331_1829 : pg_cd 331 1829 = (50, 1, 0, 0, 0) := by decide +kernel
theorem c_331_1830 : pg_cd 331 1830 = (80, 193, 193, 0, 0) := by decide +kernel
theorem c_331_1833 : pg_cd 331 1833 = (5, 1, 0, 2, 0) := by decide +kernel
theorem c_331_1834 : pg_cd 331 1834 = (5, 1, 0, 0, 0) := by decide +kernel
theorem c_331_1835 : pg_cd 331 1835 = (3, 1, 0, 3, 0) := by decide +kernel
theorem c_331_1836 : pg_cd 331 1836 = (1, 1, 0, 0, 1) := by decide +kernel
theorem c_331_1837 : pg_cd 331 1837 = (10, 1, 0, 0, 0) := by decide +kernel
theorem c_331_1838 : pg_cd 331 1838 = (50, 1, 0, 0, 0) := by decide +kernel
theorem c_331_1839 : pg_cd 331 1839 = (80, 326, 196, 0, 0) := by decide +kernel
theorem c_331_1842 : pg_cd 331 1842 = (37, 3, 0, 0, 5) := by decide +kernel
theorem c_331_1845 : pg_cd 331 1845 = (1, 1, 0, 0, 0) := by decide +kernel
theorem c_331_1846 : pg_cd 331 1846 = (91, 0, 0, 0, 0) := by decide +kernel
theorem c_331_1847 : pg_cd 331 1847 = (9, 3, 0, 3, 7) := by decide +kernel
theorem c_331_1850 : pg_cd 331 1850 = (38, 3, 0, 0, (-1832)) := by decide +kernel
theorem c_331_1853 : pg_cd 331 1853 = (1, 1, 0, 0, 1) := by decide +kernel
theorem c_331_1854 : pg_cd 331 1854 = (91, 0, 0, 0, 0) := by decide +kernel
theorem mi_331 : pg_mc 331 = 14 ∧ pg_na 331 = 1 ∧ pg_mx 331 = 4 := by decide +kernel
theorem sw_10 : pg_sw 10 = (1814, 0, 42, [187, 262, 305, 338, 371, 424, 467, 500, 543, 596, 659, 682, 695, 718, 771, 824, 887, 940, 1003, 1036, 1079, 1128, 1151, 1184, 1217, 1250, 1283, 1316, 1359, 1412, 1445, 1458, 1491, 1544, 1577, 1610, 1643, 1666, 1699, 1742, 1765, 1778, 1791]) := by decide +kernel
section LWA
variable {d : Nat} {S : zS} {σ τ : zI} {Q : zQ} {L st : List Value} {i : Int} {n : Nat}
theorem i50s {M pc a b k : Nat} {z : Int} {e v : Int} (hI : pg_cd M pc = (50, a, b, k, z)) (ho : S.2.2.1 0 = (0, n)) (hn : n < 2147483648) (he : 0 ≤ e ∧ e < n) (hv : σ 0 e = v) (t : wi d M (pc + 1) L (.int (wI v) :: st) S σ τ Q) : wi d M pc L (.int (wI e) :: .ref 0 :: st) S σ τ Q := fun K => by
  have r : rg e := ⟨by omega, by omega⟩
  have e1 : (ab_s (hp S σ τ) 0).2 = n := by
    show (S.2.2.1 0).2 = n
    rw [ho]
  refine g50 hI ⟨Or.inl rfl, by rw [e1]; exact wI_in he.1 he.2 r⟩ ?_
  rw [wI_clamp he.1 r, rd_i he.1 hv]
  exact t K
theorem i58s {M pc a b k : Nat} {z : Int} (hI : pg_cd M pc = (58, a, b, k, z)) (ha : a = 0) (ho : S.2.2.1 0 = (0, n)) (t : wi d M (pc + 1) L (.int (wI (n : Int)) :: st) S σ τ Q) : wi d M pc L (.ref 0 :: st) S σ τ Q := fun K => g58 hI (Or.inl ⟨rfl, ha⟩) (by
  have e1 : (ab_s (hp S σ τ) 0).2 = n := by
    show (S.2.2.1 0).2 = n
    rw [ho]
  rw [e1, wI_ofNat]
  exact t K)
theorem i37e {M pc a b pc1 : Nat} {z : Int} {x : Int} (hI : pg_cd M pc = (37, a, b, 0, z)) (hp : ab_to pc z = pc1) (t : wi d M pc1 L st S σ τ Q) : wi d M pc L (.int (wI x) :: .int (wI x) :: st) S σ τ Q := by
  refine i37k hI ?_ t
  have : ab_cond 0 (wI x) (wI x) = true := decide_eq_true rfl
  rw [this, hp]
  rfl
/-- an int of the script -/
theorem la_ {p w : Nat} {k v : Int} (hn : S.2.2.1 0 = (0, n)) (hb : n < 2147483648) (h1 : pg_cd 331 p = (5, 1, 0, 0, 0)) (h2 : pg_cd 331 (p + 1) = (3, 1, 0, 3, 0)) (h3 : pg_cd 331 (p + 1 + 1) = (1, w, 0, 0, k)) (h4 : pg_cd 331 (p + 1 + 1 + w) = (10, 1, 0, 0, 0)) (h5 : pg_cd 331 (p + 1 + 1 + w + 1) = (50, 1, 0, 0, 0)) (he : 0 ≤ i + k ∧ i + k < n) (hv : σ 0 (i + k) = v) (t : wi d 331 (p + 1 + 1 + w + 1 + 1) [.ref 0, .ref 1, .ref 83, .int (wI i)] (.int (wI v) :: st) S σ τ Q) : wi d 331 p [.ref 0, .ref 1, .ref 83, .int (wI i)] st S σ τ Q :=
  i5 h1 rfl (i3 h2 rfl (i1 h3 (i10 h4 (i50s h5 hn hb he hv t))))
theorem lb_ {p : Nat} {v : Int} (h1 : pg_cd 331 p = (36, 3, 0, 0, 7)) (h2 : pg_cd 331 (p + 3) = (1, 1, 0, 0, 1)) (h3 : pg_cd 331 (p + 3 + 1) = (38, 3, 0, 0, 4)) (h4 : pg_cd 331 (p + 7) = (1, 1, 0, 0, 0)) (rv : rg v) (t : wi d 331 (p + 8) L (.int (wI (if v = 0 then 0 else 1)) :: st) S σ τ Q) : wi d 331 p L (.int (wI v) :: st) S σ τ Q := by
  refine i36 h1 rv (pc1 := p + 7) (by unfold ab_to; omega) (fun z => ?_) (fun z => ?_)
  · rw [if_pos (show v = 0 from z)] at t
    exact i1 h4 t
  · rw [if_neg (show ¬ v = 0 from z)] at t
    exact i1 h2 (i38 h3 (pc1 := p + 8) (by unfold ab_to; omega) t)
end LWA
theorem lw_kind {S : zS} {σ τ : zI} {Q : zQ} {i j : Int} {n : Nat} (hn : S.2.2.1 0 = (0, n)) (hb : n < 2147483648) (hi : 0 ≤ i ∧ i + 7 ≤ n) (rv : ∀ k, rg (σ 0 k)) (P : PairC S σ τ j 145 206 [.int (wI (σ 0 (i + 1))), .int (wI (σ 0 (i + 2))), .int (wI (σ 0 (i + 3))), .int (wI (σ 0 (i + 4))), .int (wI (σ 0 (i + 5))), .int (wI (σ 0 (i + 6)))]) (K : ∀ S2 σ2 τ2, REL S2 σ2 (j + 1) → σ2 0 = σ 0 → S2.2.2.1 0 = S.2.2.1 0 → wi 60 331 1847 [.ref 0, .ref 1, .ref 83, .int (wI i)] [] S2 σ2 τ2 Q) : wi 60 331 220 [.ref 0, .ref 1, .ref 83, .int (wI i)] [] S σ τ Q := by
  have ok1 : ∀ (T : zS) (σ τ : zI), kO T σ τ → oK T 1 111 0 := fun T σ τ => lo (c := 1) rfl (by decide)
  have ok83 : ∀ (T : zS) (σ τ : zI), kO T σ τ → oK T 83 112 0 := fun T σ τ => lo (c := 83) rfl (by decide)
  refine i5 c_331_220 rfl (la_ hn hb c_331_221 c_331_222 c_331_223 c_331_224 c_331_225 (by omega) rfl (la_ hn hb c_331_226 c_331_227 c_331_228 c_331_229 c_331_230 (by omega) rfl (la_ hn hb c_331_231 c_331_232 c_331_233 c_331_234 c_331_235 (by omega) rfl (la_ hn hb c_331_236 c_331_237 c_331_238 c_331_239 c_331_240 (by omega) rfl (la_ hn hb c_331_241 c_331_242 c_331_243 c_331_244 c_331_245 (by omega) rfl (la_ hn hb c_331_246 c_331_247 c_331_248 c_331_250 c_331_251 (by omega) rfl ?_))))))
  refine i80 (As := [.int (wI (σ 0 (i + 1))), .int (wI (σ 0 (i + 2))), .int (wI (σ 0 (i + 3))), .int (wI (σ 0 (i + 4))), .int (wI (σ 0 (i + 5))), .int (wI (σ 0 (i + 6)))]) (rest := []) (n := 0) c_331_252 mi_145 rfl rfl (Nat.le_of_ble_eq_true rfl) (Nat.le_of_ble_eq_true rfl) (ok1 S _ _) (wc_to P (fun r1 S1 σ1 τ1 _ h => ?_))
  obtain ⟨x, rfl, ⟨e0, eS⟩, P2⟩ := h
  show wi 60 331 255 [.ref 0, .ref 1, .ref 83, .int (wI i)] [.int (wI x)] S1 σ1 τ1 Q
  refine i5 c_331_255 rfl (la_ (eS.trans hn) hb c_331_256 c_331_257 c_331_258 c_331_259 c_331_260 (by omega) (congrFun e0 _) (la_ (eS.trans hn) hb c_331_261 c_331_262 c_331_263 c_331_264 c_331_265 (by omega) (congrFun e0 _) (la_ (eS.trans hn) hb c_331_266 c_331_267 c_331_268 c_331_269 c_331_270 (by omega) (congrFun e0 _) (la_ (eS.trans hn) hb c_331_271 c_331_272 c_331_273 c_331_274 c_331_275 (by omega) (congrFun e0 _) (la_ (eS.trans hn) hb c_331_276 c_331_277 c_331_278 c_331_279 c_331_280 (by omega) (congrFun e0 _) (la_ (eS.trans hn) hb c_331_281 c_331_282 c_331_283 c_331_285 c_331_286 (by omega) (congrFun e0 _) ?_))))))
  refine i80 (As := [.int (wI (σ 0 (i + 1))), .int (wI (σ 0 (i + 2))), .int (wI (σ 0 (i + 3))), .int (wI (σ 0 (i + 4))), .int (wI (σ 0 (i + 5))), .int (wI (σ 0 (i + 6)))]) (rest := [.int (wI x)]) (n := 0) c_331_287 mi_206 rfl rfl (Nat.le_of_ble_eq_true rfl) (Nat.le_of_ble_eq_true rfl) (ok83 S1 _ _) (wc_to P2 (fun r2 S2 σ2 τ2 _ h => ?_))
  obtain ⟨rfl, R2, f0, fS⟩ := h
  show wi 60 331 290 [.ref 0, .ref 1, .ref 83, .int (wI i)] [.int (wI x), .int (wI x)] S2 σ2 τ2 Q
  exact i37e c_331_290 rfl (K S2 σ2 τ2 R2 f0 fS)
theorem lw_price {S : zS} {σ τ : zI} {Q : zQ} {i j : Int} {n : Nat} (hn : S.2.2.1 0 = (0, n)) (hb : n < 2147483648) (hi : 0 ≤ i ∧ i + 7 ≤ n) (rv : ∀ k, rg (σ 0 k)) (P : PairC S σ τ j 146 207 [.int (wI (σ 0 (i + 1))), .int (wI (σ 0 (i + 2))), .int (wI (σ 0 (i + 3)))]) (K : ∀ S2 σ2 τ2, REL S2 σ2 (j + 1) → σ2 0 = σ 0 → S2.2.2.1 0 = S.2.2.1 0 → wi 60 331 1847 [.ref 0, .ref 1, .ref 83, .int (wI i)] [] S2 σ2 τ2 Q) : wi 60 331 295 [.ref 0, .ref 1, .ref 83, .int (wI i)] [] S σ τ Q := by
  have ok1 : ∀ (T : zS) (σ τ : zI), kO T σ τ → oK T 1 111 0 := fun T σ τ => lo (c := 1) rfl (by decide)
  have ok83 : ∀ (T : zS) (σ τ : zI), kO T σ τ → oK T 83 112 0 := fun T σ τ => lo (c := 83) rfl (by decide)
  refine i5 c_331_295 rfl (la_ hn hb c_331_296 c_331_297 c_331_298 c_331_299 c_331_300 (by omega) rfl (la_ hn hb c_331_301 c_331_302 c_331_303 c_331_304 c_331_305 (by omega) rfl (la_ hn hb c_331_306 c_331_307 c_331_308 c_331_309 c_331_310 (by omega) rfl ?_)))
  refine i80 (As := [.int (wI (σ 0 (i + 1))), .int (wI (σ 0 (i + 2))), .int (wI (σ 0 (i + 3)))]) (rest := []) (n := 0) c_331_311 mi_146 rfl rfl (Nat.le_of_ble_eq_true rfl) (Nat.le_of_ble_eq_true rfl) (ok1 S _ _) (wc_to P (fun r1 S1 σ1 τ1 _ h => ?_))
  obtain ⟨x, rfl, ⟨e0, eS⟩, P2⟩ := h
  show wi 60 331 314 [.ref 0, .ref 1, .ref 83, .int (wI i)] [.int (wI x)] S1 σ1 τ1 Q
  refine i5 c_331_314 rfl (la_ (eS.trans hn) hb c_331_315 c_331_316 c_331_317 c_331_318 c_331_319 (by omega) (congrFun e0 _) (la_ (eS.trans hn) hb c_331_320 c_331_321 c_331_322 c_331_323 c_331_324 (by omega) (congrFun e0 _) (la_ (eS.trans hn) hb c_331_325 c_331_326 c_331_327 c_331_328 c_331_329 (by omega) (congrFun e0 _) ?_)))
  refine i80 (As := [.int (wI (σ 0 (i + 1))), .int (wI (σ 0 (i + 2))), .int (wI (σ 0 (i + 3)))]) (rest := [.int (wI x)]) (n := 0) c_331_330 mi_207 rfl rfl (Nat.le_of_ble_eq_true rfl) (Nat.le_of_ble_eq_true rfl) (ok83 S1 _ _) (wc_to P2 (fun r2 S2 σ2 τ2 _ h => ?_))
  obtain ⟨rfl, R2, f0, fS⟩ := h
  show wi 60 331 333 [.ref 0, .ref 1, .ref 83, .int (wI i)] [.int (wI x), .int (wI x)] S2 σ2 τ2 Q
  exact i37e c_331_333 rfl (K S2 σ2 τ2 R2 f0 fS)
theorem lw_mean {S : zS} {σ τ : zI} {Q : zQ} {i j : Int} {n : Nat} (hn : S.2.2.1 0 = (0, n)) (hb : n < 2147483648) (hi : 0 ≤ i ∧ i + 7 ≤ n) (rv : ∀ k, rg (σ 0 k)) (P : PairC S σ τ j 147 208 [.int (wI (σ 0 (i + 1))), .int (wI (σ 0 (i + 2)))]) (K : ∀ S2 σ2 τ2, REL S2 σ2 (j + 1) → σ2 0 = σ 0 → S2.2.2.1 0 = S.2.2.1 0 → wi 60 331 1847 [.ref 0, .ref 1, .ref 83, .int (wI i)] [] S2 σ2 τ2 Q) : wi 60 331 338 [.ref 0, .ref 1, .ref 83, .int (wI i)] [] S σ τ Q := by
  have ok1 : ∀ (T : zS) (σ τ : zI), kO T σ τ → oK T 1 111 0 := fun T σ τ => lo (c := 1) rfl (by decide)
  have ok83 : ∀ (T : zS) (σ τ : zI), kO T σ τ → oK T 83 112 0 := fun T σ τ => lo (c := 83) rfl (by decide)
  refine i5 c_331_338 rfl (la_ hn hb c_331_339 c_331_340 c_331_341 c_331_342 c_331_343 (by omega) rfl (la_ hn hb c_331_344 c_331_345 c_331_346 c_331_347 c_331_348 (by omega) rfl ?_))
  refine i80 (As := [.int (wI (σ 0 (i + 1))), .int (wI (σ 0 (i + 2)))]) (rest := []) (n := 0) c_331_349 mi_147 rfl rfl (Nat.le_of_ble_eq_true rfl) (Nat.le_of_ble_eq_true rfl) (ok1 S _ _) (wc_to P (fun r1 S1 σ1 τ1 _ h => ?_))
  obtain ⟨x, rfl, ⟨e0, eS⟩, P2⟩ := h
  show wi 60 331 352 [.ref 0, .ref 1, .ref 83, .int (wI i)] [.int (wI x)] S1 σ1 τ1 Q
  refine i5 c_331_352 rfl (la_ (eS.trans hn) hb c_331_353 c_331_354 c_331_355 c_331_356 c_331_357 (by omega) (congrFun e0 _) (la_ (eS.trans hn) hb c_331_358 c_331_359 c_331_360 c_331_361 c_331_362 (by omega) (congrFun e0 _) ?_))
  refine i80 (As := [.int (wI (σ 0 (i + 1))), .int (wI (σ 0 (i + 2)))]) (rest := [.int (wI x)]) (n := 0) c_331_363 mi_208 rfl rfl (Nat.le_of_ble_eq_true rfl) (Nat.le_of_ble_eq_true rfl) (ok83 S1 _ _) (wc_to P2 (fun r2 S2 σ2 τ2 _ h => ?_))
  obtain ⟨rfl, R2, f0, fS⟩ := h
  show wi 60 331 366 [.ref 0, .ref 1, .ref 83, .int (wI i)] [.int (wI x), .int (wI x)] S2 σ2 τ2 Q
  exact i37e c_331_366 rfl (K S2 σ2 τ2 R2 f0 fS)
theorem lw_priceOf {S : zS} {σ τ : zI} {Q : zQ} {i j : Int} {n : Nat} (hn : S.2.2.1 0 = (0, n)) (hb : n < 2147483648) (hi : 0 ≤ i ∧ i + 7 ≤ n) (rv : ∀ k, rg (σ 0 k)) (P : PairC S σ τ j 148 210 [.int (wI (σ 0 (i + 1))), .int (wI (σ 0 (i + 2)))]) (K : ∀ S2 σ2 τ2, REL S2 σ2 (j + 1) → σ2 0 = σ 0 → S2.2.2.1 0 = S.2.2.1 0 → wi 60 331 1847 [.ref 0, .ref 1, .ref 83, .int (wI i)] [] S2 σ2 τ2 Q) : wi 60 331 371 [.ref 0, .ref 1, .ref 83, .int (wI i)] [] S σ τ Q := by
  have ok1 : ∀ (T : zS) (σ τ : zI), kO T σ τ → oK T 1 111 0 := fun T σ τ => lo (c := 1) rfl (by decide)
  have ok83 : ∀ (T : zS) (σ τ : zI), kO T σ τ → oK T 83 112 0 := fun T σ τ => lo (c := 83) rfl (by decide)
  refine i5 c_331_371 rfl (la_ hn hb c_331_372 c_331_373 c_331_374 c_331_375 c_331_376 (by omega) rfl (la_ hn hb c_331_377 c_331_378 c_331_379 c_331_380 c_331_381 (by omega) rfl ?_))
  refine i80 (As := [.int (wI (σ 0 (i + 1))), .int (wI (σ 0 (i + 2)))]) (rest := []) (n := 0) c_331_382 mi_148 rfl rfl (Nat.le_of_ble_eq_true rfl) (Nat.le_of_ble_eq_true rfl) (ok1 S _ _) (wc_to P (fun r1 S1 σ1 τ1 _ h => ?_))
  obtain ⟨x, rfl, ⟨e0, eS⟩, P2⟩ := h
  show wi 60 331 385 [.ref 0, .ref 1, .ref 83, .int (wI i)] [.int (wI x)] S1 σ1 τ1 Q
  refine i5 c_331_385 rfl (la_ (eS.trans hn) hb c_331_386 c_331_387 c_331_388 c_331_389 c_331_390 (by omega) (congrFun e0 _) (la_ (eS.trans hn) hb c_331_391 c_331_392 c_331_393 c_331_394 c_331_395 (by omega) (congrFun e0 _) ?_))
  refine i80 (As := [.int (wI (σ 0 (i + 1))), .int (wI (σ 0 (i + 2)))]) (rest := [.int (wI x)]) (n := 0) c_331_396 mi_210 rfl rfl (Nat.le_of_ble_eq_true rfl) (Nat.le_of_ble_eq_true rfl) (ok83 S1 _ _) (wc_to P2 (fun r2 S2 σ2 τ2 _ h => ?_))
  obtain ⟨rfl, R2, f0, fS⟩ := h
  show wi 60 331 399 [.ref 0, .ref 1, .ref 83, .int (wI i)] [.int (wI x), .int (wI x)] S2 σ2 τ2 Q
  exact i37e c_331_399 rfl (K S2 σ2 τ2 R2 f0 fS)
theorem lw_mill {S : zS} {σ τ : zI} {Q : zQ} {i j : Int} {n : Nat} (hn : S.2.2.1 0 = (0, n)) (hb : n < 2147483648) (hi : 0 ≤ i ∧ i + 7 ≤ n) (rv : ∀ k, rg (σ 0 k)) (P : PairC S σ τ j 149 211 [.int (wI (σ 0 (i + 1))), .int (wI (σ 0 (i + 2))), .int (wI (σ 0 (i + 3))), .int (wI (σ 0 (i + 4)))]) (K : ∀ S2 σ2 τ2, REL S2 σ2 (j + 1) → σ2 0 = σ 0 → S2.2.2.1 0 = S.2.2.1 0 → wi 60 331 1847 [.ref 0, .ref 1, .ref 83, .int (wI i)] [] S2 σ2 τ2 Q) : wi 60 331 404 [.ref 0, .ref 1, .ref 83, .int (wI i)] [] S σ τ Q := by
  have ok1 : ∀ (T : zS) (σ τ : zI), kO T σ τ → oK T 1 111 0 := fun T σ τ => lo (c := 1) rfl (by decide)
  have ok83 : ∀ (T : zS) (σ τ : zI), kO T σ τ → oK T 83 112 0 := fun T σ τ => lo (c := 83) rfl (by decide)
  refine i5 c_331_404 rfl (la_ hn hb c_331_405 c_331_406 c_331_407 c_331_408 c_331_409 (by omega) rfl (la_ hn hb c_331_410 c_331_411 c_331_412 c_331_413 c_331_414 (by omega) rfl (la_ hn hb c_331_415 c_331_416 c_331_417 c_331_418 c_331_419 (by omega) rfl (la_ hn hb c_331_420 c_331_421 c_331_422 c_331_423 c_331_424 (by omega) rfl ?_))))
  refine i80 (As := [.int (wI (σ 0 (i + 1))), .int (wI (σ 0 (i + 2))), .int (wI (σ 0 (i + 3))), .int (wI (σ 0 (i + 4)))]) (rest := []) (n := 0) c_331_425 mi_149 rfl rfl (Nat.le_of_ble_eq_true rfl) (Nat.le_of_ble_eq_true rfl) (ok1 S _ _) (wc_to P (fun r1 S1 σ1 τ1 _ h => ?_))
  obtain ⟨x, rfl, ⟨e0, eS⟩, P2⟩ := h
  show wi 60 331 428 [.ref 0, .ref 1, .ref 83, .int (wI i)] [.int (wI x)] S1 σ1 τ1 Q
  refine i5 c_331_428 rfl (la_ (eS.trans hn) hb c_331_429 c_331_430 c_331_431 c_331_432 c_331_433 (by omega) (congrFun e0 _) (la_ (eS.trans hn) hb c_331_434 c_331_435 c_331_436 c_331_437 c_331_438 (by omega) (congrFun e0 _) (la_ (eS.trans hn) hb c_331_439 c_331_440 c_331_441 c_331_442 c_331_443 (by omega) (congrFun e0 _) (la_ (eS.trans hn) hb c_331_444 c_331_445 c_331_446 c_331_447 c_331_448 (by omega) (congrFun e0 _) ?_))))
  refine i80 (As := [.int (wI (σ 0 (i + 1))), .int (wI (σ 0 (i + 2))), .int (wI (σ 0 (i + 3))), .int (wI (σ 0 (i + 4)))]) (rest := [.int (wI x)]) (n := 0) c_331_449 mi_211 rfl rfl (Nat.le_of_ble_eq_true rfl) (Nat.le_of_ble_eq_true rfl) (ok83 S1 _ _) (wc_to P2 (fun r2 S2 σ2 τ2 _ h => ?_))
  obtain ⟨rfl, R2, f0, fS⟩ := h
  show wi 60 331 452 [.ref 0, .ref 1, .ref 83, .int (wI i)] [.int (wI x), .int (wI x)] S2 σ2 τ2 Q
  exact i37e c_331_452 rfl (K S2 σ2 τ2 R2 f0 fS)
theorem lw_shop {S : zS} {σ τ : zI} {Q : zQ} {i j : Int} {n : Nat} (hn : S.2.2.1 0 = (0, n)) (hb : n < 2147483648) (hi : 0 ≤ i ∧ i + 7 ≤ n) (rv : ∀ k, rg (σ 0 k)) (P : PairC S σ τ j 150 212 [.int (wI (σ 0 (i + 1))), .int (wI (σ 0 (i + 2))), .int (wI (σ 0 (i + 3)))]) (K : ∀ S2 σ2 τ2, REL S2 σ2 (j + 1) → σ2 0 = σ 0 → S2.2.2.1 0 = S.2.2.1 0 → wi 60 331 1847 [.ref 0, .ref 1, .ref 83, .int (wI i)] [] S2 σ2 τ2 Q) : wi 60 331 457 [.ref 0, .ref 1, .ref 83, .int (wI i)] [] S σ τ Q := by
  have ok1 : ∀ (T : zS) (σ τ : zI), kO T σ τ → oK T 1 111 0 := fun T σ τ => lo (c := 1) rfl (by decide)
  have ok83 : ∀ (T : zS) (σ τ : zI), kO T σ τ → oK T 83 112 0 := fun T σ τ => lo (c := 83) rfl (by decide)
  refine i5 c_331_457 rfl (la_ hn hb c_331_458 c_331_459 c_331_460 c_331_461 c_331_462 (by omega) rfl (la_ hn hb c_331_463 c_331_464 c_331_465 c_331_466 c_331_467 (by omega) rfl (la_ hn hb c_331_468 c_331_469 c_331_470 c_331_471 c_331_472 (by omega) rfl ?_)))
  refine i80 (As := [.int (wI (σ 0 (i + 1))), .int (wI (σ 0 (i + 2))), .int (wI (σ 0 (i + 3)))]) (rest := []) (n := 0) c_331_473 mi_150 rfl rfl (Nat.le_of_ble_eq_true rfl) (Nat.le_of_ble_eq_true rfl) (ok1 S _ _) (wc_to P (fun r1 S1 σ1 τ1 _ h => ?_))
  obtain ⟨x, rfl, ⟨e0, eS⟩, P2⟩ := h
  show wi 60 331 476 [.ref 0, .ref 1, .ref 83, .int (wI i)] [.int (wI x)] S1 σ1 τ1 Q
  refine i5 c_331_476 rfl (la_ (eS.trans hn) hb c_331_477 c_331_478 c_331_479 c_331_480 c_331_481 (by omega) (congrFun e0 _) (la_ (eS.trans hn) hb c_331_482 c_331_483 c_331_484 c_331_485 c_331_486 (by omega) (congrFun e0 _) (la_ (eS.trans hn) hb c_331_487 c_331_488 c_331_489 c_331_490 c_331_491 (by omega) (congrFun e0 _) ?_)))
  refine i80 (As := [.int (wI (σ 0 (i + 1))), .int (wI (σ 0 (i + 2))), .int (wI (σ 0 (i + 3)))]) (rest := [.int (wI x)]) (n := 0) c_331_492 mi_212 rfl rfl (Nat.le_of_ble_eq_true rfl) (Nat.le_of_ble_eq_true rfl) (ok83 S1 _ _) (wc_to P2 (fun r2 S2 σ2 τ2 _ h => ?_))
  obtain ⟨rfl, R2, f0, fS⟩ := h
  show wi 60 331 495 [.ref 0, .ref 1, .ref 83, .int (wI i)] [.int (wI x), .int (wI x)] S2 σ2 τ2 Q
  exact i37e c_331_495 rfl (K S2 σ2 τ2 R2 f0 fS)
theorem lw_home {S : zS} {σ τ : zI} {Q : zQ} {i j : Int} {n : Nat} (hn : S.2.2.1 0 = (0, n)) (hb : n < 2147483648) (hi : 0 ≤ i ∧ i + 7 ≤ n) (rv : ∀ k, rg (σ 0 k)) (P : PairC S σ τ j 151 213 [.int (wI (σ 0 (i + 1))), .int (wI (σ 0 (i + 2)))]) (K : ∀ S2 σ2 τ2, REL S2 σ2 (j + 1) → σ2 0 = σ 0 → S2.2.2.1 0 = S.2.2.1 0 → wi 60 331 1847 [.ref 0, .ref 1, .ref 83, .int (wI i)] [] S2 σ2 τ2 Q) : wi 60 331 500 [.ref 0, .ref 1, .ref 83, .int (wI i)] [] S σ τ Q := by
  have ok1 : ∀ (T : zS) (σ τ : zI), kO T σ τ → oK T 1 111 0 := fun T σ τ => lo (c := 1) rfl (by decide)
  have ok83 : ∀ (T : zS) (σ τ : zI), kO T σ τ → oK T 83 112 0 := fun T σ τ => lo (c := 83) rfl (by decide)
  refine i5 c_331_500 rfl (la_ hn hb c_331_501 c_331_502 c_331_503 c_331_504 c_331_505 (by omega) rfl (la_ hn hb c_331_506 c_331_507 c_331_508 c_331_509 c_331_510 (by omega) rfl ?_))
  refine i80 (As := [.int (wI (σ 0 (i + 1))), .int (wI (σ 0 (i + 2)))]) (rest := []) (n := 0) c_331_511 mi_151 rfl rfl (Nat.le_of_ble_eq_true rfl) (Nat.le_of_ble_eq_true rfl) (ok1 S _ _) (wc_to P (fun r1 S1 σ1 τ1 _ h => ?_))
  obtain ⟨x, rfl, ⟨e0, eS⟩, P2⟩ := h
  show wi 60 331 514 [.ref 0, .ref 1, .ref 83, .int (wI i)] [.int (wI x)] S1 σ1 τ1 Q
  refine i5 c_331_514 rfl (la_ (eS.trans hn) hb c_331_515 c_331_516 c_331_517 c_331_518 c_331_519 (by omega) (congrFun e0 _) (la_ (eS.trans hn) hb c_331_520 c_331_521 c_331_522 c_331_523 c_331_524 (by omega) (congrFun e0 _) ?_))
  refine i80 (As := [.int (wI (σ 0 (i + 1))), .int (wI (σ 0 (i + 2)))]) (rest := [.int (wI x)]) (n := 0) c_331_525 mi_213 rfl rfl (Nat.le_of_ble_eq_true rfl) (Nat.le_of_ble_eq_true rfl) (ok83 S1 _ _) (wc_to P2 (fun r2 S2 σ2 τ2 _ h => ?_))
  obtain ⟨rfl, R2, f0, fS⟩ := h
  show wi 60 331 528 [.ref 0, .ref 1, .ref 83, .int (wI i)] [.int (wI x), .int (wI x)] S2 σ2 τ2 Q
  exact i37e c_331_528 rfl (K S2 σ2 τ2 R2 f0 fS)
theorem lw_person {S : zS} {σ τ : zI} {Q : zQ} {i j : Int} {n : Nat} (hn : S.2.2.1 0 = (0, n)) (hb : n < 2147483648) (hi : 0 ≤ i ∧ i + 7 ≤ n) (rv : ∀ k, rg (σ 0 k)) (P : PairC S σ τ j 152 214 [.int (wI (σ 0 (i + 1))), .int (wI (σ 0 (i + 2))), .int (wI (σ 0 (i + 3)))]) (K : ∀ S2 σ2 τ2, REL S2 σ2 (j + 1) → σ2 0 = σ 0 → S2.2.2.1 0 = S.2.2.1 0 → wi 60 331 1847 [.ref 0, .ref 1, .ref 83, .int (wI i)] [] S2 σ2 τ2 Q) : wi 60 331 533 [.ref 0, .ref 1, .ref 83, .int (wI i)] [] S σ τ Q := by
  have ok1 : ∀ (T : zS) (σ τ : zI), kO T σ τ → oK T 1 111 0 := fun T σ τ => lo (c := 1) rfl (by decide)
  have ok83 : ∀ (T : zS) (σ τ : zI), kO T σ τ → oK T 83 112 0 := fun T σ τ => lo (c := 83) rfl (by decide)
  refine i5 c_331_533 rfl (la_ hn hb c_331_534 c_331_535 c_331_536 c_331_537 c_331_538 (by omega) rfl (la_ hn hb c_331_539 c_331_540 c_331_541 c_331_542 c_331_543 (by omega) rfl (la_ hn hb c_331_544 c_331_545 c_331_546 c_331_547 c_331_548 (by omega) rfl ?_)))
  refine i80 (As := [.int (wI (σ 0 (i + 1))), .int (wI (σ 0 (i + 2))), .int (wI (σ 0 (i + 3)))]) (rest := []) (n := 0) c_331_549 mi_152 rfl rfl (Nat.le_of_ble_eq_true rfl) (Nat.le_of_ble_eq_true rfl) (ok1 S _ _) (wc_to P (fun r1 S1 σ1 τ1 _ h => ?_))
  obtain ⟨x, rfl, ⟨e0, eS⟩, P2⟩ := h
  show wi 60 331 552 [.ref 0, .ref 1, .ref 83, .int (wI i)] [.int (wI x)] S1 σ1 τ1 Q
  refine i5 c_331_552 rfl (la_ (eS.trans hn) hb c_331_553 c_331_554 c_331_555 c_331_556 c_331_557 (by omega) (congrFun e0 _) (la_ (eS.trans hn) hb c_331_558 c_331_559 c_331_560 c_331_561 c_331_562 (by omega) (congrFun e0 _) (la_ (eS.trans hn) hb c_331_563 c_331_564 c_331_565 c_331_566 c_331_567 (by omega) (congrFun e0 _) ?_)))
  refine i80 (As := [.int (wI (σ 0 (i + 1))), .int (wI (σ 0 (i + 2))), .int (wI (σ 0 (i + 3)))]) (rest := [.int (wI x)]) (n := 0) c_331_568 mi_214 rfl rfl (Nat.le_of_ble_eq_true rfl) (Nat.le_of_ble_eq_true rfl) (ok83 S1 _ _) (wc_to P2 (fun r2 S2 σ2 τ2 _ h => ?_))
  obtain ⟨rfl, R2, f0, fS⟩ := h
  show wi 60 331 571 [.ref 0, .ref 1, .ref 83, .int (wI i)] [.int (wI x), .int (wI x)] S2 σ2 τ2 Q
  exact i37e c_331_571 rfl (K S2 σ2 τ2 R2 f0 fS)
theorem lw_work {S : zS} {σ τ : zI} {Q : zQ} {i j : Int} {n : Nat} (hn : S.2.2.1 0 = (0, n)) (hb : n < 2147483648) (hi : 0 ≤ i ∧ i + 7 ≤ n) (rv : ∀ k, rg (σ 0 k)) (P : PairC S σ τ j 153 218 [.int (wI (σ 0 (i + 1))), .int (wI (σ 0 (i + 2))), .int (wI (σ 0 (i + 3))), .int (wI (σ 0 (i + 4)))]) (K : ∀ S2 σ2 τ2, REL S2 σ2 (j + 1) → σ2 0 = σ 0 → S2.2.2.1 0 = S.2.2.1 0 → wi 60 331 1847 [.ref 0, .ref 1, .ref 83, .int (wI i)] [] S2 σ2 τ2 Q) : wi 60 331 576 [.ref 0, .ref 1, .ref 83, .int (wI i)] [] S σ τ Q := by
  have ok1 : ∀ (T : zS) (σ τ : zI), kO T σ τ → oK T 1 111 0 := fun T σ τ => lo (c := 1) rfl (by decide)
  have ok83 : ∀ (T : zS) (σ τ : zI), kO T σ τ → oK T 83 112 0 := fun T σ τ => lo (c := 83) rfl (by decide)
  refine i5 c_331_576 rfl (la_ hn hb c_331_577 c_331_578 c_331_579 c_331_580 c_331_581 (by omega) rfl (la_ hn hb c_331_582 c_331_583 c_331_584 c_331_585 c_331_586 (by omega) rfl (la_ hn hb c_331_587 c_331_588 c_331_589 c_331_590 c_331_591 (by omega) rfl (la_ hn hb c_331_592 c_331_593 c_331_594 c_331_595 c_331_596 (by omega) rfl ?_))))
  refine i80 (As := [.int (wI (σ 0 (i + 1))), .int (wI (σ 0 (i + 2))), .int (wI (σ 0 (i + 3))), .int (wI (σ 0 (i + 4)))]) (rest := []) (n := 0) c_331_597 mi_153 rfl rfl (Nat.le_of_ble_eq_true rfl) (Nat.le_of_ble_eq_true rfl) (ok1 S _ _) (wc_to P (fun r1 S1 σ1 τ1 _ h => ?_))
  obtain ⟨x, rfl, ⟨e0, eS⟩, P2⟩ := h
  show wi 60 331 600 [.ref 0, .ref 1, .ref 83, .int (wI i)] [.int (wI x)] S1 σ1 τ1 Q
  refine i5 c_331_600 rfl (la_ (eS.trans hn) hb c_331_601 c_331_602 c_331_603 c_331_604 c_331_605 (by omega) (congrFun e0 _) (la_ (eS.trans hn) hb c_331_606 c_331_607 c_331_608 c_331_609 c_331_610 (by omega) (congrFun e0 _) (la_ (eS.trans hn) hb c_331_611 c_331_612 c_331_613 c_331_614 c_331_615 (by omega) (congrFun e0 _) (la_ (eS.trans hn) hb c_331_616 c_331_617 c_331_618 c_331_619 c_331_620 (by omega) (congrFun e0 _) ?_))))
  refine i80 (As := [.int (wI (σ 0 (i + 1))), .int (wI (σ 0 (i + 2))), .int (wI (σ 0 (i + 3))), .int (wI (σ 0 (i + 4)))]) (rest := [.int (wI x)]) (n := 0) c_331_621 mi_218 rfl rfl (Nat.le_of_ble_eq_true rfl) (Nat.le_of_ble_eq_true rfl) (ok83 S1 _ _) (wc_to P2 (fun r2 S2 σ2 τ2 _ h => ?_))
  obtain ⟨rfl, R2, f0, fS⟩ := h
  show wi 60 331 624 [.ref 0, .ref 1, .ref 83, .int (wI i)] [.int (wI x), .int (wI x)] S2 σ2 τ2 Q
  exact i37e c_331_624 rfl (K S2 σ2 τ2 R2 f0 fS)
theorem lw_feed {S : zS} {σ τ : zI} {Q : zQ} {i j : Int} {n : Nat} (hn : S.2.2.1 0 = (0, n)) (hb : n < 2147483648) (hi : 0 ≤ i ∧ i + 7 ≤ n) (rv : ∀ k, rg (σ 0 k)) (P : PairC S σ τ j 156 226 [.int (wI (σ 0 (i + 1))), .int (wI (σ 0 (i + 2))), .int (wI (σ 0 (i + 3))), .int (wI (σ 0 (i + 4))), .int (wI (σ 0 (i + 5)))]) (K : ∀ S2 σ2 τ2, REL S2 σ2 (j + 1) → σ2 0 = σ 0 → S2.2.2.1 0 = S.2.2.1 0 → wi 60 331 1847 [.ref 0, .ref 1, .ref 83, .int (wI i)] [] S2 σ2 τ2 Q) : wi 60 331 629 [.ref 0, .ref 1, .ref 83, .int (wI i)] [] S σ τ Q := by
  have ok1 : ∀ (T : zS) (σ τ : zI), kO T σ τ → oK T 1 111 0 := fun T σ τ => lo (c := 1) rfl (by decide)
  have ok83 : ∀ (T : zS) (σ τ : zI), kO T σ τ → oK T 83 112 0 := fun T σ τ => lo (c := 83) rfl (by decide)
  refine i5 c_331_629 rfl (la_ hn hb c_331_630 c_331_631 c_331_632 c_331_633 c_331_634 (by omega) rfl (la_ hn hb c_331_635 c_331_636 c_331_637 c_331_638 c_331_639 (by omega) rfl (la_ hn hb c_331_640 c_331_641 c_331_642 c_331_643 c_331_644 (by omega) rfl (la_ hn hb c_331_645 c_331_646 c_331_647 c_331_648 c_331_649 (by omega) rfl (la_ hn hb c_331_650 c_331_651 c_331_652 c_331_653 c_331_654 (by omega) rfl ?_)))))
  refine i80 (As := [.int (wI (σ 0 (i + 1))), .int (wI (σ 0 (i + 2))), .int (wI (σ 0 (i + 3))), .int (wI (σ 0 (i + 4))), .int (wI (σ 0 (i + 5)))]) (rest := []) (n := 0) c_331_655 mi_156 rfl rfl (Nat.le_of_ble_eq_true rfl) (Nat.le_of_ble_eq_true rfl) (ok1 S _ _) (wc_to P (fun r1 S1 σ1 τ1 _ h => ?_))
  obtain ⟨x, rfl, ⟨e0, eS⟩, P2⟩ := h
  show wi 60 331 658 [.ref 0, .ref 1, .ref 83, .int (wI i)] [.int (wI x)] S1 σ1 τ1 Q
  refine i5 c_331_658 rfl (la_ (eS.trans hn) hb c_331_659 c_331_660 c_331_661 c_331_662 c_331_663 (by omega) (congrFun e0 _) (la_ (eS.trans hn) hb c_331_664 c_331_665 c_331_666 c_331_667 c_331_668 (by omega) (congrFun e0 _) (la_ (eS.trans hn) hb c_331_669 c_331_670 c_331_671 c_331_672 c_331_673 (by omega) (congrFun e0 _) (la_ (eS.trans hn) hb c_331_674 c_331_675 c_331_676 c_331_677 c_331_678 (by omega) (congrFun e0 _) (la_ (eS.trans hn) hb c_331_679 c_331_680 c_331_681 c_331_682 c_331_683 (by omega) (congrFun e0 _) ?_)))))
  refine i80 (As := [.int (wI (σ 0 (i + 1))), .int (wI (σ 0 (i + 2))), .int (wI (σ 0 (i + 3))), .int (wI (σ 0 (i + 4))), .int (wI (σ 0 (i + 5)))]) (rest := [.int (wI x)]) (n := 0) c_331_684 mi_226 rfl rfl (Nat.le_of_ble_eq_true rfl) (Nat.le_of_ble_eq_true rfl) (ok83 S1 _ _) (wc_to P2 (fun r2 S2 σ2 τ2 _ h => ?_))
  obtain ⟨rfl, R2, f0, fS⟩ := h
  show wi 60 331 687 [.ref 0, .ref 1, .ref 83, .int (wI i)] [.int (wI x), .int (wI x)] S2 σ2 τ2 Q
  exact i37e c_331_687 rfl (K S2 σ2 τ2 R2 f0 fS)
theorem lw_end {S : zS} {σ τ : zI} {Q : zQ} {i j : Int} {n : Nat} (hn : S.2.2.1 0 = (0, n)) (hb : n < 2147483648) (hi : 0 ≤ i ∧ i + 7 ≤ n) (rv : ∀ k, rg (σ 0 k)) (P : PairC S σ τ j 158 227 [.int (wI (σ 0 (i + 1)))]) (K : ∀ S2 σ2 τ2, REL S2 σ2 (j + 1) → σ2 0 = σ 0 → S2.2.2.1 0 = S.2.2.1 0 → wi 60 331 1847 [.ref 0, .ref 1, .ref 83, .int (wI i)] [] S2 σ2 τ2 Q) : wi 60 331 692 [.ref 0, .ref 1, .ref 83, .int (wI i)] [] S σ τ Q := by
  have ok1 : ∀ (T : zS) (σ τ : zI), kO T σ τ → oK T 1 111 0 := fun T σ τ => lo (c := 1) rfl (by decide)
  have ok83 : ∀ (T : zS) (σ τ : zI), kO T σ τ → oK T 83 112 0 := fun T σ τ => lo (c := 83) rfl (by decide)
  refine i5 c_331_692 rfl (la_ hn hb c_331_693 c_331_694 c_331_695 c_331_696 c_331_697 (by omega) rfl ?_)
  refine i80 (As := [.int (wI (σ 0 (i + 1)))]) (rest := []) (n := 0) c_331_698 mi_158 rfl rfl (Nat.le_of_ble_eq_true rfl) (Nat.le_of_ble_eq_true rfl) (ok1 S _ _) (wc_to P (fun r1 S1 σ1 τ1 _ h => ?_))
  obtain ⟨x, rfl, ⟨e0, eS⟩, P2⟩ := h
  show wi 60 331 701 [.ref 0, .ref 1, .ref 83, .int (wI i)] [.int (wI x)] S1 σ1 τ1 Q
  refine i5 c_331_701 rfl (la_ (eS.trans hn) hb c_331_702 c_331_703 c_331_704 c_331_705 c_331_706 (by omega) (congrFun e0 _) ?_)
  refine i80 (As := [.int (wI (σ 0 (i + 1)))]) (rest := [.int (wI x)]) (n := 0) c_331_707 mi_227 rfl rfl (Nat.le_of_ble_eq_true rfl) (Nat.le_of_ble_eq_true rfl) (ok83 S1 _ _) (wc_to P2 (fun r2 S2 σ2 τ2 _ h => ?_))
  obtain ⟨rfl, R2, f0, fS⟩ := h
  show wi 60 331 710 [.ref 0, .ref 1, .ref 83, .int (wI i)] [.int (wI x), .int (wI x)] S2 σ2 τ2 Q
  exact i37e c_331_710 rfl (K S2 σ2 τ2 R2 f0 fS)
theorem lw_text {S : zS} {σ τ : zI} {Q : zQ} {i j : Int} {n : Nat} (hn : S.2.2.1 0 = (0, n)) (hb : n < 2147483648) (hi : 0 ≤ i ∧ i + 7 ≤ n) (rv : ∀ k, rg (σ 0 k)) (P : PairC S σ τ j 159 259 []) (K : ∀ S2 σ2 τ2, REL S2 σ2 (j + 1) → σ2 0 = σ 0 → S2.2.2.1 0 = S.2.2.1 0 → wi 60 331 1847 [.ref 0, .ref 1, .ref 83, .int (wI i)] [] S2 σ2 τ2 Q) : wi 60 331 715 [.ref 0, .ref 1, .ref 83, .int (wI i)] [] S σ τ Q := by
  have ok1 : ∀ (T : zS) (σ τ : zI), kO T σ τ → oK T 1 111 0 := fun T σ τ => lo (c := 1) rfl (by decide)
  have ok83 : ∀ (T : zS) (σ τ : zI), kO T σ τ → oK T 83 112 0 := fun T σ τ => lo (c := 83) rfl (by decide)
  refine i5 c_331_715 rfl ?_
  refine i80 (As := []) (rest := []) (n := 0) c_331_716 mi_159 rfl rfl (Nat.le_of_ble_eq_true rfl) (Nat.le_of_ble_eq_true rfl) (ok1 S _ _) (wc_to P (fun r1 S1 σ1 τ1 _ h => ?_))
  obtain ⟨x, rfl, ⟨e0, eS⟩, P2⟩ := h
  show wi 60 331 719 [.ref 0, .ref 1, .ref 83, .int (wI i)] [.int (wI x)] S1 σ1 τ1 Q
  refine i5 c_331_719 rfl ?_
  refine i80 (As := []) (rest := [.int (wI x)]) (n := 0) c_331_720 mi_259 rfl rfl (Nat.le_of_ble_eq_true rfl) (Nat.le_of_ble_eq_true rfl) (ok83 S1 _ _) (wc_to P2 (fun r2 S2 σ2 τ2 _ h => ?_))
  obtain ⟨rfl, R2, f0, fS⟩ := h
  show wi 60 331 723 [.ref 0, .ref 1, .ref 83, .int (wI i)] [.int (wI x), .int (wI x)] S2 σ2 τ2 Q
  exact i37e c_331_723 rfl (K S2 σ2 τ2 R2 f0 fS)
theorem lw_fault {S : zS} {σ τ : zI} {Q : zQ} {i j : Int} {n : Nat} (hn : S.2.2.1 0 = (0, n)) (hb : n < 2147483648) (hi : 0 ≤ i ∧ i + 7 ≤ n) (rv : ∀ k, rg (σ 0 k)) (P : PairC S σ τ j 160 260 [.int (wI (σ 0 (i + 1)))]) (K : ∀ S2 σ2 τ2, REL S2 σ2 (j + 1) → σ2 0 = σ 0 → S2.2.2.1 0 = S.2.2.1 0 → wi 60 331 1847 [.ref 0, .ref 1, .ref 83, .int (wI i)] [] S2 σ2 τ2 Q) : wi 60 331 728 [.ref 0, .ref 1, .ref 83, .int (wI i)] [] S σ τ Q := by
  have ok1 : ∀ (T : zS) (σ τ : zI), kO T σ τ → oK T 1 111 0 := fun T σ τ => lo (c := 1) rfl (by decide)
  have ok83 : ∀ (T : zS) (σ τ : zI), kO T σ τ → oK T 83 112 0 := fun T σ τ => lo (c := 83) rfl (by decide)
  refine i5 c_331_728 rfl (la_ hn hb c_331_729 c_331_730 c_331_731 c_331_732 c_331_733 (by omega) rfl ?_)
  refine i80 (As := [.int (wI (σ 0 (i + 1)))]) (rest := []) (n := 0) c_331_734 mi_160 rfl rfl (Nat.le_of_ble_eq_true rfl) (Nat.le_of_ble_eq_true rfl) (ok1 S _ _) (wc_to P (fun r1 S1 σ1 τ1 _ h => ?_))
  obtain ⟨x, rfl, ⟨e0, eS⟩, P2⟩ := h
  show wi 60 331 737 [.ref 0, .ref 1, .ref 83, .int (wI i)] [.int (wI x)] S1 σ1 τ1 Q
  refine i5 c_331_737 rfl (la_ (eS.trans hn) hb c_331_738 c_331_739 c_331_740 c_331_741 c_331_742 (by omega) (congrFun e0 _) ?_)
  refine i80 (As := [.int (wI (σ 0 (i + 1)))]) (rest := [.int (wI x)]) (n := 0) c_331_743 mi_260 rfl rfl (Nat.le_of_ble_eq_true rfl) (Nat.le_of_ble_eq_true rfl) (ok83 S1 _ _) (wc_to P2 (fun r2 S2 σ2 τ2 _ h => ?_))
  obtain ⟨rfl, R2, f0, fS⟩ := h
  show wi 60 331 746 [.ref 0, .ref 1, .ref 83, .int (wI i)] [.int (wI x), .int (wI x)] S2 σ2 τ2 Q
  exact i37e c_331_746 rfl (K S2 σ2 τ2 R2 f0 fS)
theorem lw_force {S : zS} {σ τ : zI} {Q : zQ} {i j : Int} {n : Nat} (hn : S.2.2.1 0 = (0, n)) (hb : n < 2147483648) (hi : 0 ≤ i ∧ i + 7 ≤ n) (rv : ∀ k, rg (σ 0 k)) (P : PairC S σ τ j 161 219 [.int (wI (σ 0 (i + 1))), .int (wI (σ 0 (i + 2))), .int (wI (σ 0 (i + 3))), .int (wI (σ 0 (i + 4)))]) (K : ∀ S2 σ2 τ2, REL S2 σ2 (j + 1) → σ2 0 = σ 0 → S2.2.2.1 0 = S.2.2.1 0 → wi 60 331 1847 [.ref 0, .ref 1, .ref 83, .int (wI i)] [] S2 σ2 τ2 Q) : wi 60 331 751 [.ref 0, .ref 1, .ref 83, .int (wI i)] [] S σ τ Q := by
  have ok1 : ∀ (T : zS) (σ τ : zI), kO T σ τ → oK T 1 111 0 := fun T σ τ => lo (c := 1) rfl (by decide)
  have ok83 : ∀ (T : zS) (σ τ : zI), kO T σ τ → oK T 83 112 0 := fun T σ τ => lo (c := 83) rfl (by decide)
  refine i5 c_331_751 rfl (la_ hn hb c_331_752 c_331_753 c_331_754 c_331_755 c_331_756 (by omega) rfl (la_ hn hb c_331_757 c_331_758 c_331_759 c_331_760 c_331_761 (by omega) rfl (la_ hn hb c_331_762 c_331_763 c_331_764 c_331_765 c_331_766 (by omega) rfl (la_ hn hb c_331_767 c_331_768 c_331_769 c_331_770 c_331_771 (by omega) rfl ?_))))
  refine i80 (As := [.int (wI (σ 0 (i + 1))), .int (wI (σ 0 (i + 2))), .int (wI (σ 0 (i + 3))), .int (wI (σ 0 (i + 4)))]) (rest := []) (n := 0) c_331_772 mi_161 rfl rfl (Nat.le_of_ble_eq_true rfl) (Nat.le_of_ble_eq_true rfl) (ok1 S _ _) (wc_to P (fun r1 S1 σ1 τ1 _ h => ?_))
  obtain ⟨x, rfl, ⟨e0, eS⟩, P2⟩ := h
  show wi 60 331 775 [.ref 0, .ref 1, .ref 83, .int (wI i)] [.int (wI x)] S1 σ1 τ1 Q
  refine i5 c_331_775 rfl (la_ (eS.trans hn) hb c_331_776 c_331_777 c_331_778 c_331_779 c_331_780 (by omega) (congrFun e0 _) (la_ (eS.trans hn) hb c_331_781 c_331_782 c_331_783 c_331_784 c_331_785 (by omega) (congrFun e0 _) (la_ (eS.trans hn) hb c_331_786 c_331_787 c_331_788 c_331_789 c_331_790 (by omega) (congrFun e0 _) (la_ (eS.trans hn) hb c_331_791 c_331_792 c_331_793 c_331_794 c_331_795 (by omega) (congrFun e0 _) ?_))))
  refine i80 (As := [.int (wI (σ 0 (i + 1))), .int (wI (σ 0 (i + 2))), .int (wI (σ 0 (i + 3))), .int (wI (σ 0 (i + 4)))]) (rest := [.int (wI x)]) (n := 0) c_331_796 mi_219 rfl rfl (Nat.le_of_ble_eq_true rfl) (Nat.le_of_ble_eq_true rfl) (ok83 S1 _ _) (wc_to P2 (fun r2 S2 σ2 τ2 _ h => ?_))
  obtain ⟨rfl, R2, f0, fS⟩ := h
  show wi 60 331 799 [.ref 0, .ref 1, .ref 83, .int (wI i)] [.int (wI x), .int (wI x)] S2 σ2 τ2 Q
  exact i37e c_331_799 rfl (K S2 σ2 τ2 R2 f0 fS)
theorem lw_pay {S : zS} {σ τ : zI} {Q : zQ} {i j : Int} {n : Nat} (hn : S.2.2.1 0 = (0, n)) (hb : n < 2147483648) (hi : 0 ≤ i ∧ i + 7 ≤ n) (rv : ∀ k, rg (σ 0 k)) (P : PairC S σ τ j 163 273 [.int (wI (σ 0 (i + 1))), .int (wI (σ 0 (i + 2))), .int (wI (σ 0 (i + 3))), .int (wI (σ 0 (i + 4)))]) (K : ∀ S2 σ2 τ2, REL S2 σ2 (j + 1) → σ2 0 = σ 0 → S2.2.2.1 0 = S.2.2.1 0 → wi 60 331 1847 [.ref 0, .ref 1, .ref 83, .int (wI i)] [] S2 σ2 τ2 Q) : wi 60 331 804 [.ref 0, .ref 1, .ref 83, .int (wI i)] [] S σ τ Q := by
  have ok1 : ∀ (T : zS) (σ τ : zI), kO T σ τ → oK T 1 111 0 := fun T σ τ => lo (c := 1) rfl (by decide)
  have ok83 : ∀ (T : zS) (σ τ : zI), kO T σ τ → oK T 83 112 0 := fun T σ τ => lo (c := 83) rfl (by decide)
  refine i5 c_331_804 rfl (la_ hn hb c_331_805 c_331_806 c_331_807 c_331_808 c_331_809 (by omega) rfl (la_ hn hb c_331_810 c_331_811 c_331_812 c_331_813 c_331_814 (by omega) rfl (la_ hn hb c_331_815 c_331_816 c_331_817 c_331_818 c_331_819 (by omega) rfl (la_ hn hb c_331_820 c_331_821 c_331_822 c_331_823 c_331_824 (by omega) rfl ?_))))
  refine i80 (As := [.int (wI (σ 0 (i + 1))), .int (wI (σ 0 (i + 2))), .int (wI (σ 0 (i + 3))), .int (wI (σ 0 (i + 4)))]) (rest := []) (n := 0) c_331_825 mi_163 rfl rfl (Nat.le_of_ble_eq_true rfl) (Nat.le_of_ble_eq_true rfl) (ok1 S _ _) (wc_to P (fun r1 S1 σ1 τ1 _ h => ?_))
  obtain ⟨x, rfl, ⟨e0, eS⟩, P2⟩ := h
  show wi 60 331 828 [.ref 0, .ref 1, .ref 83, .int (wI i)] [.int (wI x)] S1 σ1 τ1 Q
  refine i5 c_331_828 rfl (la_ (eS.trans hn) hb c_331_829 c_331_830 c_331_831 c_331_832 c_331_833 (by omega) (congrFun e0 _) (la_ (eS.trans hn) hb c_331_834 c_331_835 c_331_836 c_331_837 c_331_838 (by omega) (congrFun e0 _) (la_ (eS.trans hn) hb c_331_839 c_331_840 c_331_841 c_331_842 c_331_843 (by omega) (congrFun e0 _) (la_ (eS.trans hn) hb c_331_844 c_331_845 c_331_846 c_331_847 c_331_848 (by omega) (congrFun e0 _) ?_))))
  refine i80 (As := [.int (wI (σ 0 (i + 1))), .int (wI (σ 0 (i + 2))), .int (wI (σ 0 (i + 3))), .int (wI (σ 0 (i + 4)))]) (rest := [.int (wI x)]) (n := 0) c_331_849 mi_273 rfl rfl (Nat.le_of_ble_eq_true rfl) (Nat.le_of_ble_eq_true rfl) (ok83 S1 _ _) (wc_to P2 (fun r2 S2 σ2 τ2 _ h => ?_))
  obtain ⟨rfl, R2, f0, fS⟩ := h
  show wi 60 331 852 [.ref 0, .ref 1, .ref 83, .int (wI i)] [.int (wI x), .int (wI x)] S2 σ2 τ2 Q
  exact i37e c_331_852 rfl (K S2 σ2 τ2 R2 f0 fS)
theorem lw_why {S : zS} {σ τ : zI} {Q : zQ} {i j : Int} {n : Nat} (hn : S.2.2.1 0 = (0, n)) (hb : n < 2147483648) (hi : 0 ≤ i ∧ i + 7 ≤ n) (rv : ∀ k, rg (σ 0 k)) (P : PairC S σ τ j 164 274 [.int (wI (σ 0 (i + 1))), .int (wI (σ 0 (i + 2))), .int (wI (σ 0 (i + 3))), .int (wI (σ 0 (i + 4))), .int (wI (σ 0 (i + 5)))]) (K : ∀ S2 σ2 τ2, REL S2 σ2 (j + 1) → σ2 0 = σ 0 → S2.2.2.1 0 = S.2.2.1 0 → wi 60 331 1847 [.ref 0, .ref 1, .ref 83, .int (wI i)] [] S2 σ2 τ2 Q) : wi 60 331 857 [.ref 0, .ref 1, .ref 83, .int (wI i)] [] S σ τ Q := by
  have ok1 : ∀ (T : zS) (σ τ : zI), kO T σ τ → oK T 1 111 0 := fun T σ τ => lo (c := 1) rfl (by decide)
  have ok83 : ∀ (T : zS) (σ τ : zI), kO T σ τ → oK T 83 112 0 := fun T σ τ => lo (c := 83) rfl (by decide)
  refine i5 c_331_857 rfl (la_ hn hb c_331_858 c_331_859 c_331_860 c_331_861 c_331_862 (by omega) rfl (la_ hn hb c_331_863 c_331_864 c_331_865 c_331_866 c_331_867 (by omega) rfl (la_ hn hb c_331_868 c_331_869 c_331_870 c_331_871 c_331_872 (by omega) rfl (la_ hn hb c_331_873 c_331_874 c_331_875 c_331_876 c_331_877 (by omega) rfl (la_ hn hb c_331_878 c_331_879 c_331_880 c_331_881 c_331_882 (by omega) rfl ?_)))))
  refine i80 (As := [.int (wI (σ 0 (i + 1))), .int (wI (σ 0 (i + 2))), .int (wI (σ 0 (i + 3))), .int (wI (σ 0 (i + 4))), .int (wI (σ 0 (i + 5)))]) (rest := []) (n := 0) c_331_883 mi_164 rfl rfl (Nat.le_of_ble_eq_true rfl) (Nat.le_of_ble_eq_true rfl) (ok1 S _ _) (wc_to P (fun r1 S1 σ1 τ1 _ h => ?_))
  obtain ⟨x, rfl, ⟨e0, eS⟩, P2⟩ := h
  show wi 60 331 886 [.ref 0, .ref 1, .ref 83, .int (wI i)] [.int (wI x)] S1 σ1 τ1 Q
  refine i5 c_331_886 rfl (la_ (eS.trans hn) hb c_331_887 c_331_888 c_331_889 c_331_890 c_331_891 (by omega) (congrFun e0 _) (la_ (eS.trans hn) hb c_331_892 c_331_893 c_331_894 c_331_895 c_331_896 (by omega) (congrFun e0 _) (la_ (eS.trans hn) hb c_331_897 c_331_898 c_331_899 c_331_900 c_331_901 (by omega) (congrFun e0 _) (la_ (eS.trans hn) hb c_331_902 c_331_903 c_331_904 c_331_905 c_331_906 (by omega) (congrFun e0 _) (la_ (eS.trans hn) hb c_331_907 c_331_908 c_331_909 c_331_910 c_331_911 (by omega) (congrFun e0 _) ?_)))))
  refine i80 (As := [.int (wI (σ 0 (i + 1))), .int (wI (σ 0 (i + 2))), .int (wI (σ 0 (i + 3))), .int (wI (σ 0 (i + 4))), .int (wI (σ 0 (i + 5)))]) (rest := [.int (wI x)]) (n := 0) c_331_912 mi_274 rfl rfl (Nat.le_of_ble_eq_true rfl) (Nat.le_of_ble_eq_true rfl) (ok83 S1 _ _) (wc_to P2 (fun r2 S2 σ2 τ2 _ h => ?_))
  obtain ⟨rfl, R2, f0, fS⟩ := h
  show wi 60 331 915 [.ref 0, .ref 1, .ref 83, .int (wI i)] [.int (wI x), .int (wI x)] S2 σ2 τ2 Q
  exact i37e c_331_915 rfl (K S2 σ2 τ2 R2 f0 fS)
theorem lw_hours {S : zS} {σ τ : zI} {Q : zQ} {i j : Int} {n : Nat} (hn : S.2.2.1 0 = (0, n)) (hb : n < 2147483648) (hi : 0 ≤ i ∧ i + 7 ≤ n) (rv : ∀ k, rg (σ 0 k)) (P : PairC S σ τ j 165 277 [.int (wI (σ 0 (i + 1))), .int (wI (σ 0 (i + 2))), .int (wI (σ 0 (i + 3))), .int (wI (σ 0 (i + 4)))]) (K : ∀ S2 σ2 τ2, REL S2 σ2 (j + 1) → σ2 0 = σ 0 → S2.2.2.1 0 = S.2.2.1 0 → wi 60 331 1847 [.ref 0, .ref 1, .ref 83, .int (wI i)] [] S2 σ2 τ2 Q) : wi 60 331 920 [.ref 0, .ref 1, .ref 83, .int (wI i)] [] S σ τ Q := by
  have ok1 : ∀ (T : zS) (σ τ : zI), kO T σ τ → oK T 1 111 0 := fun T σ τ => lo (c := 1) rfl (by decide)
  have ok83 : ∀ (T : zS) (σ τ : zI), kO T σ τ → oK T 83 112 0 := fun T σ τ => lo (c := 83) rfl (by decide)
  refine i5 c_331_920 rfl (la_ hn hb c_331_921 c_331_922 c_331_923 c_331_924 c_331_925 (by omega) rfl (la_ hn hb c_331_926 c_331_927 c_331_928 c_331_929 c_331_930 (by omega) rfl (la_ hn hb c_331_931 c_331_932 c_331_933 c_331_934 c_331_935 (by omega) rfl (la_ hn hb c_331_936 c_331_937 c_331_938 c_331_939 c_331_940 (by omega) rfl ?_))))
  refine i80 (As := [.int (wI (σ 0 (i + 1))), .int (wI (σ 0 (i + 2))), .int (wI (σ 0 (i + 3))), .int (wI (σ 0 (i + 4)))]) (rest := []) (n := 0) c_331_941 mi_165 rfl rfl (Nat.le_of_ble_eq_true rfl) (Nat.le_of_ble_eq_true rfl) (ok1 S _ _) (wc_to P (fun r1 S1 σ1 τ1 _ h => ?_))
  obtain ⟨x, rfl, ⟨e0, eS⟩, P2⟩ := h
  show wi 60 331 944 [.ref 0, .ref 1, .ref 83, .int (wI i)] [.int (wI x)] S1 σ1 τ1 Q
  refine i5 c_331_944 rfl (la_ (eS.trans hn) hb c_331_945 c_331_946 c_331_947 c_331_948 c_331_949 (by omega) (congrFun e0 _) (la_ (eS.trans hn) hb c_331_950 c_331_951 c_331_952 c_331_953 c_331_954 (by omega) (congrFun e0 _) (la_ (eS.trans hn) hb c_331_955 c_331_956 c_331_957 c_331_958 c_331_959 (by omega) (congrFun e0 _) (la_ (eS.trans hn) hb c_331_960 c_331_961 c_331_962 c_331_963 c_331_964 (by omega) (congrFun e0 _) ?_))))
  refine i80 (As := [.int (wI (σ 0 (i + 1))), .int (wI (σ 0 (i + 2))), .int (wI (σ 0 (i + 3))), .int (wI (σ 0 (i + 4)))]) (rest := [.int (wI x)]) (n := 0) c_331_965 mi_277 rfl rfl (Nat.le_of_ble_eq_true rfl) (Nat.le_of_ble_eq_true rfl) (ok83 S1 _ _) (wc_to P2 (fun r2 S2 σ2 τ2 _ h => ?_))
  obtain ⟨rfl, R2, f0, fS⟩ := h
  show wi 60 331 968 [.ref 0, .ref 1, .ref 83, .int (wI i)] [.int (wI x), .int (wI x)] S2 σ2 τ2 Q
  exact i37e c_331_968 rfl (K S2 σ2 τ2 R2 f0 fS)
theorem lw_order {S : zS} {σ τ : zI} {Q : zQ} {i j : Int} {n : Nat} (hn : S.2.2.1 0 = (0, n)) (hb : n < 2147483648) (hi : 0 ≤ i ∧ i + 7 ≤ n) (rv : ∀ k, rg (σ 0 k)) (P : PairC S σ τ j 166 221 [.int (wI (σ 0 (i + 1))), .int (wI (σ 0 (i + 2))), .int (wI (σ 0 (i + 3))), .int (wI (σ 0 (i + 4))), .int (wI (σ 0 (i + 5)))]) (K : ∀ S2 σ2 τ2, REL S2 σ2 (j + 1) → σ2 0 = σ 0 → S2.2.2.1 0 = S.2.2.1 0 → wi 60 331 1847 [.ref 0, .ref 1, .ref 83, .int (wI i)] [] S2 σ2 τ2 Q) : wi 60 331 973 [.ref 0, .ref 1, .ref 83, .int (wI i)] [] S σ τ Q := by
  have ok1 : ∀ (T : zS) (σ τ : zI), kO T σ τ → oK T 1 111 0 := fun T σ τ => lo (c := 1) rfl (by decide)
  have ok83 : ∀ (T : zS) (σ τ : zI), kO T σ τ → oK T 83 112 0 := fun T σ τ => lo (c := 83) rfl (by decide)
  refine i5 c_331_973 rfl (la_ hn hb c_331_974 c_331_975 c_331_976 c_331_977 c_331_978 (by omega) rfl (la_ hn hb c_331_979 c_331_980 c_331_981 c_331_982 c_331_983 (by omega) rfl (la_ hn hb c_331_984 c_331_985 c_331_986 c_331_987 c_331_988 (by omega) rfl (la_ hn hb c_331_989 c_331_990 c_331_991 c_331_992 c_331_993 (by omega) rfl (la_ hn hb c_331_994 c_331_995 c_331_996 c_331_997 c_331_998 (by omega) rfl ?_)))))
  refine i80 (As := [.int (wI (σ 0 (i + 1))), .int (wI (σ 0 (i + 2))), .int (wI (σ 0 (i + 3))), .int (wI (σ 0 (i + 4))), .int (wI (σ 0 (i + 5)))]) (rest := []) (n := 0) c_331_999 mi_166 rfl rfl (Nat.le_of_ble_eq_true rfl) (Nat.le_of_ble_eq_true rfl) (ok1 S _ _) (wc_to P (fun r1 S1 σ1 τ1 _ h => ?_))
  obtain ⟨x, rfl, ⟨e0, eS⟩, P2⟩ := h
  show wi 60 331 1002 [.ref 0, .ref 1, .ref 83, .int (wI i)] [.int (wI x)] S1 σ1 τ1 Q
  refine i5 c_331_1002 rfl (la_ (eS.trans hn) hb c_331_1003 c_331_1004 c_331_1005 c_331_1006 c_331_1007 (by omega) (congrFun e0 _) (la_ (eS.trans hn) hb c_331_1008 c_331_1009 c_331_1010 c_331_1011 c_331_1012 (by omega) (congrFun e0 _) (la_ (eS.trans hn) hb c_331_1013 c_331_1014 c_331_1015 c_331_1016 c_331_1017 (by omega) (congrFun e0 _) (la_ (eS.trans hn) hb c_331_1018 c_331_1019 c_331_1020 c_331_1021 c_331_1022 (by omega) (congrFun e0 _) (la_ (eS.trans hn) hb c_331_1023 c_331_1024 c_331_1025 c_331_1026 c_331_1027 (by omega) (congrFun e0 _) ?_)))))
  refine i80 (As := [.int (wI (σ 0 (i + 1))), .int (wI (σ 0 (i + 2))), .int (wI (σ 0 (i + 3))), .int (wI (σ 0 (i + 4))), .int (wI (σ 0 (i + 5)))]) (rest := [.int (wI x)]) (n := 0) c_331_1028 mi_221 rfl rfl (Nat.le_of_ble_eq_true rfl) (Nat.le_of_ble_eq_true rfl) (ok83 S1 _ _) (wc_to P2 (fun r2 S2 σ2 τ2 _ h => ?_))
  obtain ⟨rfl, R2, f0, fS⟩ := h
  show wi 60 331 1031 [.ref 0, .ref 1, .ref 83, .int (wI i)] [.int (wI x), .int (wI x)] S2 σ2 τ2 Q
  exact i37e c_331_1031 rfl (K S2 σ2 τ2 R2 f0 fS)
theorem lw_terms {S : zS} {σ τ : zI} {Q : zQ} {i j : Int} {n : Nat} (hn : S.2.2.1 0 = (0, n)) (hb : n < 2147483648) (hi : 0 ≤ i ∧ i + 7 ≤ n) (rv : ∀ k, rg (σ 0 k)) (P : PairC S σ τ j 167 222 [.int (wI (σ 0 (i + 1))), .int (wI (σ 0 (i + 2)))]) (K : ∀ S2 σ2 τ2, REL S2 σ2 (j + 1) → σ2 0 = σ 0 → S2.2.2.1 0 = S.2.2.1 0 → wi 60 331 1847 [.ref 0, .ref 1, .ref 83, .int (wI i)] [] S2 σ2 τ2 Q) : wi 60 331 1036 [.ref 0, .ref 1, .ref 83, .int (wI i)] [] S σ τ Q := by
  have ok1 : ∀ (T : zS) (σ τ : zI), kO T σ τ → oK T 1 111 0 := fun T σ τ => lo (c := 1) rfl (by decide)
  have ok83 : ∀ (T : zS) (σ τ : zI), kO T σ τ → oK T 83 112 0 := fun T σ τ => lo (c := 83) rfl (by decide)
  refine i5 c_331_1036 rfl (la_ hn hb c_331_1037 c_331_1038 c_331_1039 c_331_1040 c_331_1041 (by omega) rfl (la_ hn hb c_331_1042 c_331_1043 c_331_1044 c_331_1045 c_331_1046 (by omega) rfl ?_))
  refine i80 (As := [.int (wI (σ 0 (i + 1))), .int (wI (σ 0 (i + 2)))]) (rest := []) (n := 0) c_331_1047 mi_167 rfl rfl (Nat.le_of_ble_eq_true rfl) (Nat.le_of_ble_eq_true rfl) (ok1 S _ _) (wc_to P (fun r1 S1 σ1 τ1 _ h => ?_))
  obtain ⟨x, rfl, ⟨e0, eS⟩, P2⟩ := h
  show wi 60 331 1050 [.ref 0, .ref 1, .ref 83, .int (wI i)] [.int (wI x)] S1 σ1 τ1 Q
  refine i5 c_331_1050 rfl (la_ (eS.trans hn) hb c_331_1051 c_331_1052 c_331_1053 c_331_1054 c_331_1055 (by omega) (congrFun e0 _) (la_ (eS.trans hn) hb c_331_1056 c_331_1057 c_331_1058 c_331_1059 c_331_1060 (by omega) (congrFun e0 _) ?_))
  refine i80 (As := [.int (wI (σ 0 (i + 1))), .int (wI (σ 0 (i + 2)))]) (rest := [.int (wI x)]) (n := 0) c_331_1061 mi_222 rfl rfl (Nat.le_of_ble_eq_true rfl) (Nat.le_of_ble_eq_true rfl) (ok83 S1 _ _) (wc_to P2 (fun r2 S2 σ2 τ2 _ h => ?_))
  obtain ⟨rfl, R2, f0, fS⟩ := h
  show wi 60 331 1064 [.ref 0, .ref 1, .ref 83, .int (wI i)] [.int (wI x), .int (wI x)] S2 σ2 τ2 Q
  exact i37e c_331_1064 rfl (K S2 σ2 τ2 R2 f0 fS)
theorem lw_fund {S : zS} {σ τ : zI} {Q : zQ} {i j : Int} {n : Nat} (hn : S.2.2.1 0 = (0, n)) (hb : n < 2147483648) (hi : 0 ≤ i ∧ i + 7 ≤ n) (rv : ∀ k, rg (σ 0 k)) (P : PairC S σ τ j 168 223 [.int (wI (σ 0 (i + 1))), .int (wI (σ 0 (i + 2))), .int (wI (σ 0 (i + 3)))]) (K : ∀ S2 σ2 τ2, REL S2 σ2 (j + 1) → σ2 0 = σ 0 → S2.2.2.1 0 = S.2.2.1 0 → wi 60 331 1847 [.ref 0, .ref 1, .ref 83, .int (wI i)] [] S2 σ2 τ2 Q) : wi 60 331 1069 [.ref 0, .ref 1, .ref 83, .int (wI i)] [] S σ τ Q := by
  have ok1 : ∀ (T : zS) (σ τ : zI), kO T σ τ → oK T 1 111 0 := fun T σ τ => lo (c := 1) rfl (by decide)
  have ok83 : ∀ (T : zS) (σ τ : zI), kO T σ τ → oK T 83 112 0 := fun T σ τ => lo (c := 83) rfl (by decide)
  refine i5 c_331_1069 rfl (la_ hn hb c_331_1070 c_331_1071 c_331_1072 c_331_1073 c_331_1074 (by omega) rfl (la_ hn hb c_331_1075 c_331_1076 c_331_1077 c_331_1078 c_331_1079 (by omega) rfl (la_ hn hb c_331_1080 c_331_1081 c_331_1082 c_331_1083 c_331_1084 (by omega) rfl ?_)))
  refine i80 (As := [.int (wI (σ 0 (i + 1))), .int (wI (σ 0 (i + 2))), .int (wI (σ 0 (i + 3)))]) (rest := []) (n := 0) c_331_1085 mi_168 rfl rfl (Nat.le_of_ble_eq_true rfl) (Nat.le_of_ble_eq_true rfl) (ok1 S _ _) (wc_to P (fun r1 S1 σ1 τ1 _ h => ?_))
  obtain ⟨x, rfl, ⟨e0, eS⟩, P2⟩ := h
  show wi 60 331 1088 [.ref 0, .ref 1, .ref 83, .int (wI i)] [.int (wI x)] S1 σ1 τ1 Q
  refine i5 c_331_1088 rfl (la_ (eS.trans hn) hb c_331_1089 c_331_1090 c_331_1091 c_331_1092 c_331_1093 (by omega) (congrFun e0 _) (la_ (eS.trans hn) hb c_331_1094 c_331_1095 c_331_1096 c_331_1097 c_331_1098 (by omega) (congrFun e0 _) (la_ (eS.trans hn) hb c_331_1099 c_331_1100 c_331_1101 c_331_1102 c_331_1103 (by omega) (congrFun e0 _) ?_)))
  refine i80 (As := [.int (wI (σ 0 (i + 1))), .int (wI (σ 0 (i + 2))), .int (wI (σ 0 (i + 3)))]) (rest := [.int (wI x)]) (n := 0) c_331_1104 mi_223 rfl rfl (Nat.le_of_ble_eq_true rfl) (Nat.le_of_ble_eq_true rfl) (ok83 S1 _ _) (wc_to P2 (fun r2 S2 σ2 τ2 _ h => ?_))
  obtain ⟨rfl, R2, f0, fS⟩ := h
  show wi 60 331 1107 [.ref 0, .ref 1, .ref 83, .int (wI i)] [.int (wI x), .int (wI x)] S2 σ2 τ2 Q
  exact i37e c_331_1107 rfl (K S2 σ2 τ2 R2 f0 fS)
theorem lw_strike {S : zS} {σ τ : zI} {Q : zQ} {i j : Int} {n : Nat} (hn : S.2.2.1 0 = (0, n)) (hb : n < 2147483648) (hi : 0 ≤ i ∧ i + 7 ≤ n) (rv : ∀ k, rg (σ 0 k)) (P : PairC S σ τ j 169 224 [.int (wI (σ 0 (i + 1))), .int (wI (if σ 0 (i + 2) = 0 then 0 else 1))]) (K : ∀ S2 σ2 τ2, REL S2 σ2 (j + 1) → σ2 0 = σ 0 → S2.2.2.1 0 = S.2.2.1 0 → wi 60 331 1847 [.ref 0, .ref 1, .ref 83, .int (wI i)] [] S2 σ2 τ2 Q) : wi 60 331 1112 [.ref 0, .ref 1, .ref 83, .int (wI i)] [] S σ τ Q := by
  have ok1 : ∀ (T : zS) (σ τ : zI), kO T σ τ → oK T 1 111 0 := fun T σ τ => lo (c := 1) rfl (by decide)
  have ok83 : ∀ (T : zS) (σ τ : zI), kO T σ τ → oK T 83 112 0 := fun T σ τ => lo (c := 83) rfl (by decide)
  refine i5 c_331_1112 rfl (la_ hn hb c_331_1113 c_331_1114 c_331_1115 c_331_1116 c_331_1117 (by omega) rfl (la_ hn hb c_331_1118 c_331_1119 c_331_1120 c_331_1121 c_331_1122 (by omega) rfl (lb_ c_331_1123 c_331_1126 c_331_1127 c_331_1130 (rv _) ?_)))
  refine i80 (As := [.int (wI (σ 0 (i + 1))), .int (wI (if σ 0 (i + 2) = 0 then 0 else 1))]) (rest := []) (n := 0) c_331_1131 mi_169 rfl rfl (Nat.le_of_ble_eq_true rfl) (Nat.le_of_ble_eq_true rfl) (ok1 S _ _) (wc_to P (fun r1 S1 σ1 τ1 _ h => ?_))
  obtain ⟨x, rfl, ⟨e0, eS⟩, P2⟩ := h
  show wi 60 331 1134 [.ref 0, .ref 1, .ref 83, .int (wI i)] [.int (wI x)] S1 σ1 τ1 Q
  refine i5 c_331_1134 rfl (la_ (eS.trans hn) hb c_331_1135 c_331_1136 c_331_1137 c_331_1138 c_331_1139 (by omega) (congrFun e0 _) (la_ (eS.trans hn) hb c_331_1140 c_331_1141 c_331_1142 c_331_1143 c_331_1144 (by omega) (congrFun e0 _) (lb_ c_331_1145 c_331_1148 c_331_1149 c_331_1152 (rv _) ?_)))
  refine i80 (As := [.int (wI (σ 0 (i + 1))), .int (wI (if σ 0 (i + 2) = 0 then 0 else 1))]) (rest := [.int (wI x)]) (n := 0) c_331_1153 mi_224 rfl rfl (Nat.le_of_ble_eq_true rfl) (Nat.le_of_ble_eq_true rfl) (ok83 S1 _ _) (wc_to P2 (fun r2 S2 σ2 τ2 _ h => ?_))
  obtain ⟨rfl, R2, f0, fS⟩ := h
  show wi 60 331 1156 [.ref 0, .ref 1, .ref 83, .int (wI i)] [.int (wI x), .int (wI x)] S2 σ2 τ2 Q
  exact i37e c_331_1156 rfl (K S2 σ2 τ2 R2 f0 fS)
theorem lw_weeks {S : zS} {σ τ : zI} {Q : zQ} {i j : Int} {n : Nat} (hn : S.2.2.1 0 = (0, n)) (hb : n < 2147483648) (hi : 0 ≤ i ∧ i + 7 ≤ n) (rv : ∀ k, rg (σ 0 k)) (P : PairC S σ τ j 170 294 [.int (wI (σ 0 (i + 1)))]) (K : ∀ S2 σ2 τ2, REL S2 σ2 (j + 1) → σ2 0 = σ 0 → S2.2.2.1 0 = S.2.2.1 0 → wi 60 331 1847 [.ref 0, .ref 1, .ref 83, .int (wI i)] [] S2 σ2 τ2 Q) : wi 60 331 1161 [.ref 0, .ref 1, .ref 83, .int (wI i)] [] S σ τ Q := by
  have ok1 : ∀ (T : zS) (σ τ : zI), kO T σ τ → oK T 1 111 0 := fun T σ τ => lo (c := 1) rfl (by decide)
  have ok83 : ∀ (T : zS) (σ τ : zI), kO T σ τ → oK T 83 112 0 := fun T σ τ => lo (c := 83) rfl (by decide)
  refine i5 c_331_1161 rfl (la_ hn hb c_331_1162 c_331_1163 c_331_1164 c_331_1165 c_331_1166 (by omega) rfl ?_)
  refine i80 (As := [.int (wI (σ 0 (i + 1)))]) (rest := []) (n := 0) c_331_1167 mi_170 rfl rfl (Nat.le_of_ble_eq_true rfl) (Nat.le_of_ble_eq_true rfl) (ok1 S _ _) (wc_to P (fun r1 S1 σ1 τ1 _ h => ?_))
  obtain ⟨x, rfl, ⟨e0, eS⟩, P2⟩ := h
  show wi 60 331 1170 [.ref 0, .ref 1, .ref 83, .int (wI i)] [.int (wI x)] S1 σ1 τ1 Q
  refine i5 c_331_1170 rfl (la_ (eS.trans hn) hb c_331_1171 c_331_1172 c_331_1173 c_331_1174 c_331_1175 (by omega) (congrFun e0 _) ?_)
  refine i80 (As := [.int (wI (σ 0 (i + 1)))]) (rest := [.int (wI x)]) (n := 0) c_331_1176 mi_294 rfl rfl (Nat.le_of_ble_eq_true rfl) (Nat.le_of_ble_eq_true rfl) (ok83 S1 _ _) (wc_to P2 (fun r2 S2 σ2 τ2 _ h => ?_))
  obtain ⟨rfl, R2, f0, fS⟩ := h
  show wi 60 331 1179 [.ref 0, .ref 1, .ref 83, .int (wI i)] [.int (wI x), .int (wI x)] S2 σ2 τ2 Q
  exact i37e c_331_1179 rfl (K S2 σ2 τ2 R2 f0 fS)
theorem lw_millOf {S : zS} {σ τ : zI} {Q : zQ} {i j : Int} {n : Nat} (hn : S.2.2.1 0 = (0, n)) (hb : n < 2147483648) (hi : 0 ≤ i ∧ i + 7 ≤ n) (rv : ∀ k, rg (σ 0 k)) (P : PairC S σ τ j 171 295 [.int (wI (σ 0 (i + 1))), .int (wI (σ 0 (i + 2)))]) (K : ∀ S2 σ2 τ2, REL S2 σ2 (j + 1) → σ2 0 = σ 0 → S2.2.2.1 0 = S.2.2.1 0 → wi 60 331 1847 [.ref 0, .ref 1, .ref 83, .int (wI i)] [] S2 σ2 τ2 Q) : wi 60 331 1184 [.ref 0, .ref 1, .ref 83, .int (wI i)] [] S σ τ Q := by
  have ok1 : ∀ (T : zS) (σ τ : zI), kO T σ τ → oK T 1 111 0 := fun T σ τ => lo (c := 1) rfl (by decide)
  have ok83 : ∀ (T : zS) (σ τ : zI), kO T σ τ → oK T 83 112 0 := fun T σ τ => lo (c := 83) rfl (by decide)
  refine i5 c_331_1184 rfl (la_ hn hb c_331_1185 c_331_1186 c_331_1187 c_331_1188 c_331_1189 (by omega) rfl (la_ hn hb c_331_1190 c_331_1191 c_331_1192 c_331_1193 c_331_1194 (by omega) rfl ?_))
  refine i80 (As := [.int (wI (σ 0 (i + 1))), .int (wI (σ 0 (i + 2)))]) (rest := []) (n := 0) c_331_1195 mi_171 rfl rfl (Nat.le_of_ble_eq_true rfl) (Nat.le_of_ble_eq_true rfl) (ok1 S _ _) (wc_to P (fun r1 S1 σ1 τ1 _ h => ?_))
  obtain ⟨x, rfl, ⟨e0, eS⟩, P2⟩ := h
  show wi 60 331 1198 [.ref 0, .ref 1, .ref 83, .int (wI i)] [.int (wI x)] S1 σ1 τ1 Q
  refine i5 c_331_1198 rfl (la_ (eS.trans hn) hb c_331_1199 c_331_1200 c_331_1201 c_331_1202 c_331_1203 (by omega) (congrFun e0 _) (la_ (eS.trans hn) hb c_331_1204 c_331_1205 c_331_1206 c_331_1207 c_331_1208 (by omega) (congrFun e0 _) ?_))
  refine i80 (As := [.int (wI (σ 0 (i + 1))), .int (wI (σ 0 (i + 2)))]) (rest := [.int (wI x)]) (n := 0) c_331_1209 mi_295 rfl rfl (Nat.le_of_ble_eq_true rfl) (Nat.le_of_ble_eq_true rfl) (ok83 S1 _ _) (wc_to P2 (fun r2 S2 σ2 τ2 _ h => ?_))
  obtain ⟨rfl, R2, f0, fS⟩ := h
  show wi 60 331 1212 [.ref 0, .ref 1, .ref 83, .int (wI i)] [.int (wI x), .int (wI x)] S2 σ2 τ2 Q
  exact i37e c_331_1212 rfl (K S2 σ2 τ2 R2 f0 fS)
theorem lw_homeOf {S : zS} {σ τ : zI} {Q : zQ} {i j : Int} {n : Nat} (hn : S.2.2.1 0 = (0, n)) (hb : n < 2147483648) (hi : 0 ≤ i ∧ i + 7 ≤ n) (rv : ∀ k, rg (σ 0 k)) (P : PairC S σ τ j 172 297 [.int (wI (σ 0 (i + 1))), .int (wI (σ 0 (i + 2)))]) (K : ∀ S2 σ2 τ2, REL S2 σ2 (j + 1) → σ2 0 = σ 0 → S2.2.2.1 0 = S.2.2.1 0 → wi 60 331 1847 [.ref 0, .ref 1, .ref 83, .int (wI i)] [] S2 σ2 τ2 Q) : wi 60 331 1217 [.ref 0, .ref 1, .ref 83, .int (wI i)] [] S σ τ Q := by
  have ok1 : ∀ (T : zS) (σ τ : zI), kO T σ τ → oK T 1 111 0 := fun T σ τ => lo (c := 1) rfl (by decide)
  have ok83 : ∀ (T : zS) (σ τ : zI), kO T σ τ → oK T 83 112 0 := fun T σ τ => lo (c := 83) rfl (by decide)
  refine i5 c_331_1217 rfl (la_ hn hb c_331_1218 c_331_1219 c_331_1220 c_331_1221 c_331_1222 (by omega) rfl (la_ hn hb c_331_1223 c_331_1224 c_331_1225 c_331_1226 c_331_1227 (by omega) rfl ?_))
  refine i80 (As := [.int (wI (σ 0 (i + 1))), .int (wI (σ 0 (i + 2)))]) (rest := []) (n := 0) c_331_1228 mi_172 rfl rfl (Nat.le_of_ble_eq_true rfl) (Nat.le_of_ble_eq_true rfl) (ok1 S _ _) (wc_to P (fun r1 S1 σ1 τ1 _ h => ?_))
  obtain ⟨x, rfl, ⟨e0, eS⟩, P2⟩ := h
  show wi 60 331 1231 [.ref 0, .ref 1, .ref 83, .int (wI i)] [.int (wI x)] S1 σ1 τ1 Q
  refine i5 c_331_1231 rfl (la_ (eS.trans hn) hb c_331_1232 c_331_1233 c_331_1234 c_331_1235 c_331_1236 (by omega) (congrFun e0 _) (la_ (eS.trans hn) hb c_331_1237 c_331_1238 c_331_1239 c_331_1240 c_331_1241 (by omega) (congrFun e0 _) ?_))
  refine i80 (As := [.int (wI (σ 0 (i + 1))), .int (wI (σ 0 (i + 2)))]) (rest := [.int (wI x)]) (n := 0) c_331_1242 mi_297 rfl rfl (Nat.le_of_ble_eq_true rfl) (Nat.le_of_ble_eq_true rfl) (ok83 S1 _ _) (wc_to P2 (fun r2 S2 σ2 τ2 _ h => ?_))
  obtain ⟨rfl, R2, f0, fS⟩ := h
  show wi 60 331 1245 [.ref 0, .ref 1, .ref 83, .int (wI i)] [.int (wI x), .int (wI x)] S2 σ2 τ2 Q
  exact i37e c_331_1245 rfl (K S2 σ2 τ2 R2 f0 fS)
theorem lw_personOf {S : zS} {σ τ : zI} {Q : zQ} {i j : Int} {n : Nat} (hn : S.2.2.1 0 = (0, n)) (hb : n < 2147483648) (hi : 0 ≤ i ∧ i + 7 ≤ n) (rv : ∀ k, rg (σ 0 k)) (P : PairC S σ τ j 173 298 [.int (wI (σ 0 (i + 1))), .int (wI (σ 0 (i + 2)))]) (K : ∀ S2 σ2 τ2, REL S2 σ2 (j + 1) → σ2 0 = σ 0 → S2.2.2.1 0 = S.2.2.1 0 → wi 60 331 1847 [.ref 0, .ref 1, .ref 83, .int (wI i)] [] S2 σ2 τ2 Q) : wi 60 331 1250 [.ref 0, .ref 1, .ref 83, .int (wI i)] [] S σ τ Q := by
  have ok1 : ∀ (T : zS) (σ τ : zI), kO T σ τ → oK T 1 111 0 := fun T σ τ => lo (c := 1) rfl (by decide)
  have ok83 : ∀ (T : zS) (σ τ : zI), kO T σ τ → oK T 83 112 0 := fun T σ τ => lo (c := 83) rfl (by decide)
  refine i5 c_331_1250 rfl (la_ hn hb c_331_1251 c_331_1252 c_331_1253 c_331_1254 c_331_1255 (by omega) rfl (la_ hn hb c_331_1256 c_331_1257 c_331_1258 c_331_1259 c_331_1260 (by omega) rfl ?_))
  refine i80 (As := [.int (wI (σ 0 (i + 1))), .int (wI (σ 0 (i + 2)))]) (rest := []) (n := 0) c_331_1261 mi_173 rfl rfl (Nat.le_of_ble_eq_true rfl) (Nat.le_of_ble_eq_true rfl) (ok1 S _ _) (wc_to P (fun r1 S1 σ1 τ1 _ h => ?_))
  obtain ⟨x, rfl, ⟨e0, eS⟩, P2⟩ := h
  show wi 60 331 1264 [.ref 0, .ref 1, .ref 83, .int (wI i)] [.int (wI x)] S1 σ1 τ1 Q
  refine i5 c_331_1264 rfl (la_ (eS.trans hn) hb c_331_1265 c_331_1266 c_331_1267 c_331_1268 c_331_1269 (by omega) (congrFun e0 _) (la_ (eS.trans hn) hb c_331_1270 c_331_1271 c_331_1272 c_331_1273 c_331_1274 (by omega) (congrFun e0 _) ?_))
  refine i80 (As := [.int (wI (σ 0 (i + 1))), .int (wI (σ 0 (i + 2)))]) (rest := [.int (wI x)]) (n := 0) c_331_1275 mi_298 rfl rfl (Nat.le_of_ble_eq_true rfl) (Nat.le_of_ble_eq_true rfl) (ok83 S1 _ _) (wc_to P2 (fun r2 S2 σ2 τ2 _ h => ?_))
  obtain ⟨rfl, R2, f0, fS⟩ := h
  show wi 60 331 1278 [.ref 0, .ref 1, .ref 83, .int (wI i)] [.int (wI x), .int (wI x)] S2 σ2 τ2 Q
  exact i37e c_331_1278 rfl (K S2 σ2 τ2 R2 f0 fS)
theorem lw_shopOf {S : zS} {σ τ : zI} {Q : zQ} {i j : Int} {n : Nat} (hn : S.2.2.1 0 = (0, n)) (hb : n < 2147483648) (hi : 0 ≤ i ∧ i + 7 ≤ n) (rv : ∀ k, rg (σ 0 k)) (P : PairC S σ τ j 174 299 [.int (wI (σ 0 (i + 1))), .int (wI (σ 0 (i + 2)))]) (K : ∀ S2 σ2 τ2, REL S2 σ2 (j + 1) → σ2 0 = σ 0 → S2.2.2.1 0 = S.2.2.1 0 → wi 60 331 1847 [.ref 0, .ref 1, .ref 83, .int (wI i)] [] S2 σ2 τ2 Q) : wi 60 331 1283 [.ref 0, .ref 1, .ref 83, .int (wI i)] [] S σ τ Q := by
  have ok1 : ∀ (T : zS) (σ τ : zI), kO T σ τ → oK T 1 111 0 := fun T σ τ => lo (c := 1) rfl (by decide)
  have ok83 : ∀ (T : zS) (σ τ : zI), kO T σ τ → oK T 83 112 0 := fun T σ τ => lo (c := 83) rfl (by decide)
  refine i5 c_331_1283 rfl (la_ hn hb c_331_1284 c_331_1285 c_331_1286 c_331_1287 c_331_1288 (by omega) rfl (la_ hn hb c_331_1289 c_331_1290 c_331_1291 c_331_1292 c_331_1293 (by omega) rfl ?_))
  refine i80 (As := [.int (wI (σ 0 (i + 1))), .int (wI (σ 0 (i + 2)))]) (rest := []) (n := 0) c_331_1294 mi_174 rfl rfl (Nat.le_of_ble_eq_true rfl) (Nat.le_of_ble_eq_true rfl) (ok1 S _ _) (wc_to P (fun r1 S1 σ1 τ1 _ h => ?_))
  obtain ⟨x, rfl, ⟨e0, eS⟩, P2⟩ := h
  show wi 60 331 1297 [.ref 0, .ref 1, .ref 83, .int (wI i)] [.int (wI x)] S1 σ1 τ1 Q
  refine i5 c_331_1297 rfl (la_ (eS.trans hn) hb c_331_1298 c_331_1299 c_331_1300 c_331_1301 c_331_1302 (by omega) (congrFun e0 _) (la_ (eS.trans hn) hb c_331_1303 c_331_1304 c_331_1305 c_331_1306 c_331_1307 (by omega) (congrFun e0 _) ?_))
  refine i80 (As := [.int (wI (σ 0 (i + 1))), .int (wI (σ 0 (i + 2)))]) (rest := [.int (wI x)]) (n := 0) c_331_1308 mi_299 rfl rfl (Nat.le_of_ble_eq_true rfl) (Nat.le_of_ble_eq_true rfl) (ok83 S1 _ _) (wc_to P2 (fun r2 S2 σ2 τ2 _ h => ?_))
  obtain ⟨rfl, R2, f0, fS⟩ := h
  show wi 60 331 1311 [.ref 0, .ref 1, .ref 83, .int (wI i)] [.int (wI x), .int (wI x)] S2 σ2 τ2 Q
  exact i37e c_331_1311 rfl (K S2 σ2 τ2 R2 f0 fS)
theorem lw_orderOf {S : zS} {σ τ : zI} {Q : zQ} {i j : Int} {n : Nat} (hn : S.2.2.1 0 = (0, n)) (hb : n < 2147483648) (hi : 0 ≤ i ∧ i + 7 ≤ n) (rv : ∀ k, rg (σ 0 k)) (P : PairC S σ τ j 175 300 [.int (wI (σ 0 (i + 1))), .int (wI (σ 0 (i + 2)))]) (K : ∀ S2 σ2 τ2, REL S2 σ2 (j + 1) → σ2 0 = σ 0 → S2.2.2.1 0 = S.2.2.1 0 → wi 60 331 1847 [.ref 0, .ref 1, .ref 83, .int (wI i)] [] S2 σ2 τ2 Q) : wi 60 331 1316 [.ref 0, .ref 1, .ref 83, .int (wI i)] [] S σ τ Q := by
  have ok1 : ∀ (T : zS) (σ τ : zI), kO T σ τ → oK T 1 111 0 := fun T σ τ => lo (c := 1) rfl (by decide)
  have ok83 : ∀ (T : zS) (σ τ : zI), kO T σ τ → oK T 83 112 0 := fun T σ τ => lo (c := 83) rfl (by decide)
  refine i5 c_331_1316 rfl (la_ hn hb c_331_1317 c_331_1318 c_331_1319 c_331_1320 c_331_1321 (by omega) rfl (la_ hn hb c_331_1322 c_331_1323 c_331_1324 c_331_1325 c_331_1326 (by omega) rfl ?_))
  refine i80 (As := [.int (wI (σ 0 (i + 1))), .int (wI (σ 0 (i + 2)))]) (rest := []) (n := 0) c_331_1327 mi_175 rfl rfl (Nat.le_of_ble_eq_true rfl) (Nat.le_of_ble_eq_true rfl) (ok1 S _ _) (wc_to P (fun r1 S1 σ1 τ1 _ h => ?_))
  obtain ⟨x, rfl, ⟨e0, eS⟩, P2⟩ := h
  show wi 60 331 1330 [.ref 0, .ref 1, .ref 83, .int (wI i)] [.int (wI x)] S1 σ1 τ1 Q
  refine i5 c_331_1330 rfl (la_ (eS.trans hn) hb c_331_1331 c_331_1332 c_331_1333 c_331_1334 c_331_1335 (by omega) (congrFun e0 _) (la_ (eS.trans hn) hb c_331_1336 c_331_1337 c_331_1338 c_331_1339 c_331_1340 (by omega) (congrFun e0 _) ?_))
  refine i80 (As := [.int (wI (σ 0 (i + 1))), .int (wI (σ 0 (i + 2)))]) (rest := [.int (wI x)]) (n := 0) c_331_1341 mi_300 rfl rfl (Nat.le_of_ble_eq_true rfl) (Nat.le_of_ble_eq_true rfl) (ok83 S1 _ _) (wc_to P2 (fun r2 S2 σ2 τ2 _ h => ?_))
  obtain ⟨rfl, R2, f0, fS⟩ := h
  show wi 60 331 1344 [.ref 0, .ref 1, .ref 83, .int (wI i)] [.int (wI x), .int (wI x)] S2 σ2 τ2 Q
  exact i37e c_331_1344 rfl (K S2 σ2 τ2 R2 f0 fS)
theorem lw_book {S : zS} {σ τ : zI} {Q : zQ} {i j : Int} {n : Nat} (hn : S.2.2.1 0 = (0, n)) (hb : n < 2147483648) (hi : 0 ≤ i ∧ i + 7 ≤ n) (rv : ∀ k, rg (σ 0 k)) (P : PairC S σ τ j 177 301 [.int (wI (σ 0 (i + 1))), .int (wI (σ 0 (i + 2))), .int (wI (σ 0 (i + 3)))]) (K : ∀ S2 σ2 τ2, REL S2 σ2 (j + 1) → σ2 0 = σ 0 → S2.2.2.1 0 = S.2.2.1 0 → wi 60 331 1847 [.ref 0, .ref 1, .ref 83, .int (wI i)] [] S2 σ2 τ2 Q) : wi 60 331 1349 [.ref 0, .ref 1, .ref 83, .int (wI i)] [] S σ τ Q := by
  have ok1 : ∀ (T : zS) (σ τ : zI), kO T σ τ → oK T 1 111 0 := fun T σ τ => lo (c := 1) rfl (by decide)
  have ok83 : ∀ (T : zS) (σ τ : zI), kO T σ τ → oK T 83 112 0 := fun T σ τ => lo (c := 83) rfl (by decide)
  refine i5 c_331_1349 rfl (la_ hn hb c_331_1350 c_331_1351 c_331_1352 c_331_1353 c_331_1354 (by omega) rfl (la_ hn hb c_331_1355 c_331_1356 c_331_1357 c_331_1358 c_331_1359 (by omega) rfl (la_ hn hb c_331_1360 c_331_1361 c_331_1362 c_331_1363 c_331_1364 (by omega) rfl ?_)))
  refine i80 (As := [.int (wI (σ 0 (i + 1))), .int (wI (σ 0 (i + 2))), .int (wI (σ 0 (i + 3)))]) (rest := []) (n := 0) c_331_1365 mi_177 rfl rfl (Nat.le_of_ble_eq_true rfl) (Nat.le_of_ble_eq_true rfl) (ok1 S _ _) (wc_to P (fun r1 S1 σ1 τ1 _ h => ?_))
  obtain ⟨x, rfl, ⟨e0, eS⟩, P2⟩ := h
  show wi 60 331 1368 [.ref 0, .ref 1, .ref 83, .int (wI i)] [.int (wI x)] S1 σ1 τ1 Q
  refine i5 c_331_1368 rfl (la_ (eS.trans hn) hb c_331_1369 c_331_1370 c_331_1371 c_331_1372 c_331_1373 (by omega) (congrFun e0 _) (la_ (eS.trans hn) hb c_331_1374 c_331_1375 c_331_1376 c_331_1377 c_331_1378 (by omega) (congrFun e0 _) (la_ (eS.trans hn) hb c_331_1379 c_331_1380 c_331_1381 c_331_1382 c_331_1383 (by omega) (congrFun e0 _) ?_)))
  refine i80 (As := [.int (wI (σ 0 (i + 1))), .int (wI (σ 0 (i + 2))), .int (wI (σ 0 (i + 3)))]) (rest := [.int (wI x)]) (n := 0) c_331_1384 mi_301 rfl rfl (Nat.le_of_ble_eq_true rfl) (Nat.le_of_ble_eq_true rfl) (ok83 S1 _ _) (wc_to P2 (fun r2 S2 σ2 τ2 _ h => ?_))
  obtain ⟨rfl, R2, f0, fS⟩ := h
  show wi 60 331 1387 [.ref 0, .ref 1, .ref 83, .int (wI i)] [.int (wI x), .int (wI x)] S2 σ2 τ2 Q
  exact i37e c_331_1387 rfl (K S2 σ2 τ2 R2 f0 fS)
theorem lw_tried {S : zS} {σ τ : zI} {Q : zQ} {i j : Int} {n : Nat} (hn : S.2.2.1 0 = (0, n)) (hb : n < 2147483648) (hi : 0 ≤ i ∧ i + 7 ≤ n) (rv : ∀ k, rg (σ 0 k)) (P : PairC S σ τ j 178 304 [.int (wI (σ 0 (i + 1))), .int (wI (σ 0 (i + 2))), .int (wI (σ 0 (i + 3))), .int (wI (σ 0 (i + 4)))]) (K : ∀ S2 σ2 τ2, REL S2 σ2 (j + 1) → σ2 0 = σ 0 → S2.2.2.1 0 = S.2.2.1 0 → wi 60 331 1847 [.ref 0, .ref 1, .ref 83, .int (wI i)] [] S2 σ2 τ2 Q) : wi 60 331 1392 [.ref 0, .ref 1, .ref 83, .int (wI i)] [] S σ τ Q := by
  have ok1 : ∀ (T : zS) (σ τ : zI), kO T σ τ → oK T 1 111 0 := fun T σ τ => lo (c := 1) rfl (by decide)
  have ok83 : ∀ (T : zS) (σ τ : zI), kO T σ τ → oK T 83 112 0 := fun T σ τ => lo (c := 83) rfl (by decide)
  refine i5 c_331_1392 rfl (la_ hn hb c_331_1393 c_331_1394 c_331_1395 c_331_1396 c_331_1397 (by omega) rfl (la_ hn hb c_331_1398 c_331_1399 c_331_1400 c_331_1401 c_331_1402 (by omega) rfl (la_ hn hb c_331_1403 c_331_1404 c_331_1405 c_331_1406 c_331_1407 (by omega) rfl (la_ hn hb c_331_1408 c_331_1409 c_331_1410 c_331_1411 c_331_1412 (by omega) rfl ?_))))
  refine i80 (As := [.int (wI (σ 0 (i + 1))), .int (wI (σ 0 (i + 2))), .int (wI (σ 0 (i + 3))), .int (wI (σ 0 (i + 4)))]) (rest := []) (n := 0) c_331_1413 mi_178 rfl rfl (Nat.le_of_ble_eq_true rfl) (Nat.le_of_ble_eq_true rfl) (ok1 S _ _) (wc_to P (fun r1 S1 σ1 τ1 _ h => ?_))
  obtain ⟨x, rfl, ⟨e0, eS⟩, P2⟩ := h
  show wi 60 331 1416 [.ref 0, .ref 1, .ref 83, .int (wI i)] [.int (wI x)] S1 σ1 τ1 Q
  refine i5 c_331_1416 rfl (la_ (eS.trans hn) hb c_331_1417 c_331_1418 c_331_1419 c_331_1420 c_331_1421 (by omega) (congrFun e0 _) (la_ (eS.trans hn) hb c_331_1422 c_331_1423 c_331_1424 c_331_1425 c_331_1426 (by omega) (congrFun e0 _) (la_ (eS.trans hn) hb c_331_1427 c_331_1428 c_331_1429 c_331_1430 c_331_1431 (by omega) (congrFun e0 _) (la_ (eS.trans hn) hb c_331_1432 c_331_1433 c_331_1434 c_331_1435 c_331_1436 (by omega) (congrFun e0 _) ?_))))
  refine i80 (As := [.int (wI (σ 0 (i + 1))), .int (wI (σ 0 (i + 2))), .int (wI (σ 0 (i + 3))), .int (wI (σ 0 (i + 4)))]) (rest := [.int (wI x)]) (n := 0) c_331_1437 mi_304 rfl rfl (Nat.le_of_ble_eq_true rfl) (Nat.le_of_ble_eq_true rfl) (ok83 S1 _ _) (wc_to P2 (fun r2 S2 σ2 τ2 _ h => ?_))
  obtain ⟨rfl, R2, f0, fS⟩ := h
  show wi 60 331 1440 [.ref 0, .ref 1, .ref 83, .int (wI i)] [.int (wI x), .int (wI x)] S2 σ2 τ2 Q
  exact i37e c_331_1440 rfl (K S2 σ2 τ2 R2 f0 fS)
theorem lw_offer {S : zS} {σ τ : zI} {Q : zQ} {i j : Int} {n : Nat} (hn : S.2.2.1 0 = (0, n)) (hb : n < 2147483648) (hi : 0 ≤ i ∧ i + 7 ≤ n) (rv : ∀ k, rg (σ 0 k)) (P : PairC S σ τ j 180 305 [.int (wI (σ 0 (i + 1))), .int (wI (σ 0 (i + 2)))]) (K : ∀ S2 σ2 τ2, REL S2 σ2 (j + 1) → σ2 0 = σ 0 → S2.2.2.1 0 = S.2.2.1 0 → wi 60 331 1847 [.ref 0, .ref 1, .ref 83, .int (wI i)] [] S2 σ2 τ2 Q) : wi 60 331 1445 [.ref 0, .ref 1, .ref 83, .int (wI i)] [] S σ τ Q := by
  have ok1 : ∀ (T : zS) (σ τ : zI), kO T σ τ → oK T 1 111 0 := fun T σ τ => lo (c := 1) rfl (by decide)
  have ok83 : ∀ (T : zS) (σ τ : zI), kO T σ τ → oK T 83 112 0 := fun T σ τ => lo (c := 83) rfl (by decide)
  refine i5 c_331_1445 rfl (la_ hn hb c_331_1446 c_331_1447 c_331_1448 c_331_1449 c_331_1450 (by omega) rfl (la_ hn hb c_331_1451 c_331_1452 c_331_1453 c_331_1454 c_331_1455 (by omega) rfl ?_))
  refine i80 (As := [.int (wI (σ 0 (i + 1))), .int (wI (σ 0 (i + 2)))]) (rest := []) (n := 0) c_331_1456 mi_180 rfl rfl (Nat.le_of_ble_eq_true rfl) (Nat.le_of_ble_eq_true rfl) (ok1 S _ _) (wc_to P (fun r1 S1 σ1 τ1 _ h => ?_))
  obtain ⟨x, rfl, ⟨e0, eS⟩, P2⟩ := h
  show wi 60 331 1459 [.ref 0, .ref 1, .ref 83, .int (wI i)] [.int (wI x)] S1 σ1 τ1 Q
  refine i5 c_331_1459 rfl (la_ (eS.trans hn) hb c_331_1460 c_331_1461 c_331_1462 c_331_1463 c_331_1464 (by omega) (congrFun e0 _) (la_ (eS.trans hn) hb c_331_1465 c_331_1466 c_331_1467 c_331_1468 c_331_1469 (by omega) (congrFun e0 _) ?_))
  refine i80 (As := [.int (wI (σ 0 (i + 1))), .int (wI (σ 0 (i + 2)))]) (rest := [.int (wI x)]) (n := 0) c_331_1470 mi_305 rfl rfl (Nat.le_of_ble_eq_true rfl) (Nat.le_of_ble_eq_true rfl) (ok83 S1 _ _) (wc_to P2 (fun r2 S2 σ2 τ2 _ h => ?_))
  obtain ⟨rfl, R2, f0, fS⟩ := h
  show wi 60 331 1473 [.ref 0, .ref 1, .ref 83, .int (wI i)] [.int (wI x), .int (wI x)] S2 σ2 τ2 Q
  exact i37e c_331_1473 rfl (K S2 σ2 τ2 R2 f0 fS)
theorem lw_meet {S : zS} {σ τ : zI} {Q : zQ} {i j : Int} {n : Nat} (hn : S.2.2.1 0 = (0, n)) (hb : n < 2147483648) (hi : 0 ≤ i ∧ i + 7 ≤ n) (rv : ∀ k, rg (σ 0 k)) (P : PairC S σ τ j 181 306 []) (K : ∀ S2 σ2 τ2, REL S2 σ2 (j + 1) → σ2 0 = σ 0 → S2.2.2.1 0 = S.2.2.1 0 → wi 60 331 1847 [.ref 0, .ref 1, .ref 83, .int (wI i)] [] S2 σ2 τ2 Q) : wi 60 331 1478 [.ref 0, .ref 1, .ref 83, .int (wI i)] [] S σ τ Q := by
  have ok1 : ∀ (T : zS) (σ τ : zI), kO T σ τ → oK T 1 111 0 := fun T σ τ => lo (c := 1) rfl (by decide)
  have ok83 : ∀ (T : zS) (σ τ : zI), kO T σ τ → oK T 83 112 0 := fun T σ τ => lo (c := 83) rfl (by decide)
  refine i5 c_331_1478 rfl ?_
  refine i80 (As := []) (rest := []) (n := 0) c_331_1479 mi_181 rfl rfl (Nat.le_of_ble_eq_true rfl) (Nat.le_of_ble_eq_true rfl) (ok1 S _ _) (wc_to P (fun r1 S1 σ1 τ1 _ h => ?_))
  obtain ⟨x, rfl, ⟨e0, eS⟩, P2⟩ := h
  show wi 60 331 1482 [.ref 0, .ref 1, .ref 83, .int (wI i)] [.int (wI x)] S1 σ1 τ1 Q
  refine i5 c_331_1482 rfl ?_
  refine i80 (As := []) (rest := [.int (wI x)]) (n := 0) c_331_1483 mi_306 rfl rfl (Nat.le_of_ble_eq_true rfl) (Nat.le_of_ble_eq_true rfl) (ok83 S1 _ _) (wc_to P2 (fun r2 S2 σ2 τ2 _ h => ?_))
  obtain ⟨rfl, R2, f0, fS⟩ := h
  show wi 60 331 1486 [.ref 0, .ref 1, .ref 83, .int (wI i)] [.int (wI x), .int (wI x)] S2 σ2 τ2 Q
  exact i37e c_331_1486 rfl (K S2 σ2 τ2 R2 f0 fS)
theorem lw_wish {S : zS} {σ τ : zI} {Q : zQ} {i j : Int} {n : Nat} (hn : S.2.2.1 0 = (0, n)) (hb : n < 2147483648) (hi : 0 ≤ i ∧ i + 7 ≤ n) (rv : ∀ k, rg (σ 0 k)) (P : PairC S σ τ j 182 307 [.int (wI (σ 0 (i + 1))), .int (wI (σ 0 (i + 2)))]) (K : ∀ S2 σ2 τ2, REL S2 σ2 (j + 1) → σ2 0 = σ 0 → S2.2.2.1 0 = S.2.2.1 0 → wi 60 331 1847 [.ref 0, .ref 1, .ref 83, .int (wI i)] [] S2 σ2 τ2 Q) : wi 60 331 1491 [.ref 0, .ref 1, .ref 83, .int (wI i)] [] S σ τ Q := by
  have ok1 : ∀ (T : zS) (σ τ : zI), kO T σ τ → oK T 1 111 0 := fun T σ τ => lo (c := 1) rfl (by decide)
  have ok83 : ∀ (T : zS) (σ τ : zI), kO T σ τ → oK T 83 112 0 := fun T σ τ => lo (c := 83) rfl (by decide)
  refine i5 c_331_1491 rfl (la_ hn hb c_331_1492 c_331_1493 c_331_1494 c_331_1495 c_331_1496 (by omega) rfl (la_ hn hb c_331_1497 c_331_1498 c_331_1499 c_331_1500 c_331_1501 (by omega) rfl ?_))
  refine i80 (As := [.int (wI (σ 0 (i + 1))), .int (wI (σ 0 (i + 2)))]) (rest := []) (n := 0) c_331_1502 mi_182 rfl rfl (Nat.le_of_ble_eq_true rfl) (Nat.le_of_ble_eq_true rfl) (ok1 S _ _) (wc_to P (fun r1 S1 σ1 τ1 _ h => ?_))
  obtain ⟨x, rfl, ⟨e0, eS⟩, P2⟩ := h
  show wi 60 331 1505 [.ref 0, .ref 1, .ref 83, .int (wI i)] [.int (wI x)] S1 σ1 τ1 Q
  refine i5 c_331_1505 rfl (la_ (eS.trans hn) hb c_331_1506 c_331_1507 c_331_1508 c_331_1509 c_331_1510 (by omega) (congrFun e0 _) (la_ (eS.trans hn) hb c_331_1511 c_331_1512 c_331_1513 c_331_1514 c_331_1515 (by omega) (congrFun e0 _) ?_))
  refine i80 (As := [.int (wI (σ 0 (i + 1))), .int (wI (σ 0 (i + 2)))]) (rest := [.int (wI x)]) (n := 0) c_331_1516 mi_307 rfl rfl (Nat.le_of_ble_eq_true rfl) (Nat.le_of_ble_eq_true rfl) (ok83 S1 _ _) (wc_to P2 (fun r2 S2 σ2 τ2 _ h => ?_))
  obtain ⟨rfl, R2, f0, fS⟩ := h
  show wi 60 331 1519 [.ref 0, .ref 1, .ref 83, .int (wI i)] [.int (wI x), .int (wI x)] S2 σ2 τ2 Q
  exact i37e c_331_1519 rfl (K S2 σ2 τ2 R2 f0 fS)
theorem lw_made {S : zS} {σ τ : zI} {Q : zQ} {i j : Int} {n : Nat} (hn : S.2.2.1 0 = (0, n)) (hb : n < 2147483648) (hi : 0 ≤ i ∧ i + 7 ≤ n) (rv : ∀ k, rg (σ 0 k)) (P : PairC S σ τ j 183 310 [.int (wI (σ 0 (i + 1))), .int (wI (σ 0 (i + 2))), .int (wI (σ 0 (i + 3))), .int (wI (σ 0 (i + 4)))]) (K : ∀ S2 σ2 τ2, REL S2 σ2 (j + 1) → σ2 0 = σ 0 → S2.2.2.1 0 = S.2.2.1 0 → wi 60 331 1847 [.ref 0, .ref 1, .ref 83, .int (wI i)] [] S2 σ2 τ2 Q) : wi 60 331 1524 [.ref 0, .ref 1, .ref 83, .int (wI i)] [] S σ τ Q := by
  have ok1 : ∀ (T : zS) (σ τ : zI), kO T σ τ → oK T 1 111 0 := fun T σ τ => lo (c := 1) rfl (by decide)
  have ok83 : ∀ (T : zS) (σ τ : zI), kO T σ τ → oK T 83 112 0 := fun T σ τ => lo (c := 83) rfl (by decide)
  refine i5 c_331_1524 rfl (la_ hn hb c_331_1525 c_331_1526 c_331_1527 c_331_1528 c_331_1529 (by omega) rfl (la_ hn hb c_331_1530 c_331_1531 c_331_1532 c_331_1533 c_331_1534 (by omega) rfl (la_ hn hb c_331_1535 c_331_1536 c_331_1537 c_331_1538 c_331_1539 (by omega) rfl (la_ hn hb c_331_1540 c_331_1541 c_331_1542 c_331_1543 c_331_1544 (by omega) rfl ?_))))
  refine i80 (As := [.int (wI (σ 0 (i + 1))), .int (wI (σ 0 (i + 2))), .int (wI (σ 0 (i + 3))), .int (wI (σ 0 (i + 4)))]) (rest := []) (n := 0) c_331_1545 mi_183 rfl rfl (Nat.le_of_ble_eq_true rfl) (Nat.le_of_ble_eq_true rfl) (ok1 S _ _) (wc_to P (fun r1 S1 σ1 τ1 _ h => ?_))
  obtain ⟨x, rfl, ⟨e0, eS⟩, P2⟩ := h
  show wi 60 331 1548 [.ref 0, .ref 1, .ref 83, .int (wI i)] [.int (wI x)] S1 σ1 τ1 Q
  refine i5 c_331_1548 rfl (la_ (eS.trans hn) hb c_331_1549 c_331_1550 c_331_1551 c_331_1552 c_331_1553 (by omega) (congrFun e0 _) (la_ (eS.trans hn) hb c_331_1554 c_331_1555 c_331_1556 c_331_1557 c_331_1558 (by omega) (congrFun e0 _) (la_ (eS.trans hn) hb c_331_1559 c_331_1560 c_331_1561 c_331_1562 c_331_1563 (by omega) (congrFun e0 _) (la_ (eS.trans hn) hb c_331_1564 c_331_1565 c_331_1566 c_331_1567 c_331_1568 (by omega) (congrFun e0 _) ?_))))
  refine i80 (As := [.int (wI (σ 0 (i + 1))), .int (wI (σ 0 (i + 2))), .int (wI (σ 0 (i + 3))), .int (wI (σ 0 (i + 4)))]) (rest := [.int (wI x)]) (n := 0) c_331_1569 mi_310 rfl rfl (Nat.le_of_ble_eq_true rfl) (Nat.le_of_ble_eq_true rfl) (ok83 S1 _ _) (wc_to P2 (fun r2 S2 σ2 τ2 _ h => ?_))
  obtain ⟨rfl, R2, f0, fS⟩ := h
  show wi 60 331 1572 [.ref 0, .ref 1, .ref 83, .int (wI i)] [.int (wI x), .int (wI x)] S2 σ2 τ2 Q
  exact i37e c_331_1572 rfl (K S2 σ2 τ2 R2 f0 fS)
theorem lw_proof {S : zS} {σ τ : zI} {Q : zQ} {i j : Int} {n : Nat} (hn : S.2.2.1 0 = (0, n)) (hb : n < 2147483648) (hi : 0 ≤ i ∧ i + 7 ≤ n) (rv : ∀ k, rg (σ 0 k)) (P : PairC S σ τ j 184 311 [.int (wI (σ 0 (i + 1))), .int (wI (σ 0 (i + 2)))]) (K : ∀ S2 σ2 τ2, REL S2 σ2 (j + 1) → σ2 0 = σ 0 → S2.2.2.1 0 = S.2.2.1 0 → wi 60 331 1847 [.ref 0, .ref 1, .ref 83, .int (wI i)] [] S2 σ2 τ2 Q) : wi 60 331 1577 [.ref 0, .ref 1, .ref 83, .int (wI i)] [] S σ τ Q := by
  have ok1 : ∀ (T : zS) (σ τ : zI), kO T σ τ → oK T 1 111 0 := fun T σ τ => lo (c := 1) rfl (by decide)
  have ok83 : ∀ (T : zS) (σ τ : zI), kO T σ τ → oK T 83 112 0 := fun T σ τ => lo (c := 83) rfl (by decide)
  refine i5 c_331_1577 rfl (la_ hn hb c_331_1578 c_331_1579 c_331_1580 c_331_1581 c_331_1582 (by omega) rfl (la_ hn hb c_331_1583 c_331_1584 c_331_1585 c_331_1586 c_331_1587 (by omega) rfl ?_))
  refine i80 (As := [.int (wI (σ 0 (i + 1))), .int (wI (σ 0 (i + 2)))]) (rest := []) (n := 0) c_331_1588 mi_184 rfl rfl (Nat.le_of_ble_eq_true rfl) (Nat.le_of_ble_eq_true rfl) (ok1 S _ _) (wc_to P (fun r1 S1 σ1 τ1 _ h => ?_))
  obtain ⟨x, rfl, ⟨e0, eS⟩, P2⟩ := h
  show wi 60 331 1591 [.ref 0, .ref 1, .ref 83, .int (wI i)] [.int (wI x)] S1 σ1 τ1 Q
  refine i5 c_331_1591 rfl (la_ (eS.trans hn) hb c_331_1592 c_331_1593 c_331_1594 c_331_1595 c_331_1596 (by omega) (congrFun e0 _) (la_ (eS.trans hn) hb c_331_1597 c_331_1598 c_331_1599 c_331_1600 c_331_1601 (by omega) (congrFun e0 _) ?_))
  refine i80 (As := [.int (wI (σ 0 (i + 1))), .int (wI (σ 0 (i + 2)))]) (rest := [.int (wI x)]) (n := 0) c_331_1602 mi_311 rfl rfl (Nat.le_of_ble_eq_true rfl) (Nat.le_of_ble_eq_true rfl) (ok83 S1 _ _) (wc_to P2 (fun r2 S2 σ2 τ2 _ h => ?_))
  obtain ⟨rfl, R2, f0, fS⟩ := h
  show wi 60 331 1605 [.ref 0, .ref 1, .ref 83, .int (wI i)] [.int (wI x), .int (wI x)] S2 σ2 τ2 Q
  exact i37e c_331_1605 rfl (K S2 σ2 τ2 R2 f0 fS)
theorem lw_shared {S : zS} {σ τ : zI} {Q : zQ} {i j : Int} {n : Nat} (hn : S.2.2.1 0 = (0, n)) (hb : n < 2147483648) (hi : 0 ≤ i ∧ i + 7 ≤ n) (rv : ∀ k, rg (σ 0 k)) (P : PairC S σ τ j 185 315 [.int (wI (σ 0 (i + 1))), .int (wI (σ 0 (i + 2)))]) (K : ∀ S2 σ2 τ2, REL S2 σ2 (j + 1) → σ2 0 = σ 0 → S2.2.2.1 0 = S.2.2.1 0 → wi 60 331 1847 [.ref 0, .ref 1, .ref 83, .int (wI i)] [] S2 σ2 τ2 Q) : wi 60 331 1610 [.ref 0, .ref 1, .ref 83, .int (wI i)] [] S σ τ Q := by
  have ok1 : ∀ (T : zS) (σ τ : zI), kO T σ τ → oK T 1 111 0 := fun T σ τ => lo (c := 1) rfl (by decide)
  have ok83 : ∀ (T : zS) (σ τ : zI), kO T σ τ → oK T 83 112 0 := fun T σ τ => lo (c := 83) rfl (by decide)
  refine i5 c_331_1610 rfl (la_ hn hb c_331_1611 c_331_1612 c_331_1613 c_331_1614 c_331_1615 (by omega) rfl (la_ hn hb c_331_1616 c_331_1617 c_331_1618 c_331_1619 c_331_1620 (by omega) rfl ?_))
  refine i80 (As := [.int (wI (σ 0 (i + 1))), .int (wI (σ 0 (i + 2)))]) (rest := []) (n := 0) c_331_1621 mi_185 rfl rfl (Nat.le_of_ble_eq_true rfl) (Nat.le_of_ble_eq_true rfl) (ok1 S _ _) (wc_to P (fun r1 S1 σ1 τ1 _ h => ?_))
  obtain ⟨x, rfl, ⟨e0, eS⟩, P2⟩ := h
  show wi 60 331 1624 [.ref 0, .ref 1, .ref 83, .int (wI i)] [.int (wI x)] S1 σ1 τ1 Q
  refine i5 c_331_1624 rfl (la_ (eS.trans hn) hb c_331_1625 c_331_1626 c_331_1627 c_331_1628 c_331_1629 (by omega) (congrFun e0 _) (la_ (eS.trans hn) hb c_331_1630 c_331_1631 c_331_1632 c_331_1633 c_331_1634 (by omega) (congrFun e0 _) ?_))
  refine i80 (As := [.int (wI (σ 0 (i + 1))), .int (wI (σ 0 (i + 2)))]) (rest := [.int (wI x)]) (n := 0) c_331_1635 mi_315 rfl rfl (Nat.le_of_ble_eq_true rfl) (Nat.le_of_ble_eq_true rfl) (ok83 S1 _ _) (wc_to P2 (fun r2 S2 σ2 τ2 _ h => ?_))
  obtain ⟨rfl, R2, f0, fS⟩ := h
  show wi 60 331 1638 [.ref 0, .ref 1, .ref 83, .int (wI i)] [.int (wI x), .int (wI x)] S2 σ2 τ2 Q
  exact i37e c_331_1638 rfl (K S2 σ2 τ2 R2 f0 fS)
theorem lw_loaf {S : zS} {σ τ : zI} {Q : zQ} {i j : Int} {n : Nat} (hn : S.2.2.1 0 = (0, n)) (hb : n < 2147483648) (hi : 0 ≤ i ∧ i + 7 ≤ n) (rv : ∀ k, rg (σ 0 k)) (P : PairC S σ τ j 186 317 [.int (wI (σ 0 (i + 1))), .int (wI (σ 0 (i + 2)))]) (K : ∀ S2 σ2 τ2, REL S2 σ2 (j + 1) → σ2 0 = σ 0 → S2.2.2.1 0 = S.2.2.1 0 → wi 60 331 1847 [.ref 0, .ref 1, .ref 83, .int (wI i)] [] S2 σ2 τ2 Q) : wi 60 331 1643 [.ref 0, .ref 1, .ref 83, .int (wI i)] [] S σ τ Q := by
  have ok1 : ∀ (T : zS) (σ τ : zI), kO T σ τ → oK T 1 111 0 := fun T σ τ => lo (c := 1) rfl (by decide)
  have ok83 : ∀ (T : zS) (σ τ : zI), kO T σ τ → oK T 83 112 0 := fun T σ τ => lo (c := 83) rfl (by decide)
  refine i5 c_331_1643 rfl (la_ hn hb c_331_1644 c_331_1645 c_331_1646 c_331_1647 c_331_1648 (by omega) rfl (la_ hn hb c_331_1649 c_331_1650 c_331_1651 c_331_1652 c_331_1653 (by omega) rfl ?_))
  refine i80 (As := [.int (wI (σ 0 (i + 1))), .int (wI (σ 0 (i + 2)))]) (rest := []) (n := 0) c_331_1654 mi_186 rfl rfl (Nat.le_of_ble_eq_true rfl) (Nat.le_of_ble_eq_true rfl) (ok1 S _ _) (wc_to P (fun r1 S1 σ1 τ1 _ h => ?_))
  obtain ⟨x, rfl, ⟨e0, eS⟩, P2⟩ := h
  show wi 60 331 1657 [.ref 0, .ref 1, .ref 83, .int (wI i)] [.int (wI x)] S1 σ1 τ1 Q
  refine i5 c_331_1657 rfl (la_ (eS.trans hn) hb c_331_1658 c_331_1659 c_331_1660 c_331_1661 c_331_1662 (by omega) (congrFun e0 _) (la_ (eS.trans hn) hb c_331_1663 c_331_1664 c_331_1665 c_331_1666 c_331_1667 (by omega) (congrFun e0 _) ?_))
  refine i80 (As := [.int (wI (σ 0 (i + 1))), .int (wI (σ 0 (i + 2)))]) (rest := [.int (wI x)]) (n := 0) c_331_1668 mi_317 rfl rfl (Nat.le_of_ble_eq_true rfl) (Nat.le_of_ble_eq_true rfl) (ok83 S1 _ _) (wc_to P2 (fun r2 S2 σ2 τ2 _ h => ?_))
  obtain ⟨rfl, R2, f0, fS⟩ := h
  show wi 60 331 1671 [.ref 0, .ref 1, .ref 83, .int (wI i)] [.int (wI x), .int (wI x)] S2 σ2 τ2 Q
  exact i37e c_331_1671 rfl (K S2 σ2 τ2 R2 f0 fS)
theorem lw_sheet {S : zS} {σ τ : zI} {Q : zQ} {i j : Int} {n : Nat} (hn : S.2.2.1 0 = (0, n)) (hb : n < 2147483648) (hi : 0 ≤ i ∧ i + 7 ≤ n) (rv : ∀ k, rg (σ 0 k)) (P : PairC S σ τ j 187 319 [.int (wI (σ 0 (i + 1)))]) (K : ∀ S2 σ2 τ2, REL S2 σ2 (j + 1) → σ2 0 = σ 0 → S2.2.2.1 0 = S.2.2.1 0 → wi 60 331 1847 [.ref 0, .ref 1, .ref 83, .int (wI i)] [] S2 σ2 τ2 Q) : wi 60 331 1676 [.ref 0, .ref 1, .ref 83, .int (wI i)] [] S σ τ Q := by
  have ok1 : ∀ (T : zS) (σ τ : zI), kO T σ τ → oK T 1 111 0 := fun T σ τ => lo (c := 1) rfl (by decide)
  have ok83 : ∀ (T : zS) (σ τ : zI), kO T σ τ → oK T 83 112 0 := fun T σ τ => lo (c := 83) rfl (by decide)
  refine i5 c_331_1676 rfl (la_ hn hb c_331_1677 c_331_1678 c_331_1679 c_331_1680 c_331_1681 (by omega) rfl ?_)
  refine i80 (As := [.int (wI (σ 0 (i + 1)))]) (rest := []) (n := 0) c_331_1682 mi_187 rfl rfl (Nat.le_of_ble_eq_true rfl) (Nat.le_of_ble_eq_true rfl) (ok1 S _ _) (wc_to P (fun r1 S1 σ1 τ1 _ h => ?_))
  obtain ⟨x, rfl, ⟨e0, eS⟩, P2⟩ := h
  show wi 60 331 1685 [.ref 0, .ref 1, .ref 83, .int (wI i)] [.int (wI x)] S1 σ1 τ1 Q
  refine i5 c_331_1685 rfl (la_ (eS.trans hn) hb c_331_1686 c_331_1687 c_331_1688 c_331_1689 c_331_1690 (by omega) (congrFun e0 _) ?_)
  refine i80 (As := [.int (wI (σ 0 (i + 1)))]) (rest := [.int (wI x)]) (n := 0) c_331_1691 mi_319 rfl rfl (Nat.le_of_ble_eq_true rfl) (Nat.le_of_ble_eq_true rfl) (ok83 S1 _ _) (wc_to P2 (fun r2 S2 σ2 τ2 _ h => ?_))
  obtain ⟨rfl, R2, f0, fS⟩ := h
  show wi 60 331 1694 [.ref 0, .ref 1, .ref 83, .int (wI i)] [.int (wI x), .int (wI x)] S2 σ2 τ2 Q
  exact i37e c_331_1694 rfl (K S2 σ2 τ2 R2 f0 fS)
theorem lw_onSheet {S : zS} {σ τ : zI} {Q : zQ} {i j : Int} {n : Nat} (hn : S.2.2.1 0 = (0, n)) (hb : n < 2147483648) (hi : 0 ≤ i ∧ i + 7 ≤ n) (rv : ∀ k, rg (σ 0 k)) (P : PairC S σ τ j 188 321 [.int (wI (σ 0 (i + 1))), .int (wI (σ 0 (i + 2)))]) (K : ∀ S2 σ2 τ2, REL S2 σ2 (j + 1) → σ2 0 = σ 0 → S2.2.2.1 0 = S.2.2.1 0 → wi 60 331 1847 [.ref 0, .ref 1, .ref 83, .int (wI i)] [] S2 σ2 τ2 Q) : wi 60 331 1699 [.ref 0, .ref 1, .ref 83, .int (wI i)] [] S σ τ Q := by
  have ok1 : ∀ (T : zS) (σ τ : zI), kO T σ τ → oK T 1 111 0 := fun T σ τ => lo (c := 1) rfl (by decide)
  have ok83 : ∀ (T : zS) (σ τ : zI), kO T σ τ → oK T 83 112 0 := fun T σ τ => lo (c := 83) rfl (by decide)
  refine i5 c_331_1699 rfl (la_ hn hb c_331_1700 c_331_1701 c_331_1702 c_331_1703 c_331_1704 (by omega) rfl (la_ hn hb c_331_1705 c_331_1706 c_331_1707 c_331_1708 c_331_1709 (by omega) rfl ?_))
  refine i80 (As := [.int (wI (σ 0 (i + 1))), .int (wI (σ 0 (i + 2)))]) (rest := []) (n := 0) c_331_1710 mi_188 rfl rfl (Nat.le_of_ble_eq_true rfl) (Nat.le_of_ble_eq_true rfl) (ok1 S _ _) (wc_to P (fun r1 S1 σ1 τ1 _ h => ?_))
  obtain ⟨x, rfl, ⟨e0, eS⟩, P2⟩ := h
  show wi 60 331 1713 [.ref 0, .ref 1, .ref 83, .int (wI i)] [.int (wI x)] S1 σ1 τ1 Q
  refine i5 c_331_1713 rfl (la_ (eS.trans hn) hb c_331_1714 c_331_1715 c_331_1716 c_331_1717 c_331_1718 (by omega) (congrFun e0 _) (la_ (eS.trans hn) hb c_331_1719 c_331_1720 c_331_1721 c_331_1722 c_331_1723 (by omega) (congrFun e0 _) ?_))
  refine i80 (As := [.int (wI (σ 0 (i + 1))), .int (wI (σ 0 (i + 2)))]) (rest := [.int (wI x)]) (n := 0) c_331_1724 mi_321 rfl rfl (Nat.le_of_ble_eq_true rfl) (Nat.le_of_ble_eq_true rfl) (ok83 S1 _ _) (wc_to P2 (fun r2 S2 σ2 τ2 _ h => ?_))
  obtain ⟨rfl, R2, f0, fS⟩ := h
  show wi 60 331 1727 [.ref 0, .ref 1, .ref 83, .int (wI i)] [.int (wI x), .int (wI x)] S2 σ2 τ2 Q
  exact i37e c_331_1727 rfl (K S2 σ2 τ2 R2 f0 fS)
theorem lw_alter {S : zS} {σ τ : zI} {Q : zQ} {i j : Int} {n : Nat} (hn : S.2.2.1 0 = (0, n)) (hb : n < 2147483648) (hi : 0 ≤ i ∧ i + 7 ≤ n) (rv : ∀ k, rg (σ 0 k)) (P : PairC S σ τ j 189 322 [.int (wI (σ 0 (i + 1))), .int (wI (σ 0 (i + 2))), .int (wI (σ 0 (i + 3)))]) (K : ∀ S2 σ2 τ2, REL S2 σ2 (j + 1) → σ2 0 = σ 0 → S2.2.2.1 0 = S.2.2.1 0 → wi 60 331 1847 [.ref 0, .ref 1, .ref 83, .int (wI i)] [] S2 σ2 τ2 Q) : wi 60 331 1732 [.ref 0, .ref 1, .ref 83, .int (wI i)] [] S σ τ Q := by
  have ok1 : ∀ (T : zS) (σ τ : zI), kO T σ τ → oK T 1 111 0 := fun T σ τ => lo (c := 1) rfl (by decide)
  have ok83 : ∀ (T : zS) (σ τ : zI), kO T σ τ → oK T 83 112 0 := fun T σ τ => lo (c := 83) rfl (by decide)
  refine i5 c_331_1732 rfl (la_ hn hb c_331_1733 c_331_1734 c_331_1735 c_331_1736 c_331_1737 (by omega) rfl (la_ hn hb c_331_1738 c_331_1739 c_331_1740 c_331_1741 c_331_1742 (by omega) rfl (la_ hn hb c_331_1743 c_331_1744 c_331_1745 c_331_1746 c_331_1747 (by omega) rfl ?_)))
  refine i80 (As := [.int (wI (σ 0 (i + 1))), .int (wI (σ 0 (i + 2))), .int (wI (σ 0 (i + 3)))]) (rest := []) (n := 0) c_331_1748 mi_189 rfl rfl (Nat.le_of_ble_eq_true rfl) (Nat.le_of_ble_eq_true rfl) (ok1 S _ _) (wc_to P (fun r1 S1 σ1 τ1 _ h => ?_))
  obtain ⟨x, rfl, ⟨e0, eS⟩, P2⟩ := h
  show wi 60 331 1751 [.ref 0, .ref 1, .ref 83, .int (wI i)] [.int (wI x)] S1 σ1 τ1 Q
  refine i5 c_331_1751 rfl (la_ (eS.trans hn) hb c_331_1752 c_331_1753 c_331_1754 c_331_1755 c_331_1756 (by omega) (congrFun e0 _) (la_ (eS.trans hn) hb c_331_1757 c_331_1758 c_331_1759 c_331_1760 c_331_1761 (by omega) (congrFun e0 _) (la_ (eS.trans hn) hb c_331_1762 c_331_1763 c_331_1764 c_331_1765 c_331_1766 (by omega) (congrFun e0 _) ?_)))
  refine i80 (As := [.int (wI (σ 0 (i + 1))), .int (wI (σ 0 (i + 2))), .int (wI (σ 0 (i + 3)))]) (rest := [.int (wI x)]) (n := 0) c_331_1767 mi_322 rfl rfl (Nat.le_of_ble_eq_true rfl) (Nat.le_of_ble_eq_true rfl) (ok83 S1 _ _) (wc_to P2 (fun r2 S2 σ2 τ2 _ h => ?_))
  obtain ⟨rfl, R2, f0, fS⟩ := h
  show wi 60 331 1770 [.ref 0, .ref 1, .ref 83, .int (wI i)] [.int (wI x), .int (wI x)] S2 σ2 τ2 Q
  exact i37e c_331_1770 rfl (K S2 σ2 τ2 R2 f0 fS)
theorem lw_check {S : zS} {σ τ : zI} {Q : zQ} {i j : Int} {n : Nat} (hn : S.2.2.1 0 = (0, n)) (hb : n < 2147483648) (hi : 0 ≤ i ∧ i + 7 ≤ n) (rv : ∀ k, rg (σ 0 k)) (P : PairC S σ τ j 190 323 [.int (wI (σ 0 (i + 1)))]) (K : ∀ S2 σ2 τ2, REL S2 σ2 (j + 1) → σ2 0 = σ 0 → S2.2.2.1 0 = S.2.2.1 0 → wi 60 331 1847 [.ref 0, .ref 1, .ref 83, .int (wI i)] [] S2 σ2 τ2 Q) : wi 60 331 1775 [.ref 0, .ref 1, .ref 83, .int (wI i)] [] S σ τ Q := by
  have ok1 : ∀ (T : zS) (σ τ : zI), kO T σ τ → oK T 1 111 0 := fun T σ τ => lo (c := 1) rfl (by decide)
  have ok83 : ∀ (T : zS) (σ τ : zI), kO T σ τ → oK T 83 112 0 := fun T σ τ => lo (c := 83) rfl (by decide)
  refine i5 c_331_1775 rfl (la_ hn hb c_331_1776 c_331_1777 c_331_1778 c_331_1779 c_331_1780 (by omega) rfl ?_)
  refine i80 (As := [.int (wI (σ 0 (i + 1)))]) (rest := []) (n := 0) c_331_1781 mi_190 rfl rfl (Nat.le_of_ble_eq_true rfl) (Nat.le_of_ble_eq_true rfl) (ok1 S _ _) (wc_to P (fun r1 S1 σ1 τ1 _ h => ?_))
  obtain ⟨x, rfl, ⟨e0, eS⟩, P2⟩ := h
  show wi 60 331 1784 [.ref 0, .ref 1, .ref 83, .int (wI i)] [.int (wI x)] S1 σ1 τ1 Q
  refine i5 c_331_1784 rfl (la_ (eS.trans hn) hb c_331_1785 c_331_1786 c_331_1787 c_331_1788 c_331_1789 (by omega) (congrFun e0 _) ?_)
  refine i80 (As := [.int (wI (σ 0 (i + 1)))]) (rest := [.int (wI x)]) (n := 0) c_331_1790 mi_323 rfl rfl (Nat.le_of_ble_eq_true rfl) (Nat.le_of_ble_eq_true rfl) (ok83 S1 _ _) (wc_to P2 (fun r2 S2 σ2 τ2 _ h => ?_))
  obtain ⟨rfl, R2, f0, fS⟩ := h
  show wi 60 331 1793 [.ref 0, .ref 1, .ref 83, .int (wI i)] [.int (wI x), .int (wI x)] S2 σ2 τ2 Q
  exact i37e c_331_1793 rfl (K S2 σ2 τ2 R2 f0 fS)
theorem lw_image {S : zS} {σ τ : zI} {Q : zQ} {i j : Int} {n : Nat} (hn : S.2.2.1 0 = (0, n)) (hb : n < 2147483648) (hi : 0 ≤ i ∧ i + 7 ≤ n) (rv : ∀ k, rg (σ 0 k)) (P : PairC S σ τ j 191 324 []) (K : ∀ S2 σ2 τ2, REL S2 σ2 (j + 1) → σ2 0 = σ 0 → S2.2.2.1 0 = S.2.2.1 0 → wi 60 331 1847 [.ref 0, .ref 1, .ref 83, .int (wI i)] [] S2 σ2 τ2 Q) : wi 60 331 1798 [.ref 0, .ref 1, .ref 83, .int (wI i)] [] S σ τ Q := by
  have ok1 : ∀ (T : zS) (σ τ : zI), kO T σ τ → oK T 1 111 0 := fun T σ τ => lo (c := 1) rfl (by decide)
  have ok83 : ∀ (T : zS) (σ τ : zI), kO T σ τ → oK T 83 112 0 := fun T σ τ => lo (c := 83) rfl (by decide)
  refine i5 c_331_1798 rfl ?_
  refine i80 (As := []) (rest := []) (n := 0) c_331_1799 mi_191 rfl rfl (Nat.le_of_ble_eq_true rfl) (Nat.le_of_ble_eq_true rfl) (ok1 S _ _) (wc_to P (fun r1 S1 σ1 τ1 _ h => ?_))
  obtain ⟨x, rfl, ⟨e0, eS⟩, P2⟩ := h
  show wi 60 331 1802 [.ref 0, .ref 1, .ref 83, .int (wI i)] [.int (wI x)] S1 σ1 τ1 Q
  refine i5 c_331_1802 rfl ?_
  refine i80 (As := []) (rest := [.int (wI x)]) (n := 0) c_331_1803 mi_324 rfl rfl (Nat.le_of_ble_eq_true rfl) (Nat.le_of_ble_eq_true rfl) (ok83 S1 _ _) (wc_to P2 (fun r2 S2 σ2 τ2 _ h => ?_))
  obtain ⟨rfl, R2, f0, fS⟩ := h
  show wi 60 331 1806 [.ref 0, .ref 1, .ref 83, .int (wI i)] [.int (wI x), .int (wI x)] S2 σ2 τ2 Q
  exact i37e c_331_1806 rfl (K S2 σ2 τ2 R2 f0 fS)
theorem lw_back {S : zS} {σ τ : zI} {Q : zQ} {i j : Int} {n : Nat} (hn : S.2.2.1 0 = (0, n)) (hb : n < 2147483648) (hi : 0 ≤ i ∧ i + 7 ≤ n) (rv : ∀ k, rg (σ 0 k)) (P : PairC S σ τ j 192 325 []) (K : ∀ S2 σ2 τ2, REL S2 σ2 (j + 1) → σ2 0 = σ 0 → S2.2.2.1 0 = S.2.2.1 0 → wi 60 331 1847 [.ref 0, .ref 1, .ref 83, .int (wI i)] [] S2 σ2 τ2 Q) : wi 60 331 1811 [.ref 0, .ref 1, .ref 83, .int (wI i)] [] S σ τ Q := by
  have ok1 : ∀ (T : zS) (σ τ : zI), kO T σ τ → oK T 1 111 0 := fun T σ τ => lo (c := 1) rfl (by decide)
  have ok83 : ∀ (T : zS) (σ τ : zI), kO T σ τ → oK T 83 112 0 := fun T σ τ => lo (c := 83) rfl (by decide)
  refine i5 c_331_1811 rfl ?_
  refine i80 (As := []) (rest := []) (n := 0) c_331_1812 mi_192 rfl rfl (Nat.le_of_ble_eq_true rfl) (Nat.le_of_ble_eq_true rfl) (ok1 S _ _) (wc_to P (fun r1 S1 σ1 τ1 _ h => ?_))
  obtain ⟨x, rfl, ⟨e0, eS⟩, P2⟩ := h
  show wi 60 331 1815 [.ref 0, .ref 1, .ref 83, .int (wI i)] [.int (wI x)] S1 σ1 τ1 Q
  refine i5 c_331_1815 rfl ?_
  refine i80 (As := []) (rest := [.int (wI x)]) (n := 0) c_331_1816 mi_325 rfl rfl (Nat.le_of_ble_eq_true rfl) (Nat.le_of_ble_eq_true rfl) (ok83 S1 _ _) (wc_to P2 (fun r2 S2 σ2 τ2 _ h => ?_))
  obtain ⟨rfl, R2, f0, fS⟩ := h
  show wi 60 331 1819 [.ref 0, .ref 1, .ref 83, .int (wI i)] [.int (wI x), .int (wI x)] S2 σ2 τ2 Q
  exact i37e c_331_1819 rfl (K S2 σ2 τ2 R2 f0 fS)
theorem lw_about {S : zS} {σ τ : zI} {Q : zQ} {i j : Int} {n : Nat} (hn : S.2.2.1 0 = (0, n)) (hb : n < 2147483648) (hi : 0 ≤ i ∧ i + 7 ≤ n) (rv : ∀ k, rg (σ 0 k)) (P : PairC S σ τ j 193 326 [.int (wI (σ 0 (i + 1)))]) (K : ∀ S2 σ2 τ2, REL S2 σ2 (j + 1) → σ2 0 = σ 0 → S2.2.2.1 0 = S.2.2.1 0 → wi 60 331 1847 [.ref 0, .ref 1, .ref 83, .int (wI i)] [] S2 σ2 τ2 Q) : wi 60 331 1824 [.ref 0, .ref 1, .ref 83, .int (wI i)] [] S σ τ Q := by
  have ok1 : ∀ (T : zS) (σ τ : zI), kO T σ τ → oK T 1 111 0 := fun T σ τ => lo (c := 1) rfl (by decide)
  have ok83 : ∀ (T : zS) (σ τ : zI), kO T σ τ → oK T 83 112 0 := fun T σ τ => lo (c := 83) rfl (by decide)
  refine i5 c_331_1824 rfl (la_ hn hb c_331_1825 c_331_1826 c_331_1827 c_331_1828 c_331_1829 (by omega) rfl ?_)
  refine i80 (As := [.int (wI (σ 0 (i + 1)))]) (rest := []) (n := 0) c_331_1830 mi_193 rfl rfl (Nat.le_of_ble_eq_true rfl) (Nat.le_of_ble_eq_true rfl) (ok1 S _ _) (wc_to P (fun r1 S1 σ1 τ1 _ h => ?_))
  obtain ⟨x, rfl, ⟨e0, eS⟩, P2⟩ := h
  show wi 60 331 1833 [.ref 0, .ref 1, .ref 83, .int (wI i)] [.int (wI x)] S1 σ1 τ1 Q
  refine i5 c_331_1833 rfl (la_ (eS.trans hn) hb c_331_1834 c_331_1835 c_331_1836 c_331_1837 c_331_1838 (by omega) (congrFun e0 _) ?_)
  refine i80 (As := [.int (wI (σ 0 (i + 1)))]) (rest := [.int (wI x)]) (n := 0) c_331_1839 mi_326 rfl rfl (Nat.le_of_ble_eq_true rfl) (Nat.le_of_ble_eq_true rfl) (ok83 S1 _ _) (wc_to P2 (fun r2 S2 σ2 τ2 _ h => ?_))
  obtain ⟨rfl, R2, f0, fS⟩ := h
  show wi 60 331 1842 [.ref 0, .ref 1, .ref 83, .int (wI i)] [.int (wI x), .int (wI x)] S2 σ2 τ2 Q
  exact i37e c_331_1842 rfl (K S2 σ2 τ2 R2 f0 fS)
